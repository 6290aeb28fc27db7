/-! the class: nodes, volumes, the log -/
theorem nP_step {a b : Nat} (ha : a % 1024 = 0) (hb : b % 1024 = 0) (h : a < b) (h4 : b ≤ 4096) : (b + 12) + nP b ≤ nP a := by
  unfold nP
  rcases (show b = 1024 ∨ b = 2048 ∨ b = 3072 ∨ b = 4096 by omega) with rfl | rfl | rfl | rfl
  · rw [if_pos (show a < 1024 by omega)]
    decide
  · rcases (show a = 0 ∨ a = 1024 by omega) with rfl | rfl <;> decide
  · rcases (show a = 0 ∨ a = 1024 ∨ a = 2048 by omega) with rfl | rfl | rfl <;> decide
  · rcases (show a = 0 ∨ a = 1024 ∨ a = 2048 ∨ a = 3072 by omega) with rfl | rfl | rfl | rfl <;> decide
theorem uI_uN {σ : HS} {a k q c n : Nat} {v : Int32} (ne : a ≠ q) : h_uN (h_uI σ a k v) q c n = h_uI (h_uN σ q c n) a k v := by
  have e : va_up (u2 (sI σ) a k v) q (fun _ => (0 : Int32)) = u2 (va_up (sI σ) q (fun _ => (0 : Int32))) a k v := by
    funext x i
    by_cases h1 : x = q
    · subst h1
      rw [va_up_self, u2_addr (Ne.symm ne), va_up_self]
    · rw [va_up_ne _ _ h1]
      by_cases h2 : x = a
      · subst h2
        by_cases h3 : i = k
        · subst h3
          rw [u2_same, u2_same]
        · rw [u2_pl h3, u2_pl h3, va_up_ne _ _ h1]
      · rw [u2_addr h2, u2_addr h2, va_up_ne _ _ h1]
  show (_, _, _, va_up (u2 (sI σ) a k v) q (fun _ => (0 : Int32)), _, _) = (_, _, _, u2 (va_up (sI σ) q (fun _ => (0 : Int32))) a k v, _, _)
  rw [e]
  rfl
set_option maxRecDepth 100000 in
set_option maxHeartbeats 4000000 in
theorem t_X4_copyFrom {G : GE} {E : CE} {W0 : CW} {c : Int} {κ : CS} (hV : CV G E W0 c κ) (h : Nat) (hs_h : W0.1 h = 5) (a1 : Option Nat) (b_a1 : Nat) (e_a1 : a1 = some b_a1) (hs_a1 : W0.1 b_a1 = 5)  (hc : 0 ≤ c) {post : CS → Prop} (kk : ∀ (W' : CW) (κ' : CS), WX W0 W' κ → CV G E W' (c - 0) κ' → CF [(20, 0), (30, 0), (5, 1), (5, 10), (5, 11), (5, 12), (5, 13), (5, 2), (5, 3), (5, 4), (5, 6), (5, 7), (5, 8), (5, 9)] W0 κ κ' → (True) → post κ') : F_X4_copyFrom G h a1 post κ := by
  have hs0_h := hs_h
  have hs0_a1 := hs_a1
  suffices H_ : ∀ W : CW, WX W0 W κ → CV G E W (c - 0) κ → (W.1 h = 5) → (W.1 b_a1 = 5) → F_X4_copyFrom G h a1 post κ from H_ W0 WX.rf (hV.dn (by omega)) hs_h hs_a1
  intro W hx hV hs_h hs_a1
  unfold F_X4_copyFrom
  have hfr : CF [(20, 0), (30, 0), (5, 1), (5, 10), (5, 11), (5, 12), (5, 13), (5, 2), (5, 3), (5, 4), (5, 6), (5, 7), (5, 8), (5, 9)] W0 κ κ := CF.rf
  have k_0 : (0 : Int32).toInt = 0 := rfl
  refine ⟨b_a1, e_a1, (hV.mm hs_a1 (by decide) rfl), ?_⟩
  intro z1 ez1
  have vz1 := hV.1.iv hs_a1 (by decide) rfl 1 0 1 rfl ez1
  have wz1 : z1.toInt = (sI κ.1 b_a1 1).toInt := by rw [ez1]
  refine ⟨by omega, (hV.mm hs_h (by decide) rfl), ?_⟩
  intro κ2 eκ2
  have rv_κ2 := i_range z1
  have hV := hV.uI (k := 1) (v := z1) hs_h (Or.inl rfl) (Or.inr (by decide)) (Or.inl (by decide)) (fun _ => (by omega : (0 : Int) ≤ (z1 : Int32).toInt ∧ (z1 : Int32).toInt ≤ 1)) eκ2
  have uκ2 : (sI κ2.1 h 1).toInt = (z1 : Int32).toInt := by rw [eκ2]; exact congrArg Int32.toInt u2_same
  have f1κ2 : CF [(5, 1)] W κ κ2 := CF.rf.uI (k := 1) hs_h (by decide) (show ((5, 1) : Nat × Nat) ∈ ([(5, 1)] : List (Nat × Nat)) by simp) eκ2
  have hfr := hfr.trW hx f1κ2 (by decide)
  refine ⟨b_a1, e_a1, (hV.mm hs_a1 (by decide) rfl), ?_⟩
  intro z3 ez3
  have vz3 := hV.1.iv hs_a1 (by decide) rfl 2 0 1 rfl ez3
  have wz3 : z3.toInt = (sI κ2.1 b_a1 2).toInt := by rw [ez3]
  refine ⟨by omega, (hV.mm hs_h (by decide) rfl), ?_⟩
  intro κ4 eκ4
  have rv_κ4 := i_range z3
  have hV := hV.uI (k := 2) (v := z3) hs_h (Or.inl rfl) (Or.inr (by decide)) (Or.inl (by decide)) (fun _ => (by omega : (0 : Int) ≤ (z3 : Int32).toInt ∧ (z3 : Int32).toInt ≤ 1)) eκ4
  have uκ4 : (sI κ4.1 h 2).toInt = (z3 : Int32).toInt := by rw [eκ4]; exact congrArg Int32.toInt u2_same
  have f1κ4 : CF [(5, 2)] W κ2 κ4 := CF.rf.uI (k := 2) hs_h (by decide) (show ((5, 2) : Nat × Nat) ∈ ([(5, 2)] : List (Nat × Nat)) by simp) eκ4
  have hfr := hfr.trW hx f1κ4 (by decide)
  refine ⟨by omega, (hV.mm hs_h (by decide) rfl), ?_⟩
  intro κ5 eκ5
  have rv_κ5 := i_range 0
  have hV := hV.uI (k := 3) (v := 0) hs_h (Or.inl rfl) (Or.inr (by decide)) (Or.inl (by decide)) (fun _ => (by omega : (0 : Int) ≤ (0 : Int32).toInt ∧ (0 : Int32).toInt ≤ 1)) eκ5
  have uκ5 : (sI κ5.1 h 3).toInt = (0 : Int32).toInt := by rw [eκ5]; exact congrArg Int32.toInt u2_same
  have f1κ5 : CF [(5, 3)] W κ4 κ5 := CF.rf.uI (k := 3) hs_h (by decide) (show ((5, 3) : Nat × Nat) ∈ ([(5, 3)] : List (Nat × Nat)) by simp) eκ5
  have hfr := hfr.trW hx f1κ5 (by decide)
  refine ⟨b_a1, e_a1, (hV.mm hs_a1 (by decide) rfl), ?_⟩
  intro z6 ez6
  have vz6 := hV.1.iv hs_a1 (by decide) rfl 4 (-2147483648) 2147483647 rfl ez6
  have wz6 : z6.toInt = (sI κ5.1 b_a1 4).toInt := by rw [ez6]
  refine ⟨(hV.mm hs_h (by decide) rfl), ?_⟩
  intro κ7 eκ7
  have rv_κ7 := i_range z6
  have hV := hV.uI (k := 4) (v := z6) hs_h (Or.inl rfl) (Or.inr (by decide)) (Or.inl (by decide)) (fun _ => (by omega : (-2147483648 : Int) ≤ (z6 : Int32).toInt ∧ (z6 : Int32).toInt ≤ 2147483647)) eκ7
  have uκ7 : (sI κ7.1 h 4).toInt = (z6 : Int32).toInt := by rw [eκ7]; exact congrArg Int32.toInt u2_same
  have f1κ7 : CF [(5, 4)] W κ5 κ7 := CF.rf.uI (k := 4) hs_h (by decide) (show ((5, 4) : Nat × Nat) ∈ ([(5, 4)] : List (Nat × Nat)) by simp) eκ7
  have hfr := hfr.trW hx f1κ7 (by decide)
  refine ⟨b_a1, e_a1, (hV.mm hs_a1 (by decide) rfl), ?_⟩
  intro z8 ez8
  have vz8 := hV.1.iv hs_a1 (by decide) rfl 6 0 12 rfl ez8
  have wz8 : z8.toInt = (sI κ7.1 b_a1 6).toInt := by rw [ez8]
  refine ⟨(hV.mm hs_h (by decide) rfl), ?_⟩
  intro κ9 eκ9
  have rv_κ9 := i_range z8
  have hV := hV.uI (k := 6) (v := z8) hs_h (Or.inl rfl) (Or.inr (by decide)) (Or.inl (by decide)) (fun _ => (by omega : (0 : Int) ≤ (z8 : Int32).toInt ∧ (z8 : Int32).toInt ≤ 12)) eκ9
  have uκ9 : (sI κ9.1 h 6).toInt = (z8 : Int32).toInt := by rw [eκ9]; exact congrArg Int32.toInt u2_same
  have f1κ9 : CF [(5, 6)] W κ7 κ9 := CF.rf.uI (k := 6) hs_h (by decide) (show ((5, 6) : Nat × Nat) ∈ ([(5, 6)] : List (Nat × Nat)) by simp) eκ9
  have hfr := hfr.trW hx f1κ9 (by decide)
  refine ⟨b_a1, e_a1, (hV.mm hs_a1 (by decide) rfl), ?_⟩
  intro z10 ez10
  obtain ⟨bz10, ebz10, hsz10⟩ := hV.1.nn hs_a1 (by decide) rfl 5 rfl (by decide)
  have ebz10 := ez10.trans ebz10
  refine ⟨(hV.mm hs_h (by decide) rfl), ?_⟩
  intro z11 ez11
  obtain ⟨bz11, ebz11, hsz11⟩ := hV.1.nn hs_h (by decide) rfl 5 rfl (by decide)
  have ebz11 := ez11.trans ebz11
  refine ⟨(hV.mm hs_h (by decide) rfl), ?_⟩
  intro z12 ez12
  have ebz12 : z12 = some bz11 := (ez12.trans ez11.symm).trans ebz11
  refine ⟨(W.2 bz11), (AL.of hV ebz12 hsz11 (by decide) rfl (by decide)), ?_⟩
  intro z13 ez13
  have lnz13 := nI_ln ez13 (hV.lm hsz11 (by decide) rfl)
  have lmz13 := (hV.lm hsz11 (by decide) rfl)
  have lxz13 := hV.1.fx hsz11 (by decide) rfl 12 rfl (by decide)
  have ln0_ := hV.ln hsz10 (by decide) rfl
  have lx0_ := hV.1.fx hsz10 (by decide) rfl 12 rfl (by decide)
  have ln1_ := hV.ln hsz11 (by decide) rfl
  have lx1_ := hV.1.fx hsz11 (by decide) rfl 12 rfl (by decide)
  refine ⟨bz10, ebz10, bz11, ebz11, (hV.mm hsz10 (by decide) rfl), (hV.mm hsz11 (by decide) rfl), (by omega), fun j hj => (hV.1.el hsz10 (by decide) rfl _ (by omega)).1, ?_⟩
  intro κ14 eκ14
  have hV := hV.cpI hsz10 rfl hsz11 rfl (by omega) eκ14
  have f1κ14 : CF [(30, 0)] W κ9 κ14 := CF.rf.cpI hsz11 rfl (by decide) eκ14
  have hfr := hfr.trW hx f1κ14 (by decide)
  refine ⟨b_a1, e_a1, (hV.mm hs_a1 (by decide) rfl), ?_⟩
  intro z15 ez15
  have vz15 := hV.1.iv hs_a1 (by decide) rfl 7 (-2147483648) 2147483647 rfl ez15
  have wz15 : z15.toInt = (sI κ14.1 b_a1 7).toInt := by rw [ez15]
  refine ⟨(hV.mm hs_h (by decide) rfl), ?_⟩
  intro κ16 eκ16
  have rv_κ16 := i_range z15
  have hV := hV.uI (k := 7) (v := z15) hs_h (Or.inl rfl) (Or.inr (by decide)) (Or.inl (by decide)) (fun _ => (by omega : (-2147483648 : Int) ≤ (z15 : Int32).toInt ∧ (z15 : Int32).toInt ≤ 2147483647)) eκ16
  have uκ16 : (sI κ16.1 h 7).toInt = (z15 : Int32).toInt := by rw [eκ16]; exact congrArg Int32.toInt u2_same
  have f1κ16 : CF [(5, 7)] W κ14 κ16 := CF.rf.uI (k := 7) hs_h (by decide) (show ((5, 7) : Nat × Nat) ∈ ([(5, 7)] : List (Nat × Nat)) by simp) eκ16
  have hfr := hfr.trW hx f1κ16 (by decide)
  refine ⟨b_a1, e_a1, (hV.mm hs_a1 (by decide) rfl), ?_⟩
  intro z17 ez17
  have vz17 := l_range z17
  have wz17 : z17.toInt = (sJ κ16.1 b_a1 8).toInt := by rw [ez17]
  refine ⟨(hV.mm hs_h (by decide) rfl), ?_⟩
  intro κ18 eκ18
  have hV := hV.uJ eκ18
  have f1κ18 : CF [(5, 8)] W κ16 κ18 := CF.rf.uJ (k := 8) hs_h (by decide) (show ((5, 8) : Nat × Nat) ∈ ([(5, 8)] : List (Nat × Nat)) by simp) eκ18
  have hfr := hfr.trW hx f1κ18 (by decide)
  refine ⟨b_a1, e_a1, (hV.mm hs_a1 (by decide) rfl), ?_⟩
  intro z19 ez19
  have vz19 := l_range z19
  have wz19 : z19.toInt = (sJ κ18.1 b_a1 9).toInt := by rw [ez19]
  refine ⟨(hV.mm hs_h (by decide) rfl), ?_⟩
  intro κ20 eκ20
  have hV := hV.uJ eκ20
  have f1κ20 : CF [(5, 9)] W κ18 κ20 := CF.rf.uJ (k := 9) hs_h (by decide) (show ((5, 9) : Nat × Nat) ∈ ([(5, 9)] : List (Nat × Nat)) by simp) eκ20
  have hfr := hfr.trW hx f1κ20 (by decide)
  refine ⟨b_a1, e_a1, (hV.mm hs_a1 (by decide) rfl), ?_⟩
  intro z21 ez21
  have vz21 := l_range z21
  have wz21 : z21.toInt = (sJ κ20.1 b_a1 10).toInt := by rw [ez21]
  refine ⟨(hV.mm hs_h (by decide) rfl), ?_⟩
  intro κ22 eκ22
  have hV := hV.uJ eκ22
  have f1κ22 : CF [(5, 10)] W κ20 κ22 := CF.rf.uJ (k := 10) hs_h (by decide) (show ((5, 10) : Nat × Nat) ∈ ([(5, 10)] : List (Nat × Nat)) by simp) eκ22
  have hfr := hfr.trW hx f1κ22 (by decide)
  refine ⟨b_a1, e_a1, (hV.mm hs_a1 (by decide) rfl), ?_⟩
  intro z23 ez23
  have vz23 := l_range z23
  have wz23 : z23.toInt = (sJ κ22.1 b_a1 11).toInt := by rw [ez23]
  refine ⟨(hV.mm hs_h (by decide) rfl), ?_⟩
  intro κ24 eκ24
  have hV := hV.uJ eκ24
  have f1κ24 : CF [(5, 11)] W κ22 κ24 := CF.rf.uJ (k := 11) hs_h (by decide) (show ((5, 11) : Nat × Nat) ∈ ([(5, 11)] : List (Nat × Nat)) by simp) eκ24
  have hfr := hfr.trW hx f1κ24 (by decide)
  refine ⟨b_a1, e_a1, (hV.mm hs_a1 (by decide) rfl), ?_⟩
  intro z25 ez25
  have vz25 := hV.1.iv hs_a1 (by decide) rfl 12 0 4096 rfl ez25
  have wz25 : z25.toInt = (sI κ24.1 b_a1 12).toInt := by rw [ez25]
  refine ⟨(hV.mm hs_h (by decide) rfl), ?_⟩
  intro κ26 eκ26
  obtain ⟨bd, ed, wd⟩ := hV.1.nn hs_a1 (by decide) rfl 13 rfl (by decide)
  obtain ⟨bh, eh, wh⟩ := hV.1.nn hs_h (by decide) rfl 13 rfl (by decide)
  have nd_ := hV.2.2.1 b_a1 hs_a1 bd ed
  have nh_ := hV.2.2.1 h hs_h bh eh
  have mh := hV.mm hs_h (by decide) rfl
  have ma := hV.mm hs_a1 (by decide) rfl
  have mh26 : h ∈ sL κ26.1 ∧ sK κ26.1 h = 5 := by rw [eκ26]; exact mh
  have ma26 : b_a1 ∈ sL κ26.1 ∧ sK κ26.1 b_a1 = 5 := by rw [eκ26]; exact ma
  have t26 : TV G W κ26.1 := by rw [eκ26]; exact hV.1.uI (fun _ => by rw [hs_h]; exact vz25)
  have p26 : sP κ26.1 = sP κ24.1 := by rw [eκ26]; rfl
  have s26 : (sI κ26.1 h 12).toInt = z25.toInt := by rw [eκ26]; exact congrArg Int32.toInt u2_same
  have al26 : ∀ b, W.1 b = 20 → ∀ q : Option Nat, q = some b → AL G κ26 q (W.2 b) := fun b wb q hq => Or.inl ⟨b, hq, ⟨(t26.mm wb (by decide) rfl).1, by rw [(t26.mm wb (by decide) (show kcr 20 = 20 from rfl)).2]; decide⟩, (t26.ln wb (by decide) rfl).symm⟩
  refine ⟨mh26, fun z27 ez27 => ⟨W.2 bh, al26 bh wh z27 (by rw [ez27, p26]; exact eh), fun z28 ez28 => ⟨mh26, fun z29 ez29 => ?_⟩⟩⟩
  have h28 := nI_ln ez28 (by omega)
  have h29 : z29.toInt = z25.toInt := by rw [ez29]; exact s26
  refine jc_in (fun (x : Unit) (κ' : CS) => ∃ W' : CW, WX W0 W' κ ∧ WLe W W' ∧ CV G E W' (c - 0) κ' ∧ CF [(20, 0), (30, 0), (5, 1), (5, 10), (5, 11), (5, 12), (5, 13), (5, 2), (5, 3), (5, 4), (5, 6), (5, 7), (5, 8), (5, 9)] W0 κ κ' ∧ (∃ b, sP κ'.1 b_a1 13 = some b ∧ W'.1 b = 20 ∧ (sI κ'.1 h 12).toInt ≤ W'.2 b)) (fun x30 κ31 hJ => ?_) (fun K32 hK32 => ⟨fun c1 => ?_, fun c1 => ⟨b_a1, e_a1, ma26, fun z39 ez39 => ⟨W.2 bd, al26 bd wd z39 (by rw [ez39, p26]; exact ed), fun z40 ez40 => ?_⟩⟩⟩)
  · obtain ⟨W, hx, hle, hV, hfr, b2, e2, w2, l2⟩ := hJ
    have hs_h := hle.at hs_h (by decide)
    have hs_a1 := hle.at hs_a1 (by decide)
    obtain ⟨b3, e3, w3⟩ := hV.1.nn hs_h (by decide) rfl 13 rfl (by decide)
    have n3 := hV.2.2.1 h hs_h b3 e3
    have i3 := hV.1.iv hs_h (by decide) rfl 12 0 4096 rfl rfl
    have l2' := hV.ln w2 (by decide) rfl
    have l3' := hV.ln w3 (by decide) rfl
    refine ⟨b_a1, e_a1, hV.mm hs_a1 (by decide) rfl, fun z35 ez35 => ⟨hV.mm hs_h (by decide) rfl, fun z36 ez36 => ⟨hV.mm hs_h (by decide) rfl, fun z37 ez37 => ?_⟩⟩⟩
    have h37 : z37.toInt = (sI κ31.1 h 12).toInt := by rw [ez37]
    refine ⟨b2, ez35.trans e2, b3, ez36.trans e3, hV.mm w2 (by decide) rfl, hV.mm w3 (by decide) rfl, by omega, fun j hj => (hV.1.el w2 (by decide) rfl _ (by omega)).1, fun κ38 e38 => ?_⟩
    exact kk W κ38 hx ((hV.cpI w2 rfl w3 rfl (by omega) e38).dn (by omega)) (hfr.trW hx (CF.rf.cpI (M := [(20, 0)]) w3 rfl (by decide) e38) (by decide)) trivial
  · have hV6 := hV.uNS hs_h eh (by omega) (by omega) eκ26
    exact hK32 () κ26 ⟨W, hx, WLe.rf, hV6.dn (by omega), hfr.trW hx (CF.rf.uI (M := [(5, 12)]) (k := 12) hs_h (by decide) (by decide) eκ26) (by decide), bd, by rw [p26]; exact ed, wd, by omega⟩
  · have h40 := nI_ln ez40 (by omega)
    have b26 : κ26.2 = κ24.2 := by rw [eκ26]
    have pn := hV.potN (by omega) hs_h eh
    have st := nP_step nh_.2.2 nd_.2.2 (show W.2 bh < W.2 bd by omega) nd_.2.1
    refine ⟨by omega, by omega, fun o41 hn κ42 e42 => ⟨?_, fun κ43 e43 => ?_⟩⟩
    · rw [e42]
      exact (t26.uN (c := 20) (n := z40.toInt.toNat) hn).mm hs_h (by decide) rfl
    have hn' : o41 ∉ sL κ24.1 := by
      have : sL κ26.1 = sL κ24.1 := by rw [eκ26]; rfl
      rw [← this]
      exact hn
    have hq : h ≠ o41 := fun e => hn' (by rw [← e]; exact mh.1)
    obtain ⟨Wn, x1, hVa, wq, wn, fa⟩ := hV.mkA (M := []) (r := 20) (n := z40.toInt.toNat) hn' rfl rfl (Or.inl rfl) (by omega) (fun h => absurd h (by decide)) (by decide) (Or.inl rfl) (by omega) (κ' := (h_uN κ24.1 o41 20 z40.toInt.toNat, κ24.2 - (z40.toInt.toNat + 12))) rfl
    have hs_h1 := x1.1.at hs_h (by decide)
    have wh1 := x1.1.at wh (by decide)
    have lh1 : Wn.2 bh = W.2 bh := (x1.1 bh (by rw [wh]; decide)).2
    have ld1 : Wn.2 bd = W.2 bd := (x1.1 bd (by rw [wd]; decide)).2
    have eh1 : sP (h_uN κ24.1 o41 20 z40.toInt.toNat) h 13 = some bh := by
      have : sP (h_uN κ24.1 o41 20 z40.toInt.toNat) h = sP κ24.1 h := va_up_ne _ _ hq
      rw [this]
      exact eh
    have si1 : sI (h_uN κ24.1 o41 20 z40.toInt.toNat) h = sI κ24.1 h := va_up_ne _ _ hq
    have nn1 : z40.toInt.toNat = W.2 bd := by omega
    have hVb := hVa.uND (d := W.2 bd + 12) (b := bh) (b2 := o41) hs_h1 eh1 wq (by show (sI (h_uN κ24.1 o41 20 z40.toInt.toNat) h 12).toInt ≤ _; rw [si1, wn]; omega) (by rw [wn, nn1]; exact ⟨nd_.2.1, nd_.2.2⟩) (by rw [wn, lh1, nn1]; omega) rfl
    have e43' : κ43 = (h_uI (h_uP (h_uN κ24.1 o41 20 z40.toInt.toNat) h 13 (some o41)) h 12 z25, κ24.2 - (z40.toInt.toNat + 12)) := by
      rw [e43, e42, eκ26]
      show (h_uP (h_uN (h_uI κ24.1 h 12 z25) o41 20 z40.toInt.toNat) h 13 (some o41), _) = _
      rw [uI_uN hq]
      rfl
    have hVc := hVb.uNS (b := o41) hs_h1 u2_same (v := z25) (by omega) (by rw [wn]; omega) e43'
    refine hK32 () κ43 ⟨Wn, hx.tr x1 hfr.sl, x1.1, hVc.dn (by omega), ?_, bd, ?_, x1.1.at wd (by decide), ?_⟩
    · have f1 := hfr.trW hx fa (by decide)
      have f2 := f1.trW (hx.tr x1 hfr.sl) (CF.rf.uP (M := [(5, 13)]) (k := 13) (v := some o41) (κ2 := (h_uP (h_uN κ24.1 o41 20 z40.toInt.toNat) h 13 (some o41), κ24.2 - (z40.toInt.toNat + 12))) hs_h1 (by decide) (by decide) rfl) (by decide)
      exact f2.trW (hx.tr x1 hfr.sl) (CF.rf.uI (M := [(5, 12)]) (k := 12) hs_h1 (by decide) (by decide) e43') (by decide)
    · have ne : b_a1 ≠ h := fun e => by
        rw [e] at ed
        have : bh = bd := Option.some.inj (eh.symm.trans ed)
        rw [this] at h28
        omega
      have na : b_a1 ≠ o41 := fun e => hn' (by rw [← e]; exact ma.1)
      rw [e43']
      show u2 (va_up (sP κ24.1) o41 (fun _ => none)) h 13 (some o41) b_a1 13 = some bd
      rw [u2_addr ne, va_up_ne _ _ na]
      exact ed
    · rw [ld1, e43']
      show (u2 _ h 12 z25 h 12).toInt ≤ _
      rw [u2_same]
      omega
set_option maxRecDepth 100000 in
set_option maxHeartbeats 4000000 in
theorem t_X9_copyFrom {G : GE} {E : CE} {W0 : CW} {c : Int} {κ : CS} (hV : CV G E W0 c κ) (h : Nat) (hs_h : W0.1 h = 6) (a1 : Option Nat) (b_a1 : Nat) (e_a1 : a1 = some b_a1) (hs_a1 : W0.1 b_a1 = 6)  (hc : 0 ≤ c) {post : CS → Prop} (kk : ∀ (W' : CW) (κ' : CS), WX W0 W' κ → CV G E W' (c - 0) κ' → CF [(20, 0), (30, 0), (5, 1), (5, 10), (5, 11), (5, 12), (5, 13), (5, 2), (5, 3), (5, 4), (5, 6), (5, 7), (5, 8), (5, 9), (6, 1)] W0 κ κ' → (True) → post κ') : F_X9_copyFrom G h a1 post κ := by
  have hs0_h := hs_h
  have hs0_a1 := hs_a1
  suffices H_ : ∀ W : CW, WX W0 W κ → CV G E W (c - 0) κ → (W.1 h = 6) → (W.1 b_a1 = 6) → F_X9_copyFrom G h a1 post κ from H_ W0 WX.rf (hV.dn (by omega)) hs_h hs_a1
  intro W hx hV hs_h hs_a1
  unfold F_X9_copyFrom
  have hfr : CF [(20, 0), (30, 0), (5, 1), (5, 10), (5, 11), (5, 12), (5, 13), (5, 2), (5, 3), (5, 4), (5, 6), (5, 7), (5, 8), (5, 9), (6, 1)] W0 κ κ := CF.rf
  have k_0 : (0 : Int32).toInt = 0 := rfl
  have k_1 : (1 : Int32).toInt = 1 := rfl
  have kl_1 : (1 : Int64).toInt = 1 := rfl
  refine lc_in (fun (x : Int32) (κ' : CS) => ∃ W' : CW, WLe W W' ∧ WX W0 W' κ ∧ CV G E W' (c - 0) κ' ∧ CF [(20, 0), (30, 0), (5, 1), (5, 10), (5, 11), (5, 12), (5, 13), (5, 2), (5, 3), (5, 4), (5, 6), (5, 7), (5, 8), (5, 9), (6, 1)] W0 κ κ' ∧ (((0 ≤ x.toInt)))) (fun (x : Int32) (κ' : CS) => (2147483647 - x.toInt).toNat) ⟨W, WLe.rf, hx, hV.dn (by (try dsimp only); omega), hfr, (by (try dsimp only); omega)⟩ (fun x1 κ2 hJ K3 hK3 => ?_)
  obtain ⟨W, le2, hx, hV, hfr, hv⟩ := hJ
  have hs_h := WLe.at le2 hs_h (by decide)
  have hs_a1 := WLe.at le2 hs_a1 (by decide)
  (try dsimp only at hv)
  have rg_x1 := i_range x1
  refine ⟨(hV.mm hs_h (by decide) rfl), ?_⟩
  intro z5 ez5
  obtain ⟨bz5, ebz5, hsz5⟩ := hV.1.nn hs_h (by decide) rfl 0 rfl (by decide)
  have ebz5 := ez5.trans ebz5
  refine ⟨(W.2 bz5), (AL.of hV ebz5 hsz5 (by decide) rfl (by decide)), ?_⟩
  intro z6 ez6
  have lnz6 := nI_ln ez6 (hV.lm hsz5 (by decide) rfl)
  have lmz6 := (hV.lm hsz5 (by decide) rfl)
  have lxz6 := hV.1.fx hsz5 (by decide) rfl 80 rfl (by decide)
  refine ⟨fun c1 => ?_, fun c1 => ?_⟩
  · refine ⟨b_a1, e_a1, (hV.mm hs_a1 (by decide) rfl), ?_⟩
    intro z7 ez7
    have vz7 := hV.1.iv hs_a1 (by decide) rfl 1 (-2147483648) 2147483647 rfl ez7
    have wz7 : z7.toInt = (sI κ2.1 b_a1 1).toInt := by rw [ez7]
    refine ⟨(hV.mm hs_h (by decide) rfl), ?_⟩
    intro κ8 eκ8
    have rv_κ8 := i_range z7
    have hV := hV.uI (k := 1) (v := z7) hs_h (Or.inl rfl) (Or.inl (by decide)) (Or.inl (by decide)) (fun _ => (by omega : (-2147483648 : Int) ≤ (z7 : Int32).toInt ∧ (z7 : Int32).toInt ≤ 2147483647)) eκ8
    have uκ8 : (sI κ8.1 h 1).toInt = (z7 : Int32).toInt := by rw [eκ8]; exact congrArg Int32.toInt u2_same
    have f1κ8 : CF [(6, 1)] W κ2 κ8 := CF.rf.uI (k := 1) hs_h (by decide) (show ((6, 1) : Nat × Nat) ∈ ([(6, 1)] : List (Nat × Nat)) by simp) eκ8
    have hfr := hfr.trW hx f1κ8 (by decide)
    exact kk W κ8 hx (hV.dn (by omega)) hfr trivial
  · refine ⟨(hV.mm hs_h (by decide) rfl), ?_⟩
    intro z9 ez9
    have ebz9 : z9 = some bz5 := (ez9.trans ez5.symm).trans ebz5
    have ln_ := hV.ln hsz5 (by decide) rfl
    have lx_ := hV.1.fx hsz5 (by decide) rfl 80 rfl (by decide)
    refine ⟨bz5, ebz9, ⟨(hV.mm hsz5 (by decide) rfl).1, by rw [(hV.mm hsz5 (by decide) rfl).2]; decide⟩, by omega, ?_⟩
    intro z10 ez10
    obtain ⟨bz10, ebz10, hsz10⟩ := (hV.1.el hsz5 (by decide) rfl x1.toInt.toNat (by omega)).2.nn (by decide)
    rw [← ez10] at ebz10
    refine ⟨b_a1, e_a1, (hV.mm hs_a1 (by decide) rfl), ?_⟩
    intro z11 ez11
    obtain ⟨bz11, ebz11, hsz11⟩ := hV.1.nn hs_a1 (by decide) rfl 0 rfl (by decide)
    have ebz11 := ez11.trans ebz11
    have ln_ := hV.ln hsz11 (by decide) rfl
    have lx_ := hV.1.fx hsz11 (by decide) rfl 80 rfl (by decide)
    refine ⟨bz11, ebz11, ⟨(hV.mm hsz11 (by decide) rfl).1, by rw [(hV.mm hsz11 (by decide) rfl).2]; decide⟩, by omega, ?_⟩
    intro z12 ez12
    obtain ⟨bz12, ebz12, hsz12⟩ := (hV.1.el hsz11 (by decide) rfl x1.toInt.toNat (by omega)).2.nn (by decide)
    rw [← ez12] at ebz12
    refine ⟨bz10, ebz10, (hV.mm hsz10 (by decide) rfl), ?_⟩
    refine t_X4_copyFrom hV bz10 hsz10 z12 bz12 ebz12 hsz12  (by omega) (fun W κ13 x1_ hV fκ13 pu1 => ?_)
    have hV : CV G E W (c - 0) κ13 := hV.dn (by omega)
    have hx2 := hx.tr x1_ hfr.sl
    have hfr := hfr.trW hx fκ13 (by decide)
    have hs_h := WLe.at (x1_).1 hs_h (by decide)
    have hs_a1 := WLe.at (x1_).1 hs_a1 (by decide)
    have wl_bz5 := ((x1_).1 bz5 (by rw [hsz5]; decide)).2
    have hsz5 := WLe.at (x1_).1 hsz5 (by decide)
    have hsz10 := WLe.at (x1_).1 hsz10 (by decide)
    have wl_bz11 := ((x1_).1 bz11 (by rw [hsz11]; decide)).2
    have hsz11 := WLe.at (x1_).1 hsz11 (by decide)
    have hsz12 := WLe.at (x1_).1 hsz12 (by decide)
    have le2 := WLe.tr le2 (x1_).1
    have hx := hx2
    intro z15 ez15
    try have hz15 := i_add ez15 (by omega) (by omega)
    have rg_z15 := i_range z15
    exact hK3 z15 κ13 ⟨W, le2, hx, hV.dn (by (try dsimp only); omega), hfr, (by (try dsimp only); omega)⟩ (by (try dsimp only); omega)
set_option maxRecDepth 100000 in
set_option maxHeartbeats 4000000 in
theorem t_X9_apply {G : GE} {E : CE} {W0 : CW} {c : Int} {κ : CS} (hV : CV G E W0 c κ) (h : Nat) (hs_h : W0.1 h = 6) (a1 : Option Nat) (b_a1 : Nat) (e_a1 : a1 = some b_a1) (hs_a1 : W0.1 b_a1 = 4)  (hc : 0 ≤ c) {post : CS → Prop} (kk : ∀ (W' : CW) (κ' : CS), WX W0 W' κ → CV G E W' (c - 0) κ' → CF [(20, 0), (30, 0), (5, 1), (5, 10), (5, 11), (5, 12), (5, 13), (5, 2), (5, 3), (5, 4), (5, 6), (5, 7), (5, 8), (5, 9), (6, 1)] W0 κ κ' → (True) → post κ') : F_X9_apply G h a1 post κ := by
  have hs0_h := hs_h
  have hs0_a1 := hs_a1
  suffices H_ : ∀ W : CW, WX W0 W κ → CV G E W (c - 0) κ → (W.1 h = 6) → (W.1 b_a1 = 4) → F_X9_apply G h a1 post κ from H_ W0 WX.rf (hV.dn (by omega)) hs_h hs_a1
  intro W hx hV hs_h hs_a1
  unfold F_X9_apply
  have hfr : CF [(20, 0), (30, 0), (5, 1), (5, 10), (5, 11), (5, 12), (5, 13), (5, 2), (5, 3), (5, 4), (5, 6), (5, 7), (5, 8), (5, 9), (6, 1)] W0 κ κ := CF.rf
  have k_0 : (0 : Int32).toInt = 0 := rfl
  have k_1 : (1 : Int32).toInt = 1 := rfl
  have k_5 : (5 : Int32).toInt = 5 := rfl
  have k_1024 : (1024 : Int32).toInt = 1024 := rfl
  have k_4096 : (4096 : Int32).toInt = 4096 := rfl
  have kl_0 : (0 : Int64).toInt = 0 := rfl
  have kl_1 : (1 : Int64).toInt = 1 := rfl
  have kl_1024 : (1024 : Int64).toInt = 1024 := rfl
  refine ⟨b_a1, e_a1, (hV.mm hs_a1 (by decide) rfl), ?_⟩
  intro z1 ez1
  have vz1 := hV.1.iv hs_a1 (by decide) rfl 1 (-2147483648) 2147483647 rfl ez1
  have wz1 : z1.toInt = (sI κ.1 b_a1 1).toInt := by rw [ez1]
  refine jc_dup ?_
  refine ⟨fun c1 => ?_, fun c1 => ?_⟩
  · (try dsimp only)
    exact kk W κ hx (hV.dn (by omega)) hfr trivial
  · refine ⟨b_a1, e_a1, (hV.mm hs_a1 (by decide) rfl), ?_⟩
    intro z7 ez7
    have vz7 := hV.1.iv hs_a1 (by decide) rfl 1 (-2147483648) 2147483647 rfl ez7
    have wz7 : z7.toInt = (sI κ.1 b_a1 1).toInt := by rw [ez7]
    refine ⟨(hV.mm hs_h (by decide) rfl), ?_⟩
    intro z8 ez8
    obtain ⟨bz8, ebz8, hsz8⟩ := hV.1.nn hs_h (by decide) rfl 0 rfl (by decide)
    have ebz8 := ez8.trans ebz8
    refine ⟨(W.2 bz8), (AL.of hV ebz8 hsz8 (by decide) rfl (by decide)), ?_⟩
    intro z9 ez9
    have lnz9 := nI_ln ez9 (hV.lm hsz8 (by decide) rfl)
    have lmz9 := (hV.lm hsz8 (by decide) rfl)
    have lxz9 := hV.1.fx hsz8 (by decide) rfl 80 rfl (by decide)
    refine ⟨fun c2 => ?_, fun c2 => ?_⟩
    · refine ⟨(hV.mm hs_h (by decide) rfl), ?_⟩
      intro z10 ez10
      have ebz10 : z10 = some bz8 := (ez10.trans ez8.symm).trans ebz8
      refine ⟨b_a1, e_a1, (hV.mm hs_a1 (by decide) rfl), ?_⟩
      intro z11 ez11
      have vz11 := hV.1.iv hs_a1 (by decide) rfl 1 (-2147483648) 2147483647 rfl ez11
      have wz11 : z11.toInt = (sI κ.1 b_a1 1).toInt := by rw [ez11]
      have ln_ := hV.ln hsz8 (by decide) rfl
      have lx_ := hV.1.fx hsz8 (by decide) rfl 80 rfl (by decide)
      refine ⟨bz8, ebz10, ⟨(hV.mm hsz8 (by decide) rfl).1, by rw [(hV.mm hsz8 (by decide) rfl).2]; decide⟩, by omega, ?_⟩
      intro z12 ez12
      obtain ⟨bz12, ebz12, hsz12⟩ := (hV.1.el hsz8 (by decide) rfl z11.toInt.toNat (by omega)).2.nn (by decide)
      rw [← ez12] at ebz12
      refine ⟨(hV.mm hs_h (by decide) rfl), ?_⟩
      intro z13 ez13
      have vz13 := hV.1.iv hs_h (by decide) rfl 1 (-2147483648) 2147483647 rfl ez13
      have wz13 : z13.toInt = (sI κ.1 h 1).toInt := by rw [ez13]
      refine ⟨b_a1, e_a1, (hV.mm hs_a1 (by decide) rfl), ?_⟩
      intro z14 ez14
      have vz14 := hV.1.iv hs_a1 (by decide) rfl 0 (-2147483648) 2147483647 rfl ez14
      have wz14 : z14.toInt = (sI κ.1 b_a1 0).toInt := by rw [ez14]
      refine jc_in (fun (x : Int32) (κ' : CS) => κ = κ' ∧ (((0 ≤ x.toInt ∧ x.toInt ≤ 1)))) (fun x15 κ16 hJ => ?_) (fun K17 hK17 => ?_)
      · obtain ⟨hsg, hv⟩ := hJ
        subst hsg
        (try dsimp only at hv)
        have rg_x15 := i_range x15
        refine ⟨bz12, ebz12, (hV.mm hsz12 (by decide) rfl), ?_⟩
        intro z20 ez20
        have vz20 := hV.1.iv hsz12 (by decide) rfl 1 0 1 rfl ez20
        have wz20 : z20.toInt = (sI κ.1 bz12 1).toInt := by rw [ez20]
        refine jc_in (fun (x : Int32) (κ' : CS) => κ = κ' ∧ (((0 ≤ x.toInt ∧ x.toInt ≤ 1)))) (fun x21 κ22 hJ => ?_) (fun K23 hK23 => ?_)
        · obtain ⟨hsg, hv⟩ := hJ
          subst hsg
          (try dsimp only at hv)
          have rg_x21 := i_range x21
          intro z26 ez26
          try have hz26 := i_sub ez26 (by omega) (by omega)
          have rg_z26 := i_range z26
          intro z27 ez27
          try have hz27 := i_add ez27 (by omega) (by omega)
          have rg_z27 := i_range z27
          refine ⟨(hV.mm hs_h (by decide) rfl), ?_⟩
          intro κ28 eκ28
          have rv_κ28 := i_range z27
          have hV := hV.uI (k := 1) (v := z27) hs_h (Or.inl rfl) (Or.inl (by decide)) (Or.inl (by decide)) (fun _ => (by omega : (-2147483648 : Int) ≤ (z27 : Int32).toInt ∧ (z27 : Int32).toInt ≤ 2147483647)) eκ28
          have uκ28 : (sI κ28.1 h 1).toInt = (z27 : Int32).toInt := by rw [eκ28]; exact congrArg Int32.toInt u2_same
          have f1κ28 : CF [(6, 1)] W κ κ28 := CF.rf.uI (k := 1) hs_h (by decide) (show ((6, 1) : Nat × Nat) ∈ ([(6, 1)] : List (Nat × Nat)) by simp) eκ28
          have hfr := hfr.trW hx f1κ28 (by decide)
          refine ⟨b_a1, e_a1, (hV.mm hs_a1 (by decide) rfl), ?_⟩
          intro z29 ez29
          have vz29 := hV.1.iv hs_a1 (by decide) rfl 0 (-2147483648) 2147483647 rfl ez29
          have wz29 : z29.toInt = (sI κ28.1 b_a1 0).toInt := by rw [ez29]
          have w0z29 : z29.toInt = (sI κ.1 b_a1 0).toInt := by rw [ez29, (hfr.1 b_a1 (by rw [hs0_a1]; decide) 0 (by rw [hs0_a1]; decide)).1]
          refine jc_in (fun (x : Int32) (κ' : CS) => κ28 = κ' ∧ (((0 ≤ x.toInt ∧ x.toInt ≤ 1)))) (fun x30 κ31 hJ => ?_) (fun K32 hK32 => ?_)
          · obtain ⟨hsg, hv⟩ := hJ
            subst hsg
            (try dsimp only at hv)
            have rg_x30 := i_range x30
            refine ⟨by omega, bz12, ebz12, (hV.mm hsz12 (by decide) rfl), ?_⟩
            intro κ35 eκ35
            have rv_κ35 := i_range x30
            have hV := hV.uI (k := 1) (v := x30) hsz12 (Or.inl rfl) (Or.inr (by decide)) (Or.inl (by decide)) (fun _ => (by omega : (0 : Int) ≤ (x30 : Int32).toInt ∧ (x30 : Int32).toInt ≤ 1)) eκ35
            have uκ35 : (sI κ35.1 bz12 1).toInt = (x30 : Int32).toInt := by rw [eκ35]; exact congrArg Int32.toInt u2_same
            have f1κ35 : CF [(5, 1)] W κ28 κ35 := CF.rf.uI (k := 1) hsz12 (by decide) (show ((5, 1) : Nat × Nat) ∈ ([(5, 1)] : List (Nat × Nat)) by simp) eκ35
            have hfr := hfr.trW hx f1κ35 (by decide)
            refine ⟨b_a1, e_a1, (hV.mm hs_a1 (by decide) rfl), ?_⟩
            intro z36 ez36
            have vz36 := hV.1.iv hs_a1 (by decide) rfl 0 (-2147483648) 2147483647 rfl ez36
            have wz36 : z36.toInt = (sI κ35.1 b_a1 0).toInt := by rw [ez36]
            have w0z36 : z36.toInt = (sI κ.1 b_a1 0).toInt := by rw [ez36, (hfr.1 b_a1 (by rw [hs0_a1]; decide) 0 (by rw [hs0_a1]; decide)).1]
            refine jc_in (fun (x : Unit) (κ' : CS) => ∃ W' : CW, WLe W W' ∧ WX W0 W' κ ∧ CV G E W' (c - 0) κ' ∧ CF [(20, 0), (30, 0), (5, 1), (5, 10), (5, 11), (5, 12), (5, 13), (5, 2), (5, 3), (5, 4), (5, 6), (5, 7), (5, 8), (5, 9), (6, 1)] W0 κ κ' ∧ ((True))) (fun x37 κ38 hJ => ?_) (fun K39 hK39 => ?_)
            · obtain ⟨W, le99, hx, hV, hfr, hv⟩ := hJ
              have hs_h := WLe.at le99 hs_h (by decide)
              have hs_a1 := WLe.at le99 hs_a1 (by decide)
              have wl_bz8 := (le99 bz8 (by rw [hsz8]; decide)).2
              have hsz8 := WLe.at le99 hsz8 (by decide)
              have hsz12 := WLe.at le99 hsz12 (by decide)
              (try dsimp only at hv)
              refine ⟨b_a1, e_a1, (hV.mm hs_a1 (by decide) rfl), ?_⟩
              intro z42 ez42
              have vz42 := hV.1.iv hs_a1 (by decide) rfl 3 0 1 rfl ez42
              have wz42 : z42.toInt = (sI κ38.1 b_a1 3).toInt := by rw [ez42]
              have w0z42 : z42.toInt = (sI κ.1 b_a1 3).toInt := by rw [ez42, (hfr.1 b_a1 (by rw [hs0_a1]; decide) 3 (by rw [hs0_a1]; decide)).1]
              refine ⟨by omega, bz12, ebz12, (hV.mm hsz12 (by decide) rfl), ?_⟩
              intro κ43 eκ43
              have rv_κ43 := i_range z42
              have hV := hV.uI (k := 2) (v := z42) hsz12 (Or.inl rfl) (Or.inr (by decide)) (Or.inl (by decide)) (fun _ => (by omega : (0 : Int) ≤ (z42 : Int32).toInt ∧ (z42 : Int32).toInt ≤ 1)) eκ43
              have uκ43 : (sI κ43.1 bz12 2).toInt = (z42 : Int32).toInt := by rw [eκ43]; exact congrArg Int32.toInt u2_same
              have f1κ43 : CF [(5, 2)] W κ38 κ43 := CF.rf.uI (k := 2) hsz12 (by decide) (show ((5, 2) : Nat × Nat) ∈ ([(5, 2)] : List (Nat × Nat)) by simp) eκ43
              have hfr := hfr.trW hx f1κ43 (by decide)
              refine ⟨b_a1, e_a1, (hV.mm hs_a1 (by decide) rfl), ?_⟩
              intro z44 ez44
              have vz44 := hV.1.iv hs_a1 (by decide) rfl 2 (-2147483648) 2147483647 rfl ez44
              have wz44 : z44.toInt = (sI κ43.1 b_a1 2).toInt := by rw [ez44]
              have w0z44 : z44.toInt = (sI κ.1 b_a1 2).toInt := by rw [ez44, (hfr.1 b_a1 (by rw [hs0_a1]; decide) 2 (by rw [hs0_a1]; decide)).1]
              refine ⟨bz12, ebz12, (hV.mm hsz12 (by decide) rfl), ?_⟩
              intro κ45 eκ45
              have rv_κ45 := i_range z44
              have hV := hV.uI (k := 4) (v := z44) hsz12 (Or.inl rfl) (Or.inr (by decide)) (Or.inl (by decide)) (fun _ => (by omega : (-2147483648 : Int) ≤ (z44 : Int32).toInt ∧ (z44 : Int32).toInt ≤ 2147483647)) eκ45
              have uκ45 : (sI κ45.1 bz12 4).toInt = (z44 : Int32).toInt := by rw [eκ45]; exact congrArg Int32.toInt u2_same
              have f1κ45 : CF [(5, 4)] W κ43 κ45 := CF.rf.uI (k := 4) hsz12 (by decide) (show ((5, 4) : Nat × Nat) ∈ ([(5, 4)] : List (Nat × Nat)) by simp) eκ45
              have hfr := hfr.trW hx f1κ45 (by decide)
              refine ⟨b_a1, e_a1, (hV.mm hs_a1 (by decide) rfl), ?_⟩
              intro z46 ez46
              have vz46 := hV.1.iv hs_a1 (by decide) rfl 5 0 12 rfl ez46
              have wz46 : z46.toInt = (sI κ45.1 b_a1 5).toInt := by rw [ez46]
              have w0z46 : z46.toInt = (sI κ.1 b_a1 5).toInt := by rw [ez46, (hfr.1 b_a1 (by rw [hs0_a1]; decide) 5 (by rw [hs0_a1]; decide)).1]
              refine ⟨bz12, ebz12, (hV.mm hsz12 (by decide) rfl), ?_⟩
              intro κ47 eκ47
              have rv_κ47 := i_range z46
              have hV := hV.uI (k := 6) (v := z46) hsz12 (Or.inl rfl) (Or.inr (by decide)) (Or.inl (by decide)) (fun _ => (by omega : (0 : Int) ≤ (z46 : Int32).toInt ∧ (z46 : Int32).toInt ≤ 12)) eκ47
              have uκ47 : (sI κ47.1 bz12 6).toInt = (z46 : Int32).toInt := by rw [eκ47]; exact congrArg Int32.toInt u2_same
              have f1κ47 : CF [(5, 6)] W κ45 κ47 := CF.rf.uI (k := 6) hsz12 (by decide) (show ((5, 6) : Nat × Nat) ∈ ([(5, 6)] : List (Nat × Nat)) by simp) eκ47
              have hfr := hfr.trW hx f1κ47 (by decide)
              refine ⟨b_a1, e_a1, (hV.mm hs_a1 (by decide) rfl), ?_⟩
              intro z48 ez48
              obtain ⟨bz48, ebz48, hsz48⟩ := hV.1.nn hs_a1 (by decide) rfl 4 rfl (by decide)
              have ebz48 := ez48.trans ebz48
              refine ⟨bz12, ebz12, (hV.mm hsz12 (by decide) rfl), ?_⟩
              intro z49 ez49
              obtain ⟨bz49, ebz49, hsz49⟩ := hV.1.nn hsz12 (by decide) rfl 5 rfl (by decide)
              have ebz49 := ez49.trans ebz49
              refine ⟨bz12, ebz12, (hV.mm hsz12 (by decide) rfl), ?_⟩
              intro z50 ez50
              have ebz50 : z50 = some bz49 := (ez50.trans ez49.symm).trans ebz49
              refine ⟨(W.2 bz49), (AL.of hV ebz50 hsz49 (by decide) rfl (by decide)), ?_⟩
              intro z51 ez51
              have lnz51 := nI_ln ez51 (hV.lm hsz49 (by decide) rfl)
              have lmz51 := (hV.lm hsz49 (by decide) rfl)
              have lxz51 := hV.1.fx hsz49 (by decide) rfl 12 rfl (by decide)
              have ln0_ := hV.ln hsz48 (by decide) rfl
              have lx0_ := hV.1.fx hsz48 (by decide) rfl 12 rfl (by decide)
              have ln1_ := hV.ln hsz49 (by decide) rfl
              have lx1_ := hV.1.fx hsz49 (by decide) rfl 12 rfl (by decide)
              refine ⟨bz48, ebz48, bz49, ebz49, (hV.mm hsz48 (by decide) rfl), (hV.mm hsz49 (by decide) rfl), (by omega), fun j hj => (hV.1.el hsz48 (by decide) rfl _ (by omega)).1, ?_⟩
              intro κ52 eκ52
              have hV := hV.cpI hsz48 rfl hsz49 rfl (by omega) eκ52
              have f1κ52 : CF [(30, 0)] W κ47 κ52 := CF.rf.cpI hsz49 rfl (by decide) eκ52
              have hfr := hfr.trW hx f1κ52 (by decide)
              refine ⟨b_a1, e_a1, (hV.mm hs_a1 (by decide) rfl), ?_⟩
              intro z53 ez53
              have vz53 := hV.1.iv hs_a1 (by decide) rfl 6 (-2147483648) 2147483647 rfl ez53
              have wz53 : z53.toInt = (sI κ52.1 b_a1 6).toInt := by rw [ez53]
              have w0z53 : z53.toInt = (sI κ.1 b_a1 6).toInt := by rw [ez53, (hfr.1 b_a1 (by rw [hs0_a1]; decide) 6 (by rw [hs0_a1]; decide)).1]
              refine ⟨bz12, ebz12, (hV.mm hsz12 (by decide) rfl), ?_⟩
              intro κ54 eκ54
              have rv_κ54 := i_range z53
              have hV := hV.uI (k := 7) (v := z53) hsz12 (Or.inl rfl) (Or.inr (by decide)) (Or.inl (by decide)) (fun _ => (by omega : (-2147483648 : Int) ≤ (z53 : Int32).toInt ∧ (z53 : Int32).toInt ≤ 2147483647)) eκ54
              have uκ54 : (sI κ54.1 bz12 7).toInt = (z53 : Int32).toInt := by rw [eκ54]; exact congrArg Int32.toInt u2_same
              have f1κ54 : CF [(5, 7)] W κ52 κ54 := CF.rf.uI (k := 7) hsz12 (by decide) (show ((5, 7) : Nat × Nat) ∈ ([(5, 7)] : List (Nat × Nat)) by simp) eκ54
              have hfr := hfr.trW hx f1κ54 (by decide)
              refine ⟨b_a1, e_a1, (hV.mm hs_a1 (by decide) rfl), ?_⟩
              intro z55 ez55
              have vz55 := l_range z55
              have wz55 : z55.toInt = (sJ κ54.1 b_a1 7).toInt := by rw [ez55]
              refine ⟨bz12, ebz12, (hV.mm hsz12 (by decide) rfl), ?_⟩
              intro κ56 eκ56
              have hV := hV.uJ eκ56
              have f1κ56 : CF [(5, 8)] W κ54 κ56 := CF.rf.uJ (k := 8) hsz12 (by decide) (show ((5, 8) : Nat × Nat) ∈ ([(5, 8)] : List (Nat × Nat)) by simp) eκ56
              have hfr := hfr.trW hx f1κ56 (by decide)
              refine ⟨b_a1, e_a1, (hV.mm hs_a1 (by decide) rfl), ?_⟩
              intro z57 ez57
              have vz57 := l_range z57
              have wz57 : z57.toInt = (sJ κ56.1 b_a1 8).toInt := by rw [ez57]
              refine ⟨bz12, ebz12, (hV.mm hsz12 (by decide) rfl), ?_⟩
              intro κ58 eκ58
              have hV := hV.uJ eκ58
              have f1κ58 : CF [(5, 9)] W κ56 κ58 := CF.rf.uJ (k := 9) hsz12 (by decide) (show ((5, 9) : Nat × Nat) ∈ ([(5, 9)] : List (Nat × Nat)) by simp) eκ58
              have hfr := hfr.trW hx f1κ58 (by decide)
              refine ⟨b_a1, e_a1, (hV.mm hs_a1 (by decide) rfl), ?_⟩
              intro z59 ez59
              have vz59 := l_range z59
              have wz59 : z59.toInt = (sJ κ58.1 b_a1 9).toInt := by rw [ez59]
              refine ⟨bz12, ebz12, (hV.mm hsz12 (by decide) rfl), ?_⟩
              intro κ60 eκ60
              have hV := hV.uJ eκ60
              have f1κ60 : CF [(5, 10)] W κ58 κ60 := CF.rf.uJ (k := 10) hsz12 (by decide) (show ((5, 10) : Nat × Nat) ∈ ([(5, 10)] : List (Nat × Nat)) by simp) eκ60
              have hfr := hfr.trW hx f1κ60 (by decide)
              refine ⟨b_a1, e_a1, (hV.mm hs_a1 (by decide) rfl), ?_⟩
              intro z61 ez61
              have vz61 := l_range z61
              have wz61 : z61.toInt = (sJ κ60.1 b_a1 10).toInt := by rw [ez61]
              refine ⟨bz12, ebz12, (hV.mm hsz12 (by decide) rfl), ?_⟩
              intro κ62 eκ62
              have hV := hV.uJ eκ62
              have f1κ62 : CF [(5, 11)] W κ60 κ62 := CF.rf.uJ (k := 11) hsz12 (by decide) (show ((5, 11) : Nat × Nat) ∈ ([(5, 11)] : List (Nat × Nat)) by simp) eκ62
              have hfr := hfr.trW hx f1κ62 (by decide)
              refine ⟨b_a1, e_a1, (hV.mm hs_a1 (by decide) rfl), ?_⟩
              intro z63 ez63
              have vz63 := hV.1.iv hs_a1 (by decide) rfl 11 (-2147483648) 2147483647 rfl ez63
              have wz63 : z63.toInt = (sI κ62.1 b_a1 11).toInt := by rw [ez63]
              have w0z63 : z63.toInt = (sI κ.1 b_a1 11).toInt := by rw [ez63, (hfr.1 b_a1 (by rw [hs0_a1]; decide) 11 (by rw [hs0_a1]; decide)).1]
              intro z65 mz65
              have rg_z65 := i_range z65
              intro z67 mz67
              have rg_z67 := i_range z67
              refine ⟨bz12, ebz12, (hV.mm hsz12 (by decide) rfl), ?_⟩
              intro z68 ez68
              obtain ⟨bz68, ebz68, hsz68⟩ := hV.1.nn hsz12 (by decide) rfl 13 rfl (by decide)
              have pk_z68 := ebz68
              have ebz68 := ez68.trans ebz68
              refine ⟨(W.2 bz68), (AL.of hV ebz68 hsz68 (by decide) rfl (by decide)), ?_⟩
              intro z69 ez69
              have lnz69 := nI_ln ez69 (hV.lm hsz68 (by decide) rfl)
              have lmz69 := (hV.lm hsz68 (by decide) rfl)
              refine jc_in (fun (x : Unit) (κ' : CS) => ∃ W' : CW, WLe W W' ∧ WX W0 W' κ ∧ CV G E W' (c - 0) κ' ∧ CF [(20, 0), (30, 0), (5, 1), (5, 10), (5, 11), (5, 12), (5, 13), (5, 2), (5, 3), (5, 4), (5, 6), (5, 7), (5, 8), (5, 9), (6, 1)] W0 κ κ' ∧ ((True)) ∧ (∃ b, sP κ'.1 bz12 13 = some b ∧ W'.1 b = 20 ∧ (z67.toInt ≤ (W'.2 b : Int)))) (fun x70 κ71 hJ => ?_) (fun K72 hK72 => ?_)
              · obtain ⟨W, le231, hx, hV, hfr, hv⟩ := hJ
                have hs_h := WLe.at le231 hs_h (by decide)
                have hs_a1 := WLe.at le231 hs_a1 (by decide)
                have wl_bz8 := (le231 bz8 (by rw [hsz8]; decide)).2
                have hsz8 := WLe.at le231 hsz8 (by decide)
                have hsz12 := WLe.at le231 hsz12 (by decide)
                have wl_bz48 := (le231 bz48 (by rw [hsz48]; decide)).2
                have hsz48 := WLe.at le231 hsz48 (by decide)
                have wl_bz49 := (le231 bz49 (by rw [hsz49]; decide)).2
                have hsz49 := WLe.at le231 hsz49 (by decide)
                have wl_bz68 := (le231 bz68 (by rw [hsz68]; decide)).2
                have hsz68 := WLe.at le231 hsz68 (by decide)
                (try dsimp only at hv)
                obtain ⟨hv, ⟨bk231_0, ek231_0, wk231_0, xk231_0⟩⟩ := hv
                (try dsimp only at hv)
                (try dsimp only at xk231_0)
                refine ⟨bz12, ebz12, (hV.mm hsz12 (by decide) rfl), ?_⟩
                intro z75 ez75
                have vz75 := hV.1.iv hsz12 (by decide) rfl 12 0 4096 rfl ez75
                have wz75 : z75.toInt = (sI κ71.1 bz12 12).toInt := by rw [ez75]
                refine jc_in (fun (x : Unit) (κ' : CS) => ∃ W' : CW, WLe W W' ∧ WX W0 W' κ ∧ CV G E W' (c - 0) κ' ∧ CF [(20, 0), (30, 0), (5, 1), (5, 10), (5, 11), (5, 12), (5, 13), (5, 2), (5, 3), (5, 4), (5, 6), (5, 7), (5, 8), (5, 9), (6, 1)] W0 κ κ' ∧ ((True)) ∧ (∃ b, sP κ'.1 bz12 13 = some b ∧ W'.1 b = 20 ∧ (z67.toInt ≤ (W'.2 b : Int)))) (fun x76 κ77 hJ => ?_) (fun K78 hK78 => ?_)
                · obtain ⟨W, le252, hx, hV, hfr, hv⟩ := hJ
                  have hs_h := WLe.at le252 hs_h (by decide)
                  have hs_a1 := WLe.at le252 hs_a1 (by decide)
                  have wl_bz8 := (le252 bz8 (by rw [hsz8]; decide)).2
                  have hsz8 := WLe.at le252 hsz8 (by decide)
                  have hsz12 := WLe.at le252 hsz12 (by decide)
                  have wl_bz48 := (le252 bz48 (by rw [hsz48]; decide)).2
                  have hsz48 := WLe.at le252 hsz48 (by decide)
                  have wl_bz49 := (le252 bz49 (by rw [hsz49]; decide)).2
                  have hsz49 := WLe.at le252 hsz49 (by decide)
                  have wl_bz68 := (le252 bz68 (by rw [hsz68]; decide)).2
                  have hsz68 := WLe.at le252 hsz68 (by decide)
                  have wl_bk231_0 := (le252 bk231_0 (by rw [wk231_0]; decide)).2
                  have wk231_0 := WLe.at le252 wk231_0 (by decide)
                  (try dsimp only at hv)
                  obtain ⟨hv, ⟨bk252_0, ek252_0, wk252_0, xk252_0⟩⟩ := hv
                  (try dsimp only at hv)
                  (try dsimp only at xk252_0)
                  refine ⟨bz12, ebz12, (hV.mm hsz12 (by decide) rfl), ?_⟩
                  intro κ81 eκ81
                  have hV := hV.uNS hsz12 ek252_0 (v := z67) (by omega) (by omega) eκ81
                  have uκ81 : (sI κ81.1 bz12 12).toInt = (z67 : Int32).toInt := by rw [eκ81]; exact congrArg Int32.toInt u2_same
                  have f1κ81 : CF [(5, 12)] W κ77 κ81 := CF.rf.uI (k := 12) hsz12 (by decide) (show ((5, 12) : Nat × Nat) ∈ ([(5, 12)] : List (Nat × Nat)) by simp) eκ81
                  have pk1 := (f1κ81.1 bz12 (by rw [hsz12]; decide) 13 (by rw [hsz12]; decide)).2.2.trans ek252_0
                  have hfr := hfr.trW hx f1κ81 (by decide)
                  refine ⟨b_a1, e_a1, (hV.mm hs_a1 (by decide) rfl), ?_⟩
                  intro z82 ez82
                  have vz82 := hV.1.iv hs_a1 (by decide) rfl 12 0 4096 rfl ez82
                  have wz82 : z82.toInt = (sI κ81.1 b_a1 12).toInt := by rw [ez82]
                  have w0z82 : z82.toInt = (sI κ.1 b_a1 12).toInt := by rw [ez82, (hfr.1 b_a1 (by rw [hs0_a1]; decide) 12 (by rw [hs0_a1]; decide)).1]
                  refine jc_dup ?_
                  refine jc_dup ?_
                  refine ⟨fun c3 => ?_, fun c3 => ?_⟩
                  · (try dsimp only)
                    (try dsimp only)
                    refine ⟨b_a1, e_a1, (hV.mm hs_a1 (by decide) rfl), ?_⟩
                    intro z88 ez88
                    have vz88 := hV.1.iv hs_a1 (by decide) rfl 0 (-2147483648) 2147483647 rfl ez88
                    have wz88 : z88.toInt = (sI κ81.1 b_a1 0).toInt := by rw [ez88]
                    have w0z88 : z88.toInt = (sI κ.1 b_a1 0).toInt := by rw [ez88, (hfr.1 b_a1 (by rw [hs0_a1]; decide) 0 (by rw [hs0_a1]; decide)).1]
                    refine jc_dup ?_
                    refine ⟨fun c4 => ?_, fun c4 => ?_⟩
                    · (try dsimp only)
                      exact kk W κ81 hx (hV.dn (by omega)) hfr trivial
                    · refine ⟨fun c5 => ?_, fun c5 => ?_⟩
                      · (try dsimp only)
                        exact kk W κ81 hx (hV.dn (by omega)) hfr trivial
                      · refine ⟨b_a1, e_a1, (hV.mm hs_a1 (by decide) rfl), ?_⟩
                        intro z94 ez94
                        obtain ⟨bz94, ebz94, hsz94⟩ := hV.1.nn hs_a1 (by decide) rfl 14 rfl (by decide)
                        have ebz94 := ez94.trans ebz94
                        refine ⟨bz12, ebz12, (hV.mm hsz12 (by decide) rfl), ?_⟩
                        intro z95 ez95
                        have ebz95 : z95 = some bk252_0 := ez95.trans pk1
                        refine ⟨b_a1, e_a1, (hV.mm hs_a1 (by decide) rfl), ?_⟩
                        intro z96 ez96
                        have vz96 := hV.1.iv hs_a1 (by decide) rfl 12 0 4096 rfl ez96
                        have wz96 : z96.toInt = (sI κ81.1 b_a1 12).toInt := by rw [ez96]
                        have w0z96 : z96.toInt = (sI κ.1 b_a1 12).toInt := by rw [ez96, (hfr.1 b_a1 (by rw [hs0_a1]; decide) 12 (by rw [hs0_a1]; decide)).1]
                        refine ⟨b_a1, e_a1, (hV.mm hs_a1 (by decide) rfl), ?_⟩
                        intro z97 ez97
                        have vz97 := hV.1.iv hs_a1 (by decide) rfl 13 0 1024 rfl ez97
                        have wz97 : z97.toInt = (sI κ81.1 b_a1 13).toInt := by rw [ez97]
                        have w0z97 : z97.toInt = (sI κ.1 b_a1 13).toInt := by rw [ez97, (hfr.1 b_a1 (by rw [hs0_a1]; decide) 13 (by rw [hs0_a1]; decide)).1]
                        have ln0_ := hV.ln hsz94 (by decide) rfl
                        have ln1_ := hV.ln wk252_0 (by decide) rfl
                        refine ⟨bz94, ebz94, bk252_0, ebz95, (hV.mm hsz94 (by decide) rfl), (hV.mm wk252_0 (by decide) rfl), (by omega), fun j hj => (hV.1.el hsz94 (by decide) rfl _ (by omega)).1, ?_⟩
                        intro κ98 eκ98
                        have hV := hV.cpI hsz94 rfl wk252_0 rfl (by omega) eκ98
                        have f1κ98 : CF [(20, 0)] W κ81 κ98 := CF.rf.cpI wk252_0 rfl (by decide) eκ98
                        have pk2 := (f1κ98.1 bz12 (by rw [hsz12]; decide) 13 (by rw [hsz12]; decide)).2.2.trans pk1
                        have hfr := hfr.trW hx f1κ98 (by decide)
                        (try dsimp only)
                        exact kk W κ98 hx (hV.dn (by omega)) hfr trivial
                  · refine ⟨b_a1, e_a1, (hV.mm hs_a1 (by decide) rfl), ?_⟩
                    intro z104 ez104
                    have vz104 := hV.1.iv hs_a1 (by decide) rfl 13 0 1024 rfl ez104
                    have wz104 : z104.toInt = (sI κ81.1 b_a1 13).toInt := by rw [ez104]
                    have w0z104 : z104.toInt = (sI κ.1 b_a1 13).toInt := by rw [ez104, (hfr.1 b_a1 (by rw [hs0_a1]; decide) 13 (by rw [hs0_a1]; decide)).1]
                    refine ⟨fun c6 => ?_, fun c6 => ?_⟩
                    · (try dsimp only)
                      (try dsimp only)
                      refine ⟨b_a1, e_a1, (hV.mm hs_a1 (by decide) rfl), ?_⟩
                      intro z88 ez88
                      have vz88 := hV.1.iv hs_a1 (by decide) rfl 0 (-2147483648) 2147483647 rfl ez88
                      have wz88 : z88.toInt = (sI κ81.1 b_a1 0).toInt := by rw [ez88]
                      have w0z88 : z88.toInt = (sI κ.1 b_a1 0).toInt := by rw [ez88, (hfr.1 b_a1 (by rw [hs0_a1]; decide) 0 (by rw [hs0_a1]; decide)).1]
                      refine jc_dup ?_
                      refine ⟨fun c7 => ?_, fun c7 => ?_⟩
                      · (try dsimp only)
                        exact kk W κ81 hx (hV.dn (by omega)) hfr trivial
                      · refine ⟨fun c8 => ?_, fun c8 => ?_⟩
                        · (try dsimp only)
                          exact kk W κ81 hx (hV.dn (by omega)) hfr trivial
                        · refine ⟨b_a1, e_a1, (hV.mm hs_a1 (by decide) rfl), ?_⟩
                          intro z94 ez94
                          obtain ⟨bz94, ebz94, hsz94⟩ := hV.1.nn hs_a1 (by decide) rfl 14 rfl (by decide)
                          have ebz94 := ez94.trans ebz94
                          refine ⟨bz12, ebz12, (hV.mm hsz12 (by decide) rfl), ?_⟩
                          intro z95 ez95
                          have ebz95 : z95 = some bk252_0 := ez95.trans pk1
                          refine ⟨b_a1, e_a1, (hV.mm hs_a1 (by decide) rfl), ?_⟩
                          intro z96 ez96
                          have vz96 := hV.1.iv hs_a1 (by decide) rfl 12 0 4096 rfl ez96
                          have wz96 : z96.toInt = (sI κ81.1 b_a1 12).toInt := by rw [ez96]
                          have w0z96 : z96.toInt = (sI κ.1 b_a1 12).toInt := by rw [ez96, (hfr.1 b_a1 (by rw [hs0_a1]; decide) 12 (by rw [hs0_a1]; decide)).1]
                          refine ⟨b_a1, e_a1, (hV.mm hs_a1 (by decide) rfl), ?_⟩
                          intro z97 ez97
                          have vz97 := hV.1.iv hs_a1 (by decide) rfl 13 0 1024 rfl ez97
                          have wz97 : z97.toInt = (sI κ81.1 b_a1 13).toInt := by rw [ez97]
                          have w0z97 : z97.toInt = (sI κ.1 b_a1 13).toInt := by rw [ez97, (hfr.1 b_a1 (by rw [hs0_a1]; decide) 13 (by rw [hs0_a1]; decide)).1]
                          have ln0_ := hV.ln hsz94 (by decide) rfl
                          have ln1_ := hV.ln wk252_0 (by decide) rfl
                          refine ⟨bz94, ebz94, bk252_0, ebz95, (hV.mm hsz94 (by decide) rfl), (hV.mm wk252_0 (by decide) rfl), (by omega), fun j hj => (hV.1.el hsz94 (by decide) rfl _ (by omega)).1, ?_⟩
                          intro κ98 eκ98
                          have hV := hV.cpI hsz94 rfl wk252_0 rfl (by omega) eκ98
                          have f1κ98 : CF [(20, 0)] W κ81 κ98 := CF.rf.cpI wk252_0 rfl (by decide) eκ98
                          have pk3 := (f1κ98.1 bz12 (by rw [hsz12]; decide) 13 (by rw [hsz12]; decide)).2.2.trans pk1
                          have hfr := hfr.trW hx f1κ98 (by decide)
                          (try dsimp only)
                          exact kk W κ98 hx (hV.dn (by omega)) hfr trivial
                    · refine ⟨b_a1, e_a1, (hV.mm hs_a1 (by decide) rfl), ?_⟩
                      intro z105 ez105
                      have vz105 := hV.1.iv hs_a1 (by decide) rfl 12 0 4096 rfl ez105
                      have wz105 : z105.toInt = (sI κ81.1 b_a1 12).toInt := by rw [ez105]
                      have w0z105 : z105.toInt = (sI κ.1 b_a1 12).toInt := by rw [ez105, (hfr.1 b_a1 (by rw [hs0_a1]; decide) 12 (by rw [hs0_a1]; decide)).1]
                      refine ⟨b_a1, e_a1, (hV.mm hs_a1 (by decide) rfl), ?_⟩
                      intro z106 ez106
                      have vz106 := hV.1.iv hs_a1 (by decide) rfl 13 0 1024 rfl ez106
                      have wz106 : z106.toInt = (sI κ81.1 b_a1 13).toInt := by rw [ez106]
                      have w0z106 : z106.toInt = (sI κ.1 b_a1 13).toInt := by rw [ez106, (hfr.1 b_a1 (by rw [hs0_a1]; decide) 13 (by rw [hs0_a1]; decide)).1]
                      intro z107 ez107
                      try have hz107 := i_add ez107 (by omega) (by omega)
                      have rg_z107 := i_range z107
                      refine ⟨fun c9 => ?_, fun c9 => ?_⟩
                      · (try dsimp only)
                        (try dsimp only)
                        refine ⟨b_a1, e_a1, (hV.mm hs_a1 (by decide) rfl), ?_⟩
                        intro z88 ez88
                        have vz88 := hV.1.iv hs_a1 (by decide) rfl 0 (-2147483648) 2147483647 rfl ez88
                        have wz88 : z88.toInt = (sI κ81.1 b_a1 0).toInt := by rw [ez88]
                        have w0z88 : z88.toInt = (sI κ.1 b_a1 0).toInt := by rw [ez88, (hfr.1 b_a1 (by rw [hs0_a1]; decide) 0 (by rw [hs0_a1]; decide)).1]
                        refine jc_dup ?_
                        refine ⟨fun c10 => ?_, fun c10 => ?_⟩
                        · (try dsimp only)
                          exact kk W κ81 hx (hV.dn (by omega)) hfr trivial
                        · refine ⟨fun c11 => ?_, fun c11 => ?_⟩
                          · (try dsimp only)
                            exact kk W κ81 hx (hV.dn (by omega)) hfr trivial
                          · refine ⟨b_a1, e_a1, (hV.mm hs_a1 (by decide) rfl), ?_⟩
                            intro z94 ez94
                            obtain ⟨bz94, ebz94, hsz94⟩ := hV.1.nn hs_a1 (by decide) rfl 14 rfl (by decide)
                            have ebz94 := ez94.trans ebz94
                            refine ⟨bz12, ebz12, (hV.mm hsz12 (by decide) rfl), ?_⟩
                            intro z95 ez95
                            have ebz95 : z95 = some bk252_0 := ez95.trans pk1
                            refine ⟨b_a1, e_a1, (hV.mm hs_a1 (by decide) rfl), ?_⟩
                            intro z96 ez96
                            have vz96 := hV.1.iv hs_a1 (by decide) rfl 12 0 4096 rfl ez96
                            have wz96 : z96.toInt = (sI κ81.1 b_a1 12).toInt := by rw [ez96]
                            have w0z96 : z96.toInt = (sI κ.1 b_a1 12).toInt := by rw [ez96, (hfr.1 b_a1 (by rw [hs0_a1]; decide) 12 (by rw [hs0_a1]; decide)).1]
                            refine ⟨b_a1, e_a1, (hV.mm hs_a1 (by decide) rfl), ?_⟩
                            intro z97 ez97
                            have vz97 := hV.1.iv hs_a1 (by decide) rfl 13 0 1024 rfl ez97
                            have wz97 : z97.toInt = (sI κ81.1 b_a1 13).toInt := by rw [ez97]
                            have w0z97 : z97.toInt = (sI κ.1 b_a1 13).toInt := by rw [ez97, (hfr.1 b_a1 (by rw [hs0_a1]; decide) 13 (by rw [hs0_a1]; decide)).1]
                            have ln0_ := hV.ln hsz94 (by decide) rfl
                            have ln1_ := hV.ln wk252_0 (by decide) rfl
                            refine ⟨bz94, ebz94, bk252_0, ebz95, (hV.mm hsz94 (by decide) rfl), (hV.mm wk252_0 (by decide) rfl), (by omega), fun j hj => (hV.1.el hsz94 (by decide) rfl _ (by omega)).1, ?_⟩
                            intro κ98 eκ98
                            have hV := hV.cpI hsz94 rfl wk252_0 rfl (by omega) eκ98
                            have f1κ98 : CF [(20, 0)] W κ81 κ98 := CF.rf.cpI wk252_0 rfl (by decide) eκ98
                            have pk4 := (f1κ98.1 bz12 (by rw [hsz12]; decide) 13 (by rw [hsz12]; decide)).2.2.trans pk1
                            have hfr := hfr.trW hx f1κ98 (by decide)
                            (try dsimp only)
                            exact kk W κ98 hx (hV.dn (by omega)) hfr trivial
                      · refine ⟨b_a1, e_a1, (hV.mm hs_a1 (by decide) rfl), ?_⟩
                        intro z108 ez108
                        have vz108 := hV.1.iv hs_a1 (by decide) rfl 13 0 1024 rfl ez108
                        have wz108 : z108.toInt = (sI κ81.1 b_a1 13).toInt := by rw [ez108]
                        have w0z108 : z108.toInt = (sI κ.1 b_a1 13).toInt := by rw [ez108, (hfr.1 b_a1 (by rw [hs0_a1]; decide) 13 (by rw [hs0_a1]; decide)).1]
                        refine ⟨b_a1, e_a1, (hV.mm hs_a1 (by decide) rfl), ?_⟩
                        intro z109 ez109
                        obtain ⟨bz109, ebz109, hsz109⟩ := hV.1.nn hs_a1 (by decide) rfl 14 rfl (by decide)
                        have ebz109 := ez109.trans ebz109
                        refine ⟨(W.2 bz109), (AL.of hV ebz109 hsz109 (by decide) rfl (by decide)), ?_⟩
                        intro z110 ez110
                        have lnz110 := nI_ln ez110 (hV.lm hsz109 (by decide) rfl)
                        have lmz110 := (hV.lm hsz109 (by decide) rfl)
                        refine ⟨fun c12 => ?_, fun c12 => ?_⟩
                        · (try dsimp only)
                          (try dsimp only)
                          refine ⟨b_a1, e_a1, (hV.mm hs_a1 (by decide) rfl), ?_⟩
                          intro z88 ez88
                          have vz88 := hV.1.iv hs_a1 (by decide) rfl 0 (-2147483648) 2147483647 rfl ez88
                          have wz88 : z88.toInt = (sI κ81.1 b_a1 0).toInt := by rw [ez88]
                          have w0z88 : z88.toInt = (sI κ.1 b_a1 0).toInt := by rw [ez88, (hfr.1 b_a1 (by rw [hs0_a1]; decide) 0 (by rw [hs0_a1]; decide)).1]
                          refine jc_dup ?_
                          refine ⟨fun c13 => ?_, fun c13 => ?_⟩
                          · (try dsimp only)
                            exact kk W κ81 hx (hV.dn (by omega)) hfr trivial
                          · refine ⟨fun c14 => ?_, fun c14 => ?_⟩
                            · (try dsimp only)
                              exact kk W κ81 hx (hV.dn (by omega)) hfr trivial
                            · refine ⟨b_a1, e_a1, (hV.mm hs_a1 (by decide) rfl), ?_⟩
                              intro z94 ez94
                              have ebz94 : z94 = some bz109 := (ez94.trans ez109.symm).trans ebz109
                              refine ⟨bz12, ebz12, (hV.mm hsz12 (by decide) rfl), ?_⟩
                              intro z95 ez95
                              have ebz95 : z95 = some bk252_0 := ez95.trans pk1
                              refine ⟨b_a1, e_a1, (hV.mm hs_a1 (by decide) rfl), ?_⟩
                              intro z96 ez96
                              have vz96 := hV.1.iv hs_a1 (by decide) rfl 12 0 4096 rfl ez96
                              have wz96 : z96.toInt = (sI κ81.1 b_a1 12).toInt := by rw [ez96]
                              have w0z96 : z96.toInt = (sI κ.1 b_a1 12).toInt := by rw [ez96, (hfr.1 b_a1 (by rw [hs0_a1]; decide) 12 (by rw [hs0_a1]; decide)).1]
                              refine ⟨b_a1, e_a1, (hV.mm hs_a1 (by decide) rfl), ?_⟩
                              intro z97 ez97
                              have vz97 := hV.1.iv hs_a1 (by decide) rfl 13 0 1024 rfl ez97
                              have wz97 : z97.toInt = (sI κ81.1 b_a1 13).toInt := by rw [ez97]
                              have w0z97 : z97.toInt = (sI κ.1 b_a1 13).toInt := by rw [ez97, (hfr.1 b_a1 (by rw [hs0_a1]; decide) 13 (by rw [hs0_a1]; decide)).1]
                              have ln0_ := hV.ln hsz109 (by decide) rfl
                              have ln1_ := hV.ln wk252_0 (by decide) rfl
                              refine ⟨bz109, ebz94, bk252_0, ebz95, (hV.mm hsz109 (by decide) rfl), (hV.mm wk252_0 (by decide) rfl), (by omega), fun j hj => (hV.1.el hsz109 (by decide) rfl _ (by omega)).1, ?_⟩
                              intro κ98 eκ98
                              have hV := hV.cpI hsz109 rfl wk252_0 rfl (by omega) eκ98
                              have f1κ98 : CF [(20, 0)] W κ81 κ98 := CF.rf.cpI wk252_0 rfl (by decide) eκ98
                              have pk5 := (f1κ98.1 bz12 (by rw [hsz12]; decide) 13 (by rw [hsz12]; decide)).2.2.trans pk1
                              have hfr := hfr.trW hx f1κ98 (by decide)
                              (try dsimp only)
                              exact kk W κ98 hx (hV.dn (by omega)) hfr trivial
                        · (try dsimp only)
                          refine ⟨b_a1, e_a1, (hV.mm hs_a1 (by decide) rfl), ?_⟩
                          intro z88 ez88
                          have vz88 := hV.1.iv hs_a1 (by decide) rfl 0 (-2147483648) 2147483647 rfl ez88
                          have wz88 : z88.toInt = (sI κ81.1 b_a1 0).toInt := by rw [ez88]
                          have w0z88 : z88.toInt = (sI κ.1 b_a1 0).toInt := by rw [ez88, (hfr.1 b_a1 (by rw [hs0_a1]; decide) 0 (by rw [hs0_a1]; decide)).1]
                          refine jc_dup ?_
                          refine ⟨fun c15 => ?_, fun c15 => ?_⟩
                          · (try dsimp only)
                            exact kk W κ81 hx (hV.dn (by omega)) hfr trivial
                          · refine ⟨fun c16 => ?_, fun c16 => ?_⟩
                            · (try dsimp only)
                              exact kk W κ81 hx (hV.dn (by omega)) hfr trivial
                            · refine ⟨b_a1, e_a1, (hV.mm hs_a1 (by decide) rfl), ?_⟩
                              intro z94 ez94
                              have ebz94 : z94 = some bz109 := (ez94.trans ez109.symm).trans ebz109
                              refine ⟨bz12, ebz12, (hV.mm hsz12 (by decide) rfl), ?_⟩
                              intro z95 ez95
                              have ebz95 : z95 = some bk252_0 := ez95.trans pk1
                              refine ⟨b_a1, e_a1, (hV.mm hs_a1 (by decide) rfl), ?_⟩
                              intro z96 ez96
                              have vz96 := hV.1.iv hs_a1 (by decide) rfl 12 0 4096 rfl ez96
                              have wz96 : z96.toInt = (sI κ81.1 b_a1 12).toInt := by rw [ez96]
                              have w0z96 : z96.toInt = (sI κ.1 b_a1 12).toInt := by rw [ez96, (hfr.1 b_a1 (by rw [hs0_a1]; decide) 12 (by rw [hs0_a1]; decide)).1]
                              refine ⟨b_a1, e_a1, (hV.mm hs_a1 (by decide) rfl), ?_⟩
                              intro z97 ez97
                              have vz97 := hV.1.iv hs_a1 (by decide) rfl 13 0 1024 rfl ez97
                              have wz97 : z97.toInt = (sI κ81.1 b_a1 13).toInt := by rw [ez97]
                              have w0z97 : z97.toInt = (sI κ.1 b_a1 13).toInt := by rw [ez97, (hfr.1 b_a1 (by rw [hs0_a1]; decide) 13 (by rw [hs0_a1]; decide)).1]
                              have ln0_ := hV.ln hsz109 (by decide) rfl
                              have ln1_ := hV.ln wk252_0 (by decide) rfl
                              refine ⟨bz109, ebz94, bk252_0, ebz95, (hV.mm hsz109 (by decide) rfl), (hV.mm wk252_0 (by decide) rfl), (by omega), fun j hj => (hV.1.el hsz109 (by decide) rfl _ (by omega)).1, ?_⟩
                              intro κ98 eκ98
                              have hV := hV.cpI hsz109 rfl wk252_0 rfl (by omega) eκ98
                              have f1κ98 : CF [(20, 0)] W κ81 κ98 := CF.rf.cpI wk252_0 rfl (by decide) eκ98
                              have pk6 := (f1κ98.1 bz12 (by rw [hsz12]; decide) 13 (by rw [hsz12]; decide)).2.2.trans pk1
                              have hfr := hfr.trW hx f1κ98 (by decide)
                              (try dsimp only)
                              exact kk W κ98 hx (hV.dn (by omega)) hfr trivial
                · skip
                  have le252 : WLe W W := WLe.rf
                  refine ⟨fun c17 => ?_, fun c17 => ?_⟩
                  · exact hK78 () κ71 ⟨W, le252, hx, hV.dn (by (try dsimp only); omega), hfr, trivial, ⟨bk231_0, ek231_0, wk231_0, (by (try dsimp only); omega)⟩⟩
                  · refine ⟨bz12, ebz12, (hV.mm hsz12 (by decide) rfl), ?_⟩
                    intro z111 ez111
                    have ebz111 : z111 = some bk231_0 := ez111.trans ek231_0
                    refine ⟨bz12, ebz12, (hV.mm hsz12 (by decide) rfl), ?_⟩
                    intro z112 ez112
                    have vz112 := hV.1.iv hsz12 (by decide) rfl 12 0 4096 rfl ez112
                    have wz112 : z112.toInt = (sI κ71.1 bz12 12).toInt := by rw [ez112]
                    refine t_J7_fill_eb02e hV z111 bk231_0 ebz111 wk231_0 z112 z67 0 (by omega) (fun κ113 hV fκ113 pu1 => ?_)
                    have pk7 := (fκ113.1 bz12 (by rw [hsz12]; decide) 13 (by rw [hsz12]; decide)).2.2.trans ek231_0
                    have hfr := hfr.trW hx fκ113 (by decide)
                    exact hK78 () κ113 ⟨W, le252, hx, hV.dn (by (try dsimp only); omega), hfr, trivial, ⟨bk231_0, pk7, wk231_0, (by (try dsimp only); omega)⟩⟩
              · skip
                have le231 : WLe W W := WLe.rf
                refine ⟨fun c18 => ?_, fun c18 => ?_⟩
                · exact hK72 () κ62 ⟨W, le231, hx, hV.dn (by (try dsimp only); omega), hfr, trivial, ⟨bz68, pk_z68, hsz68, (by (try dsimp only); omega)⟩⟩
                · refine ⟨bz12, ebz12, (hV.mm hsz12 (by decide) rfl), ?_⟩
                  intro z115 ez115
                  have ebz115 : z115 = some bz68 := (ez115.trans ez68.symm).trans ebz68
                  intro z116 ez116
                  try have hz116 := i_add ez116 (by omega) (by omega)
                  have rg_z116 := i_range z116
                  intro z117 ez117
                  try have hz117 := i_sub ez117 (by omega) (by omega)
                  have rg_z117 := i_range z117
                  intro z118 ez118
                  try have hz118 := i_sub ez118 (by omega) (by omega)
                  have rg_z118 := i_range z118
                  intro z119 ez119
                  try have hz119 := i_rem 1024 rfl ez119 (by omega) (by omega)
                  have rg_z119 := i_range z119
                  intro z120 ez120
                  try have hz120 := i_sub ez120 (by omega) (by omega)
                  have rg_z120 := i_range z120
                  have pn_ := hV.potN (by omega) hsz12 pk_z68
                  have nd_ := hV.2.2.1 bz12 hsz12 bz68 pk_z68
                  have st_ := nP_step (b := z120.toInt.toNat) nd_.2.2 (by omega) (by omega) (by omega)
                  refine t_J7_copyOf_9075b hV z115 ebz115 hsz68 z120 (by omega) (by omega) (fun z122 qz122 W κ121 ez122 x1_ hV fκ121 hs_qz122 wn_qz122 => ?_)
                  have pk8 := (fκ121.1 bz12 (by rw [hsz12]; decide) 13 (by rw [hsz12]; decide)).2.2.trans pk_z68
                  have hx2 := hx.tr x1_ hfr.sl
                  have hfr := hfr.trW hx fκ121 (by decide)
                  have hs_h := WLe.at (x1_).1 hs_h (by decide)
                  have hs_a1 := WLe.at (x1_).1 hs_a1 (by decide)
                  have wl_bz8 := ((x1_).1 bz8 (by rw [hsz8]; decide)).2
                  have hsz8 := WLe.at (x1_).1 hsz8 (by decide)
                  have hsz12 := WLe.at (x1_).1 hsz12 (by decide)
                  have wl_bz48 := ((x1_).1 bz48 (by rw [hsz48]; decide)).2
                  have hsz48 := WLe.at (x1_).1 hsz48 (by decide)
                  have wl_bz49 := ((x1_).1 bz49 (by rw [hsz49]; decide)).2
                  have hsz49 := WLe.at (x1_).1 hsz49 (by decide)
                  have wl_bz68 := ((x1_).1 bz68 (by rw [hsz68]; decide)).2
                  have hsz68 := WLe.at (x1_).1 hsz68 (by decide)
                  have le231 := WLe.tr le231 (x1_).1
                  have hx := hx2
                  refine ⟨bz12, ebz12, (hV.mm hsz12 (by decide) rfl), ?_⟩
                  intro κ123 eκ123
                  have nd2_ := hV.2.2.1 bz12 hsz12 bz68 pk8
                  rw [ez122] at eκ123
                  have wnq_ : W.2 qz122 = z120.toInt.toNat := by omega
                  have hV := hV.uND (d := z120.toInt.toNat + 12) hsz12 pk8 hs_qz122 (by omega) (by omega) (by rw [wnq_, wl_bz68]; exact st_) eκ123
                  have hV : CV G E W (c - 0) κ123 := hV.dn (by omega)
                  have f1κ123 : CF [(5, 13)] W κ121 κ123 := CF.rf.uP (k := 13) hsz12 (by decide) (show ((5, 13) : Nat × Nat) ∈ ([(5, 13)] : List (Nat × Nat)) by simp) eκ123
                  have hfr := hfr.trW hx f1κ123 (by decide)
                  have pk_κ123 : sP κ123.1 bz12 13 = some qz122 := by rw [eκ123]; first | exact u2_same | exact u2_same.trans ez122
                  exact hK72 () κ123 ⟨W, le231, hx, hV.dn (by (try dsimp only); omega), hfr, trivial, ⟨qz122, pk_κ123, hs_qz122, (by (try dsimp only); omega)⟩⟩
            · skip
              have le99 : WLe W W := WLe.rf
              refine ⟨fun c19 => ?_, fun c19 => ?_⟩
              · exact hK39 () κ35 ⟨W, le99, hx, hV.dn (by (try dsimp only); omega), hfr, trivial⟩
              · refine ⟨bz12, ebz12, (hV.mm hsz12 (by decide) rfl), ?_⟩
                intro κ124 eκ124
                obtain ⟨rbκ124, reκ124, rsκ124⟩ := hV.1.nn hsz12 (by decide) rfl 13 rfl (by decide)
                have hV := hV.uNS hsz12 reκ124 (v := 0) (by omega) (by omega) eκ124
                have uκ124 : (sI κ124.1 bz12 12).toInt = (0 : Int32).toInt := by rw [eκ124]; exact congrArg Int32.toInt u2_same
                have f1κ124 : CF [(5, 12)] W κ35 κ124 := CF.rf.uI (k := 12) hsz12 (by decide) (show ((5, 12) : Nat × Nat) ∈ ([(5, 12)] : List (Nat × Nat)) by simp) eκ124
                have hfr := hfr.trW hx f1κ124 (by decide)
                refine ⟨by omega, bz12, ebz12, (hV.mm hsz12 (by decide) rfl), ?_⟩
                intro κ125 eκ125
                have rv_κ125 := i_range 0
                have hV := hV.uI (k := 3) (v := 0) hsz12 (Or.inl rfl) (Or.inr (by decide)) (Or.inl (by decide)) (fun _ => (by omega : (0 : Int) ≤ (0 : Int32).toInt ∧ (0 : Int32).toInt ≤ 1)) eκ125
                have uκ125 : (sI κ125.1 bz12 3).toInt = (0 : Int32).toInt := by rw [eκ125]; exact congrArg Int32.toInt u2_same
                have f1κ125 : CF [(5, 3)] W κ124 κ125 := CF.rf.uI (k := 3) hsz12 (by decide) (show ((5, 3) : Nat × Nat) ∈ ([(5, 3)] : List (Nat × Nat)) by simp) eκ125
                have hfr := hfr.trW hx f1κ125 (by decide)
                exact hK39 () κ125 ⟨W, le99, hx, hV.dn (by (try dsimp only); omega), hfr, trivial⟩
          · skip
            refine ⟨fun c20 => ?_, fun c20 => ?_⟩
            · exact hK32 0 κ28 ⟨rfl, (by (try dsimp only); omega)⟩
            · exact hK32 1 κ28 ⟨rfl, (by (try dsimp only); omega)⟩
        · skip
          refine ⟨fun c21 => ?_, fun c21 => ?_⟩
          · exact hK23 0 κ ⟨rfl, (by (try dsimp only); omega)⟩
          · exact hK23 1 κ ⟨rfl, (by (try dsimp only); omega)⟩
      · skip
        refine ⟨fun c22 => ?_, fun c22 => ?_⟩
        · exact hK17 0 κ ⟨rfl, (by (try dsimp only); omega)⟩
        · exact hK17 1 κ ⟨rfl, (by (try dsimp only); omega)⟩
    · (try dsimp only)
      exact kk W κ hx (hV.dn (by omega)) hfr trivial
set_option maxRecDepth 100000 in
set_option maxHeartbeats 4000000 in
theorem t_X11_comeToDisk {G : GE} {E : CE} {W0 : CW} {c : Int} {κ : CS} (hV : CV G E W0 c κ) (h : Nat) (hs_h : W0.1 h = 1)  (hc : 0 ≤ c) {post : CS → Prop} (kk : ∀ (W' : CW) (κ' : CS), WX W0 W' κ → CV G E W' (c - 0) κ' → CF [(1, 6), (20, 0), (30, 0), (5, 1), (5, 10), (5, 11), (5, 12), (5, 13), (5, 2), (5, 3), (5, 4), (5, 6), (5, 7), (5, 8), (5, 9), (6, 1)] W0 κ κ' → ((sI κ'.1 h 6).toInt = 0) → post κ') : F_X11_comeToDisk G h post κ := by
  have hs0_h := hs_h
  suffices H_ : ∀ W : CW, WX W0 W κ → CV G E W (c - 0) κ → (W.1 h = 1) → F_X11_comeToDisk G h post κ from H_ W0 WX.rf (hV.dn (by omega)) hs_h
  intro W hx hV hs_h
  unfold F_X11_comeToDisk
  have hfr : CF [(1, 6), (20, 0), (30, 0), (5, 1), (5, 10), (5, 11), (5, 12), (5, 13), (5, 2), (5, 3), (5, 4), (5, 6), (5, 7), (5, 8), (5, 9), (6, 1)] W0 κ κ := CF.rf
  have k_0 : (0 : Int32).toInt = 0 := rfl
  have k_1 : (1 : Int32).toInt = 1 := rfl
  have kl_1 : (1 : Int64).toInt = 1 := rfl
  refine lc_in (fun (x : Int32) (κ' : CS) => ∃ W' : CW, WLe W W' ∧ WX W0 W' κ ∧ CV G E W' (c - 0) κ' ∧ CF [(1, 6), (20, 0), (30, 0), (5, 1), (5, 10), (5, 11), (5, 12), (5, 13), (5, 2), (5, 3), (5, 4), (5, 6), (5, 7), (5, 8), (5, 9), (6, 1)] W0 κ κ' ∧ (((0 ≤ x.toInt)))) (fun (x : Int32) (κ' : CS) => (2147483647 - x.toInt).toNat) ⟨W, WLe.rf, hx, hV.dn (by (try dsimp only); omega), hfr, (by (try dsimp only); omega)⟩ (fun x1 κ2 hJ K3 hK3 => ?_)
  obtain ⟨W, le2, hx, hV, hfr, hv⟩ := hJ
  have hs_h := WLe.at le2 hs_h (by decide)
  (try dsimp only at hv)
  have rg_x1 := i_range x1
  refine ⟨(hV.mm hs_h (by decide) rfl), ?_⟩
  intro z5 ez5
  have vz5 := hV.1.iv hs_h (by decide) rfl 6 (-2147483648) 2147483647 rfl ez5
  have wz5 : z5.toInt = (sI κ2.1 h 6).toInt := by rw [ez5]
  refine jc_dup ?_
  refine ⟨fun c1 => ?_, fun c1 => ?_⟩
  · (try dsimp only)
    refine ⟨(hV.mm hs_h (by decide) rfl), ?_⟩
    intro κ11 eκ11
    have rv_κ11 := i_range 0
    have hV := hV.uI (k := 6) (v := 0) hs_h (Or.inl rfl) (Or.inl (by decide)) (Or.inl (by decide)) (fun _ => (by omega : (-2147483648 : Int) ≤ (0 : Int32).toInt ∧ (0 : Int32).toInt ≤ 2147483647)) eκ11
    have uκ11 : (sI κ11.1 h 6).toInt = (0 : Int32).toInt := by rw [eκ11]; exact congrArg Int32.toInt u2_same
    have f1κ11 : CF [(1, 6)] W κ2 κ11 := CF.rf.uI (k := 6) hs_h (by decide) (show ((1, 6) : Nat × Nat) ∈ ([(1, 6)] : List (Nat × Nat)) by simp) eκ11
    have hfr := hfr.trW hx f1κ11 (by decide)
    exact kk W κ11 hx (hV.dn (by omega)) hfr (by omega)
  · refine ⟨(hV.mm hs_h (by decide) rfl), ?_⟩
    intro z12 ez12
    obtain ⟨bz12, ebz12, hsz12⟩ := hV.1.nn hs_h (by decide) rfl 5 rfl (by decide)
    have ebz12 := ez12.trans ebz12
    refine ⟨(W.2 bz12), (AL.of hV ebz12 hsz12 (by decide) rfl (by decide)), ?_⟩
    intro z13 ez13
    have lnz13 := nI_ln ez13 (hV.lm hsz12 (by decide) rfl)
    have lmz13 := (hV.lm hsz12 (by decide) rfl)
    have lxz13 := hV.1.fx hsz12 (by decide) rfl 8 rfl (by decide)
    refine ⟨fun c2 => ?_, fun c2 => ?_⟩
    · (try dsimp only)
      refine ⟨(hV.mm hs_h (by decide) rfl), ?_⟩
      intro κ11 eκ11
      have rv_κ11 := i_range 0
      have hV := hV.uI (k := 6) (v := 0) hs_h (Or.inl rfl) (Or.inl (by decide)) (Or.inl (by decide)) (fun _ => (by omega : (-2147483648 : Int) ≤ (0 : Int32).toInt ∧ (0 : Int32).toInt ≤ 2147483647)) eκ11
      have uκ11 : (sI κ11.1 h 6).toInt = (0 : Int32).toInt := by rw [eκ11]; exact congrArg Int32.toInt u2_same
      have f1κ11 : CF [(1, 6)] W κ2 κ11 := CF.rf.uI (k := 6) hs_h (by decide) (show ((1, 6) : Nat × Nat) ∈ ([(1, 6)] : List (Nat × Nat)) by simp) eκ11
      have hfr := hfr.trW hx f1κ11 (by decide)
      exact kk W κ11 hx (hV.dn (by omega)) hfr (by omega)
    · refine ⟨(hV.mm hs_h (by decide) rfl), ?_⟩
      intro z14 ez14
      obtain ⟨bz14, ebz14, hsz14⟩ := hV.1.nn hs_h (by decide) rfl 4 rfl (by decide)
      have ebz14 := ez14.trans ebz14
      refine ⟨(hV.mm hs_h (by decide) rfl), ?_⟩
      intro z15 ez15
      have ebz15 : z15 = some bz12 := (ez15.trans ez12.symm).trans ebz12
      have ln_ := hV.ln hsz12 (by decide) rfl
      have lx_ := hV.1.fx hsz12 (by decide) rfl 8 rfl (by decide)
      refine ⟨bz12, ebz15, ⟨(hV.mm hsz12 (by decide) rfl).1, by rw [(hV.mm hsz12 (by decide) rfl).2]; decide⟩, by omega, ?_⟩
      intro z16 ez16
      obtain ⟨bz16, ebz16, hsz16⟩ := (hV.1.el hsz12 (by decide) rfl x1.toInt.toNat (by omega)).2.nn (by decide)
      rw [← ez16] at ebz16
      refine ⟨bz14, ebz14, (hV.mm hsz14 (by decide) rfl), ?_⟩
      refine t_X9_apply hV bz14 hsz14 z16 bz16 ebz16 hsz16  (by omega) (fun W κ17 x1_ hV fκ17 pu1 => ?_)
      have hV : CV G E W (c - 0) κ17 := hV.dn (by omega)
      have hx2 := hx.tr x1_ hfr.sl
      have hfr := hfr.trW hx fκ17 (by decide)
      have hs_h := WLe.at (x1_).1 hs_h (by decide)
      have wl_bz12 := ((x1_).1 bz12 (by rw [hsz12]; decide)).2
      have hsz12 := WLe.at (x1_).1 hsz12 (by decide)
      have hsz14 := WLe.at (x1_).1 hsz14 (by decide)
      have hsz16 := WLe.at (x1_).1 hsz16 (by decide)
      have le2 := WLe.tr le2 (x1_).1
      have hx := hx2
      intro z19 ez19
      try have hz19 := i_add ez19 (by omega) (by omega)
      have rg_z19 := i_range z19
      exact hK3 z19 κ17 ⟨W, le2, hx, hV.dn (by (try dsimp only); omega), hfr, (by (try dsimp only); omega)⟩ (by (try dsimp only); omega)
set_option maxRecDepth 100000 in
set_option maxHeartbeats 4000000 in
theorem t_X11_nextChange {G : GE} {E : CE} {W0 : CW} {c : Int} {κ : CS} (hV : CV G E W0 c κ) (h : Nat) (hs_h : W0.1 h = 1) (a1 : Int32) (a2 : Option Nat) (b_a2 : Nat) (e_a2 : a2 = some b_a2) (hs_a2 : W0.1 b_a2 = 5)  (hc : 0 ≤ c) {post : Option Nat → CS → Prop} (kk : ∀ (r : Option Nat) (W' : CW) (κ' : CS), WX W0 W' κ → CV G E W' (c - 0) κ' → CF [(1, 6), (20, 0), (30, 0), (4, 0), (4, 1), (4, 10), (4, 11), (4, 12), (4, 13), (4, 2), (4, 3), (4, 5), (4, 6), (4, 7), (4, 8), (4, 9), (5, 1), (5, 10), (5, 11), (5, 12), (5, 13), (5, 2), (5, 3), (5, 4), (5, 6), (5, 7), (5, 8), (5, 9), (6, 1)] W0 κ κ' → (∃ b, r = some b ∧ W'.1 b = 4) → post r κ') : F_X11_nextChange G h a1 a2 post κ := by
  have hs0_h := hs_h
  have hs0_a2 := hs_a2
  suffices H_ : ∀ W : CW, WX W0 W κ → CV G E W (c - 0) κ → (W.1 h = 1) → (W.1 b_a2 = 5) → F_X11_nextChange G h a1 a2 post κ from H_ W0 WX.rf (hV.dn (by omega)) hs_h hs_a2
  intro W hx hV hs_h hs_a2
  unfold F_X11_nextChange
  have hfr : CF [(1, 6), (20, 0), (30, 0), (4, 0), (4, 1), (4, 10), (4, 11), (4, 12), (4, 13), (4, 2), (4, 3), (4, 5), (4, 6), (4, 7), (4, 8), (4, 9), (5, 1), (5, 10), (5, 11), (5, 12), (5, 13), (5, 2), (5, 3), (5, 4), (5, 6), (5, 7), (5, 8), (5, 9), (6, 1)] W0 κ κ := CF.rf
  have k_0 : (0 : Int32).toInt = 0 := rfl
  have rg_a1 := i_range a1
  refine ⟨(hV.mm hs_h (by decide) rfl), ?_⟩
  intro z1 ez1
  have vz1 := hV.1.iv hs_h (by decide) rfl 6 (-2147483648) 2147483647 rfl ez1
  have wz1 : z1.toInt = (sI κ.1 h 6).toInt := by rw [ez1]
  refine jc_dup ?_
  refine jc_dup ?_
  refine ⟨fun c1 => ?_, fun c1 => ?_⟩
  · (try dsimp only)
    refine ⟨(hV.mm hs_h (by decide) rfl), ?_⟩
    refine t_X11_comeToDisk hV h hs_h  (by omega) (fun W κ17 x1_ hV fκ17 pu1 => ?_)
    have hV : CV G E W (c - 0) κ17 := hV.dn (by omega)
    have hx2 := hx.tr x1_ hfr.sl
    have hfr := hfr.trW hx fκ17 (by decide)
    have hs_h := WLe.at (x1_).1 hs_h (by decide)
    have hs_a2 := WLe.at (x1_).1 hs_a2 (by decide)
    have hx := hx2
    (try dsimp only)
    refine ⟨(hV.mm hs_h (by decide) rfl), ?_⟩
    intro z7 ez7
    obtain ⟨bz7, ebz7, hsz7⟩ := hV.1.nn hs_h (by decide) rfl 5 rfl (by decide)
    have ebz7 := ez7.trans ebz7
    refine ⟨(hV.mm hs_h (by decide) rfl), ?_⟩
    intro z8 ez8
    have vz8 := hV.1.iv hs_h (by decide) rfl 6 (-2147483648) 2147483647 rfl ez8
    have wz8 : z8.toInt = (sI κ17.1 h 6).toInt := by rw [ez8]
    have ln_ := hV.ln hsz7 (by decide) rfl
    have lx_ := hV.1.fx hsz7 (by decide) rfl 8 rfl (by decide)
    refine ⟨bz7, ebz7, ⟨(hV.mm hsz7 (by decide) rfl).1, by rw [(hV.mm hsz7 (by decide) rfl).2]; decide⟩, by omega, ?_⟩
    intro z9 ez9
    obtain ⟨bz9, ebz9, hsz9⟩ := (hV.1.el hsz7 (by decide) rfl z8.toInt.toNat (by omega)).2.nn (by decide)
    rw [← ez9] at ebz9
    refine ⟨bz9, ebz9, (hV.mm hsz9 (by decide) rfl), ?_⟩
    refine t_X1_fill hV bz9 hsz9 a1 a2 b_a2 e_a2 hs_a2  (fun κ10 hV fκ10 pu2 => ?_)
    have hfr := hfr.trW hx fκ10 (by decide)
    exact kk z9 W κ10 hx (hV.dn (by omega)) hfr ⟨bz9, ebz9, hsz9⟩
  · refine ⟨(hV.mm hs_h (by decide) rfl), ?_⟩
    intro z19 ez19
    have vz19 := hV.1.iv hs_h (by decide) rfl 6 (-2147483648) 2147483647 rfl ez19
    have wz19 : z19.toInt = (sI κ.1 h 6).toInt := by rw [ez19]
    refine ⟨(hV.mm hs_h (by decide) rfl), ?_⟩
    intro z20 ez20
    obtain ⟨bz20, ebz20, hsz20⟩ := hV.1.nn hs_h (by decide) rfl 5 rfl (by decide)
    have ebz20 := ez20.trans ebz20
    refine ⟨(W.2 bz20), (AL.of hV ebz20 hsz20 (by decide) rfl (by decide)), ?_⟩
    intro z21 ez21
    have lnz21 := nI_ln ez21 (hV.lm hsz20 (by decide) rfl)
    have lmz21 := (hV.lm hsz20 (by decide) rfl)
    have lxz21 := hV.1.fx hsz20 (by decide) rfl 8 rfl (by decide)
    refine ⟨fun c2 => ?_, fun c2 => ?_⟩
    · (try dsimp only)
      refine ⟨(hV.mm hs_h (by decide) rfl), ?_⟩
      intro z7 ez7
      have ebz7 : z7 = some bz20 := (ez7.trans ez20.symm).trans ebz20
      refine ⟨(hV.mm hs_h (by decide) rfl), ?_⟩
      intro z8 ez8
      have vz8 := hV.1.iv hs_h (by decide) rfl 6 (-2147483648) 2147483647 rfl ez8
      have wz8 : z8.toInt = (sI κ.1 h 6).toInt := by rw [ez8]
      have ln_ := hV.ln hsz20 (by decide) rfl
      have lx_ := hV.1.fx hsz20 (by decide) rfl 8 rfl (by decide)
      refine ⟨bz20, ebz7, ⟨(hV.mm hsz20 (by decide) rfl).1, by rw [(hV.mm hsz20 (by decide) rfl).2]; decide⟩, by omega, ?_⟩
      intro z9 ez9
      obtain ⟨bz9, ebz9, hsz9⟩ := (hV.1.el hsz20 (by decide) rfl z8.toInt.toNat (by omega)).2.nn (by decide)
      rw [← ez9] at ebz9
      refine ⟨bz9, ebz9, (hV.mm hsz9 (by decide) rfl), ?_⟩
      refine t_X1_fill hV bz9 hsz9 a1 a2 b_a2 e_a2 hs_a2  (fun κ10 hV fκ10 pu3 => ?_)
      have hfr := hfr.trW hx fκ10 (by decide)
      exact kk z9 W κ10 hx (hV.dn (by omega)) hfr ⟨bz9, ebz9, hsz9⟩
    · (try dsimp only)
      refine ⟨(hV.mm hs_h (by decide) rfl), ?_⟩
      refine t_X11_comeToDisk hV h hs_h  (by omega) (fun W κ17 x1_ hV fκ17 pu4 => ?_)
      have hV : CV G E W (c - 0) κ17 := hV.dn (by omega)
      have hx2 := hx.tr x1_ hfr.sl
      have hfr := hfr.trW hx fκ17 (by decide)
      have hs_h := WLe.at (x1_).1 hs_h (by decide)
      have hs_a2 := WLe.at (x1_).1 hs_a2 (by decide)
      have wl_bz20 := ((x1_).1 bz20 (by rw [hsz20]; decide)).2
      have hsz20 := WLe.at (x1_).1 hsz20 (by decide)
      have hx := hx2
      (try dsimp only)
      refine ⟨(hV.mm hs_h (by decide) rfl), ?_⟩
      intro z7 ez7
      have ebz7 : z7 = some bz20 := (ez7.trans (hfr.1 h (by rw [hs0_h]; decide) 5 (by rw [hs0_h]; decide)).2.2).trans (ez20.symm.trans ebz20)
      refine ⟨(hV.mm hs_h (by decide) rfl), ?_⟩
      intro z8 ez8
      have vz8 := hV.1.iv hs_h (by decide) rfl 6 (-2147483648) 2147483647 rfl ez8
      have wz8 : z8.toInt = (sI κ17.1 h 6).toInt := by rw [ez8]
      have ln_ := hV.ln hsz20 (by decide) rfl
      have lx_ := hV.1.fx hsz20 (by decide) rfl 8 rfl (by decide)
      refine ⟨bz20, ebz7, ⟨(hV.mm hsz20 (by decide) rfl).1, by rw [(hV.mm hsz20 (by decide) rfl).2]; decide⟩, by omega, ?_⟩
      intro z9 ez9
      obtain ⟨bz9, ebz9, hsz9⟩ := (hV.1.el hsz20 (by decide) rfl z8.toInt.toNat (by omega)).2.nn (by decide)
      rw [← ez9] at ebz9
      refine ⟨bz9, ebz9, (hV.mm hsz9 (by decide) rfl), ?_⟩
      refine t_X1_fill hV bz9 hsz9 a1 a2 b_a2 e_a2 hs_a2  (fun κ10 hV fκ10 pu5 => ?_)
      have hfr := hfr.trW hx fκ10 (by decide)
      exact kk z9 W κ10 hx (hV.dn (by omega)) hfr ⟨bz9, ebz9, hsz9⟩
set_option maxRecDepth 100000 in
set_option maxHeartbeats 4000000 in
theorem t_X11_done {G : GE} {E : CE} {W0 : CW} {c : Int} {κ : CS} (hV : CV G E W0 c κ) (h : Nat) (hs_h : W0.1 h = 1) (a1 : Option Nat) (b_a1 : Nat) (e_a1 : a1 = some b_a1) (hs_a1 : W0.1 b_a1 = 4)  (hc : 0 ≤ c) {post : CS → Prop} (kk : ∀ (W' : CW) (κ' : CS), WX W0 W' κ → CV G E W' (c - 0) κ' → CF [(1, 6), (20, 0), (30, 0), (5, 1), (5, 10), (5, 11), (5, 12), (5, 13), (5, 2), (5, 3), (5, 4), (5, 6), (5, 7), (5, 8), (5, 9), (6, 1)] W0 κ κ' → (True) → post κ') : F_X11_done G h a1 post κ := by
  have hs0_h := hs_h
  have hs0_a1 := hs_a1
  suffices H_ : ∀ W : CW, WX W0 W κ → CV G E W (c - 0) κ → (W.1 h = 1) → (W.1 b_a1 = 4) → F_X11_done G h a1 post κ from H_ W0 WX.rf (hV.dn (by omega)) hs_h hs_a1
  intro W hx hV hs_h hs_a1
  unfold F_X11_done
  have hfr : CF [(1, 6), (20, 0), (30, 0), (5, 1), (5, 10), (5, 11), (5, 12), (5, 13), (5, 2), (5, 3), (5, 4), (5, 6), (5, 7), (5, 8), (5, 9), (6, 1)] W0 κ κ := CF.rf
  have k_0 : (0 : Int32).toInt = 0 := rfl
  have k_1 : (1 : Int32).toInt = 1 := rfl
  have k_8 : (8 : Int32).toInt = 8 := rfl
  have kl_1 : (1 : Int64).toInt = 1 := rfl
  refine ⟨(hV.mm hs_h (by decide) rfl), ?_⟩
  intro z1 ez1
  obtain ⟨bz1, ebz1, hsz1⟩ := hV.1.nn hs_h (by decide) rfl 3 rfl (by decide)
  have ebz1 := ez1.trans ebz1
  refine ⟨bz1, ebz1, (hV.mm hsz1 (by decide) rfl), ?_⟩
  refine t_X9_apply hV bz1 hsz1 a1 b_a1 e_a1 hs_a1  (by omega) (fun W κ2 x1_ hV fκ2 pu1 => ?_)
  have hV : CV G E W (c - 0) κ2 := hV.dn (by omega)
  have hx2 := hx.tr x1_ hfr.sl
  have hfr := hfr.trW hx fκ2 (by decide)
  have hs_h := WLe.at (x1_).1 hs_h (by decide)
  have hs_a1 := WLe.at (x1_).1 hs_a1 (by decide)
  have hsz1 := WLe.at (x1_).1 hsz1 (by decide)
  have hx := hx2
  refine ⟨(hV.mm hs_h (by decide) rfl), ?_⟩
  intro z4 ez4
  have vz4 := hV.1.iv hs_h (by decide) rfl 6 (-2147483648) 2147483647 rfl ez4
  have wz4 : z4.toInt = (sI κ2.1 h 6).toInt := by rw [ez4]
  intro z5 ez5
  try have hz5 := i_add ez5 (by omega) (by omega)
  have rg_z5 := i_range z5
  refine ⟨(hV.mm hs_h (by decide) rfl), ?_⟩
  intro κ6 eκ6
  have rv_κ6 := i_range z5
  have hV := hV.uI (k := 6) (v := z5) hs_h (Or.inl rfl) (Or.inl (by decide)) (Or.inl (by decide)) (fun _ => (by omega : (-2147483648 : Int) ≤ (z5 : Int32).toInt ∧ (z5 : Int32).toInt ≤ 2147483647)) eκ6
  have uκ6 : (sI κ6.1 h 6).toInt = (z5 : Int32).toInt := by rw [eκ6]; exact congrArg Int32.toInt u2_same
  have f1κ6 : CF [(1, 6)] W κ2 κ6 := CF.rf.uI (k := 6) hs_h (by decide) (show ((1, 6) : Nat × Nat) ∈ ([(1, 6)] : List (Nat × Nat)) by simp) eκ6
  have hfr := hfr.trW hx f1κ6 (by decide)
  refine ⟨(hV.mm hs_h (by decide) rfl), ?_⟩
  intro z7 ez7
  have vz7 := hV.1.iv hs_h (by decide) rfl 6 (-2147483648) 2147483647 rfl ez7
  have wz7 : z7.toInt = (sI κ6.1 h 6).toInt := by rw [ez7]
  refine jc_dup ?_
  refine ⟨fun c1 => ?_, fun c1 => ?_⟩
  · (try dsimp only)
    exact kk W κ6 hx (hV.dn (by omega)) hfr trivial
  · refine ⟨(hV.mm hs_h (by decide) rfl), ?_⟩
    refine t_X11_comeToDisk hV h hs_h  (by omega) (fun W κ13 x1_ hV fκ13 pu2 => ?_)
    have hV : CV G E W (c - 0) κ13 := hV.dn (by omega)
    have hx2 := hx.tr x1_ hfr.sl
    have hfr := hfr.trW hx fκ13 (by decide)
    have hs_h := WLe.at (x1_).1 hs_h (by decide)
    have hs_a1 := WLe.at (x1_).1 hs_a1 (by decide)
    have hsz1 := WLe.at (x1_).1 hsz1 (by decide)
    have hx := hx2
    (try dsimp only)
    exact kk W κ13 hx (hV.dn (by omega)) hfr trivial
set_option maxRecDepth 100000 in
set_option maxHeartbeats 4000000 in
theorem t_X11_makeRoot {G : GE} {E : CE} {W0 : CW} {c : Int} {κ : CS} (hV : CV G E W0 c κ) (h : Nat) (hs_h : W0.1 h = 1)  (hc : 0 ≤ c) {post : Int32 → CS → Prop} (kk : ∀ (r : Int32) (W' : CW) (κ' : CS), WX W0 W' κ → CV G E W' (c - 0) κ' → CF [(1, 6), (20, 0), (30, 0), (4, 0), (4, 1), (4, 10), (4, 11), (4, 12), (4, 13), (4, 2), (4, 3), (4, 5), (4, 6), (4, 7), (4, 8), (4, 9), (5, 1), (5, 10), (5, 11), (5, 12), (5, 13), (5, 2), (5, 3), (5, 4), (5, 6), (5, 7), (5, 8), (5, 9), (6, 1)] W0 κ κ' → (True) → post r κ') : F_X11_makeRoot G h post κ := by
  have hs0_h := hs_h
  suffices H_ : ∀ W : CW, WX W0 W κ → CV G E W (c - 0) κ → (W.1 h = 1) → F_X11_makeRoot G h post κ from H_ W0 WX.rf (hV.dn (by omega)) hs_h
  intro W hx hV hs_h
  unfold F_X11_makeRoot
  have hfr : CF [(1, 6), (20, 0), (30, 0), (4, 0), (4, 1), (4, 10), (4, 11), (4, 12), (4, 13), (4, 2), (4, 3), (4, 5), (4, 6), (4, 7), (4, 8), (4, 9), (5, 1), (5, 10), (5, 11), (5, 12), (5, 13), (5, 2), (5, 3), (5, 4), (5, 6), (5, 7), (5, 8), (5, 9), (6, 1)] W0 κ κ := CF.rf
  have k_m1 : ((-1) : Int32).toInt = (-1) := rfl
  have k_0 : (0 : Int32).toInt = 0 := rfl
  have k_1 : (1 : Int32).toInt = 1 := rfl
  have kl_m1 : ((-1) : Int64).toInt = (-1) := rfl
  have kl_0 : (0 : Int64).toInt = 0 := rfl
  have kl_1 : (1 : Int64).toInt = 1 := rfl
  refine ⟨(hV.mm hs_h (by decide) rfl), ?_⟩
  refine t_X11_comeToDisk hV h hs_h  (by omega) (fun W κ1 x1_ hV fκ1 pu1 => ?_)
  have hV : CV G E W (c - 0) κ1 := hV.dn (by omega)
  have hx2 := hx.tr x1_ hfr.sl
  have hfr := hfr.trW hx fκ1 (by decide)
  have hs_h := WLe.at (x1_).1 hs_h (by decide)
  have hx := hx2
  refine ⟨(hV.mm hs_h (by decide) rfl), ?_⟩
  intro z3 ez3
  obtain ⟨bz3, ebz3, hsz3⟩ := hV.1.nn hs_h (by decide) rfl 3 rfl (by decide)
  have ebz3 := ez3.trans ebz3
  refine ⟨bz3, ebz3, (hV.mm hsz3 (by decide) rfl), ?_⟩
  refine t_X9_free hV bz3 hsz3  (fun z5 pz5 => ?_)
  refine ⟨fun c1 => ?_, fun c1 => ?_⟩
  · obtain ⟨bn3, ebn3, hsn3⟩ := pz5.resolve_left c1
    refine ⟨(hV.mm hs_h (by decide) rfl), ?_⟩
    refine t_X11_nextChange hV h hs_h 0 z5 bn3 ebn3 hsn3  (by omega) (fun z7 W κ6 x1_ hV fκ6 pz7 => ?_)
    have hV : CV G E W (c - 0) κ6 := hV.dn (by omega)
    have hx2 := hx.tr x1_ hfr.sl
    have hfr := hfr.trW hx fκ6 (by decide)
    have hs_h := WLe.at (x1_).1 hs_h (by decide)
    have hsz3 := WLe.at (x1_).1 hsz3 (by decide)
    have hsn3 := WLe.at (x1_).1 hsn3 (by decide)
    have hx := hx2
    obtain ⟨bz7, ebz7, hsz7⟩ := pz7
    refine ⟨(hV.mm hs_h (by decide) rfl), ?_⟩
    intro z8 ez8
    have vz8 := l_range z8
    have wz8 : z8.toInt = (sJ κ6.1 h 7).toInt := by rw [ez8]
    refine ⟨bz7, ebz7, (hV.mm hsz7 (by decide) rfl), ?_⟩
    refine t_X1_beginNode hV bz7 hsz7 (-1) 1 0 z8 (by omega) (fun κ9 hV fκ9 pu5 => ?_)
    have hfr := hfr.trW hx fκ9 (by decide)
    refine ⟨(hV.mm hs_h (by decide) rfl), ?_⟩
    intro z11 ez11
    obtain ⟨bz11, ebz11, hsz11⟩ := hV.1.nn hs_h (by decide) rfl 0 rfl (by decide)
    have ebz11 := ez11.trans ebz11
    refine ⟨bz11, ebz11, (hV.mm hsz11 (by decide) rfl), ?_⟩
    intro z12 ez12
    have vz12 := hV.1.iv hsz11 (by decide) rfl 1 0 8000 rfl ez12
    have wz12 : z12.toInt = (sI κ9.1 bz11 1).toInt := by rw [ez12]
    refine ⟨bz7, ebz7, (hV.mm hsz7 (by decide) rfl), ?_⟩
    intro z13 ez13
    obtain ⟨bz13, ebz13, hsz13⟩ := hV.1.nn hsz7 (by decide) rfl 4 rfl (by decide)
    have ebz13 := ez13.trans ebz13
    refine ⟨(W.2 bz13), (AL.of hV ebz13 hsz13 (by decide) rfl (by decide)), ?_⟩
    intro z14 ez14
    have lnz14 := nI_ln ez14 (hV.lm hsz13 (by decide) rfl)
    have lmz14 := (hV.lm hsz13 (by decide) rfl)
    have lxz14 := hV.1.fx hsz13 (by decide) rfl 12 rfl (by decide)
    intro z16 mz16
    have rg_z16 := i_range z16
    refine ⟨bz7, ebz7, (hV.mm hsz7 (by decide) rfl), ?_⟩
    intro κ17 eκ17
    have rv_κ17 := i_range z16
    have hV := hV.uI (k := 5) (v := z16) hsz7 (Or.inl rfl) (Or.inl (by decide)) (Or.inl (by decide)) (fun _ => (by omega : (0 : Int) ≤ (z16 : Int32).toInt ∧ (z16 : Int32).toInt ≤ 12)) eκ17
    have uκ17 : (sI κ17.1 bz7 5).toInt = (z16 : Int32).toInt := by rw [eκ17]; exact congrArg Int32.toInt u2_same
    have f1κ17 : CF [(4, 5)] W κ9 κ17 := CF.rf.uI (k := 5) hsz7 (by decide) (show ((4, 5) : Nat × Nat) ∈ ([(4, 5)] : List (Nat × Nat)) by simp) eκ17
    have hfr := hfr.trW hx f1κ17 (by decide)
    refine lc_in (fun (x : Int32) (κ' : CS) => ∃ W' : CW, WLe W W' ∧ WX W0 W' κ ∧ CV G E W' (c - 0) κ' ∧ CF [(1, 6), (20, 0), (30, 0), (4, 0), (4, 1), (4, 10), (4, 11), (4, 12), (4, 13), (4, 2), (4, 3), (4, 5), (4, 6), (4, 7), (4, 8), (4, 9), (5, 1), (5, 10), (5, 11), (5, 12), (5, 13), (5, 2), (5, 3), (5, 4), (5, 6), (5, 7), (5, 8), (5, 9), (6, 1)] W0 κ κ' ∧ (((0 ≤ x.toInt)))) (fun (x : Int32) (κ' : CS) => (2147483647 - x.toInt).toNat) ⟨W, WLe.rf, hx, hV.dn (by (try dsimp only); omega), hfr, (by (try dsimp only); omega)⟩ (fun x18 κ19 hJ K20 hK20 => ?_)
    obtain ⟨W, le57, hx, hV, hfr, hv⟩ := hJ
    have hs_h := WLe.at le57 hs_h (by decide)
    have hsz3 := WLe.at le57 hsz3 (by decide)
    have hsn3 := WLe.at le57 hsn3 (by decide)
    have hsz7 := WLe.at le57 hsz7 (by decide)
    have hsz11 := WLe.at le57 hsz11 (by decide)
    have wl_bz13 := (le57 bz13 (by rw [hsz13]; decide)).2
    have hsz13 := WLe.at le57 hsz13 (by decide)
    (try dsimp only at hv)
    have rg_x18 := i_range x18
    refine ⟨bz7, ebz7, (hV.mm hsz7 (by decide) rfl), ?_⟩
    intro z22 ez22
    have vz22 := hV.1.iv hsz7 (by decide) rfl 5 0 12 rfl ez22
    have wz22 : z22.toInt = (sI κ19.1 bz7 5).toInt := by rw [ez22]
    refine ⟨fun c2 => ?_, fun c2 => ?_⟩
    · refine ⟨(hV.mm hs_h (by decide) rfl), ?_⟩
      intro z23 ez23
      obtain ⟨bz23, ebz23, hsz23⟩ := hV.1.nn hs_h (by decide) rfl 3 rfl (by decide)
      have ebz23 := ez23.trans ebz23
      refine ⟨bz23, ebz23, (hV.mm hsz23 (by decide) rfl), ?_⟩
      refine t_X9_apply hV bz23 hsz23 z7 bz7 ebz7 hsz7  (by omega) (fun W κ24 x1_ hV fκ24 pu6 => ?_)
      have hV : CV G E W (c - 0) κ24 := hV.dn (by omega)
      have hx2 := hx.tr x1_ hfr.sl
      have hfr := hfr.trW hx fκ24 (by decide)
      have hs_h := WLe.at (x1_).1 hs_h (by decide)
      have hsz3 := WLe.at (x1_).1 hsz3 (by decide)
      have hsn3 := WLe.at (x1_).1 hsn3 (by decide)
      have hsz7 := WLe.at (x1_).1 hsz7 (by decide)
      have hsz11 := WLe.at (x1_).1 hsz11 (by decide)
      have wl_bz13 := ((x1_).1 bz13 (by rw [hsz13]; decide)).2
      have hsz13 := WLe.at (x1_).1 hsz13 (by decide)
      have hsz23 := WLe.at (x1_).1 hsz23 (by decide)
      have le57 := WLe.tr le57 (x1_).1
      have hx := hx2
      refine ⟨(hV.mm hs_h (by decide) rfl), ?_⟩
      intro z26 ez26
      obtain ⟨bz26, ebz26, hsz26⟩ := hV.1.nn hs_h (by decide) rfl 4 rfl (by decide)
      have ebz26 := ez26.trans ebz26
      refine ⟨bz26, ebz26, (hV.mm hsz26 (by decide) rfl), ?_⟩
      refine t_X9_apply hV bz26 hsz26 z7 bz7 ebz7 hsz7  (by omega) (fun W κ27 x1_ hV fκ27 pu7 => ?_)
      have hV : CV G E W (c - 0) κ27 := hV.dn (by omega)
      have hx2 := hx.tr x1_ hfr.sl
      have hfr := hfr.trW hx fκ27 (by decide)
      have hs_h := WLe.at (x1_).1 hs_h (by decide)
      have hsz3 := WLe.at (x1_).1 hsz3 (by decide)
      have hsn3 := WLe.at (x1_).1 hsn3 (by decide)
      have hsz7 := WLe.at (x1_).1 hsz7 (by decide)
      have hsz11 := WLe.at (x1_).1 hsz11 (by decide)
      have wl_bz13 := ((x1_).1 bz13 (by rw [hsz13]; decide)).2
      have hsz13 := WLe.at (x1_).1 hsz13 (by decide)
      have hsz23 := WLe.at (x1_).1 hsz23 (by decide)
      have hsz26 := WLe.at (x1_).1 hsz26 (by decide)
      have le57 := WLe.tr le57 (x1_).1
      have hx := hx2
      refine ⟨bn3, ebn3, (hV.mm hsn3 (by decide) rfl), ?_⟩
      intro z29 ez29
      have vz29 := hV.1.iv hsn3 (by decide) rfl 0 (-2147483648) 2147483647 rfl ez29
      have wz29 : z29.toInt = (sI κ27.1 bn3 0).toInt := by rw [ez29]
      exact kk z29 W κ27 hx (hV.dn (by omega)) hfr trivial
    · refine ⟨bz7, ebz7, (hV.mm hsz7 (by decide) rfl), ?_⟩
      intro z30 ez30
      obtain ⟨bz30, ebz30, hsz30⟩ := hV.1.nn hsz7 (by decide) rfl 4 rfl (by decide)
      have ebz30 := ez30.trans ebz30
      refine ⟨(hV.mm hs_h (by decide) rfl), ?_⟩
      intro z31 ez31
      obtain ⟨bz31, ebz31, hsz31⟩ := hV.1.nn hs_h (by decide) rfl 0 rfl (by decide)
      have ebz31 := ez31.trans ebz31
      refine ⟨bz31, ebz31, (hV.mm hsz31 (by decide) rfl), ?_⟩
      refine t2_X6_number hV bz31 hsz31 (by rfl) x18 1  (by decide) (fun z33 pz33 => ?_)
      have rg_z33 := l_range z33
      intro z34 ez34
      try have hz34 := l_toi ez34 (by omega) (by omega)
      have rg_z34 := i_range z34
      intro z35 ez35
      have hz35 := i_b8 ez35
      have rg_z35 := i_range z35
      have ln_ := hV.ln hsz30 (by decide) rfl
      have lx_ := hV.1.fx hsz30 (by decide) rfl 12 rfl (by decide)
      refine ⟨bz30, ebz30, (hV.mm hsz30 (by decide) rfl), by omega, ?_⟩
      intro κ36 eκ36
      have hV := hV.uI (k := x18.toInt.toNat) (v := (vp_nar .byte z35)) hsz30 (Or.inl rfl) (Or.inl (by decide)) (Or.inl (by decide)) (fun _ => (i_byte _)) eκ36
      have f1κ36 : CF [(30, 0)] W κ19 κ36 := CF.rf.uI (k := x18.toInt.toNat) hsz30 (by decide) (show ((30, 0) : Nat × Nat) ∈ ([(30, 0)] : List (Nat × Nat)) by simp) eκ36
      have hfr := hfr.trW hx f1κ36 (by decide)
      intro z37 ez37
      try have hz37 := i_add ez37 (by omega) (by omega)
      have rg_z37 := i_range z37
      exact hK20 z37 κ36 ⟨W, le57, hx, hV.dn (by (try dsimp only); omega), hfr, (by (try dsimp only); omega)⟩ (by (try dsimp only); omega)
  · exact kk (-1) W κ1 hx (hV.dn (by omega)) hfr trivial
set_option maxRecDepth 100000 in
set_option maxHeartbeats 4000000 in
theorem t_X11_share {G : GE} {E : CE} {W0 : CW} {c : Int} {κ : CS} (hV : CV G E W0 c κ) (h : Nat) (hs_h : W0.1 h = 1) (a1 : Int32)  (hc : 0 ≤ c) {post : Int32 → CS → Prop} (kk : ∀ (r : Int32) (W' : CW) (κ' : CS), WX W0 W' κ → CV G E W' (c - 0) κ' → CF [(1, 6), (20, 0), (30, 0), (34, 0), (4, 0), (4, 1), (4, 10), (4, 11), (4, 12), (4, 13), (4, 2), (4, 3), (4, 5), (4, 6), (4, 7), (4, 8), (4, 9), (5, 1), (5, 10), (5, 11), (5, 12), (5, 13), (5, 2), (5, 3), (5, 4), (5, 6), (5, 7), (5, 8), (5, 9), (6, 1), (60, 1)] W0 κ κ' → (0 ≤ r.toInt ∧ r.toInt ≤ 1) → post r κ') : F_X11_share G h a1 post κ := by
  have hs0_h := hs_h
  suffices H_ : ∀ W : CW, WX W0 W κ → CV G E W (c - 0) κ → (W.1 h = 1) → F_X11_share G h a1 post κ from H_ W0 WX.rf (hV.dn (by omega)) hs_h
  intro W hx hV hs_h
  unfold F_X11_share
  have hfr : CF [(1, 6), (20, 0), (30, 0), (34, 0), (4, 0), (4, 1), (4, 10), (4, 11), (4, 12), (4, 13), (4, 2), (4, 3), (4, 5), (4, 6), (4, 7), (4, 8), (4, 9), (5, 1), (5, 10), (5, 11), (5, 12), (5, 13), (5, 2), (5, 3), (5, 4), (5, 6), (5, 7), (5, 8), (5, 9), (6, 1), (60, 1)] W0 κ κ := CF.rf
  have k_m1 : ((-1) : Int32).toInt = (-1) := rfl
  have k_0 : (0 : Int32).toInt = 0 := rfl
  have k_1 : (1 : Int32).toInt = 1 := rfl
  have k_80 : (80 : Int32).toInt = 80 := rfl
  have kl_0 : (0 : Int64).toInt = 0 := rfl
  have kl_1 : (1 : Int64).toInt = 1 := rfl
  have rg_a1 := i_range a1
  refine jc_in (fun (x : Int32) (κ' : CS) => κ = κ' ∧ (((0 ≤ x.toInt ∧ x.toInt ≤ 1) ∧ (x.toInt = 0 ∨ (0 ≤ a1.toInt ∧ a1.toInt < 4))))) (fun x1 κ2 hJ => ?_) (fun K3 hK3 => ?_)
  · obtain ⟨hsg, hv⟩ := hJ
    subst hsg
    (try dsimp only at hv)
    have rg_x1 := i_range x1
    refine jc_dup ?_
    refine ⟨fun c1 => ?_, fun c1 => ?_⟩
    · (try dsimp only)
      refine ⟨(hV.mm hs_h (by decide) rfl), ?_⟩
      intro z11 ez11
      obtain ⟨bz11, ebz11, hsz11⟩ := hV.1.nn hs_h (by decide) rfl 0 rfl (by decide)
      have ebz11 := ez11.trans ebz11
      refine ⟨bz11, ebz11, (hV.mm hsz11 (by decide) rfl), ?_⟩
      intro κ12 eκ12
      obtain ⟨rbκ12, reκ12, rsκ12⟩ := hV.1.nn hsz11 (by decide) rfl 0 rfl (by decide)
      have roκ12 := (hV.2.1 bz11 (by rw [hsz11]; rfl) rbκ12 reκ12).1
      have hV := hV.uRL hsz11 rfl reκ12 (by show 0 ≤ (0 : Int32).toInt ∧ (0 : Int32).toInt ≤ 8000; omega) (by omega) eκ12
      have uκ12 : (sI κ12.1 bz11 1).toInt = (0 : Int32).toInt := by rw [eκ12]; exact congrArg Int32.toInt u2_same
      have f1κ12 : CF [(60, 1)] W κ κ12 := CF.rf.uI (k := 1) hsz11 (by decide) (show ((60, 1) : Nat × Nat) ∈ ([(60, 1)] : List (Nat × Nat)) by simp) eκ12
      have hfr := hfr.trW hx f1κ12 (by decide)
      refine ⟨by omega, ?_⟩
      exact kk x1 W κ12 hx (hV.dn (by omega)) hfr (by omega)
    · refine ⟨(hV.mm hs_h (by decide) rfl), ?_⟩
      intro z13 ez13
      obtain ⟨bz13, ebz13, hsz13⟩ := hV.1.nn hs_h (by decide) rfl 2 rfl (by decide)
      have ebz13 := ez13.trans ebz13
      refine ⟨(hV.mm hs_h (by decide) rfl), ?_⟩
      refine t_X11_makeRoot hV h hs_h  (by omega) (fun z15 W κ14 x1_ hV fκ14 pz15 => ?_)
      have hV : CV G E W (c - 0) κ14 := hV.dn (by omega)
      have hx2 := hx.tr x1_ hfr.sl
      have hfr := hfr.trW hx fκ14 (by decide)
      have hs_h := WLe.at (x1_).1 hs_h (by decide)
      have wl_bz13 := ((x1_).1 bz13 (by rw [hsz13]; decide)).2
      have hsz13 := WLe.at (x1_).1 hsz13 (by decide)
      have hx := hx2
      have rg_z15 := i_range z15
      have ln_ := hV.ln hsz13 (by decide) rfl
      have lx_ := hV.1.fx hsz13 (by decide) rfl 4 rfl (by decide)
      refine ⟨bz13, ebz13, (hV.mm hsz13 (by decide) rfl), by omega, ?_⟩
      intro κ16 eκ16
      have hV := hV.uI (k := a1.toInt.toNat) (v := z15) hsz13 (Or.inl rfl) (Or.inl (by decide)) (Or.inl (by decide)) (fun _ => (by have q := i_range z15; exact q)) eκ16
      have f1κ16 : CF [(34, 0)] W κ14 κ16 := CF.rf.uI (k := a1.toInt.toNat) hsz13 (by decide) (show ((34, 0) : Nat × Nat) ∈ ([(34, 0)] : List (Nat × Nat)) by simp) eκ16
      have hfr := hfr.trW hx f1κ16 (by decide)
      (try dsimp only)
      refine ⟨(hV.mm hs_h (by decide) rfl), ?_⟩
      intro z11 ez11
      obtain ⟨bz11, ebz11, hsz11⟩ := hV.1.nn hs_h (by decide) rfl 0 rfl (by decide)
      have ebz11 := ez11.trans ebz11
      refine ⟨bz11, ebz11, (hV.mm hsz11 (by decide) rfl), ?_⟩
      intro κ12 eκ12
      obtain ⟨rbκ12, reκ12, rsκ12⟩ := hV.1.nn hsz11 (by decide) rfl 0 rfl (by decide)
      have roκ12 := (hV.2.1 bz11 (by rw [hsz11]; rfl) rbκ12 reκ12).1
      have hV := hV.uRL hsz11 rfl reκ12 (by show 0 ≤ (0 : Int32).toInt ∧ (0 : Int32).toInt ≤ 8000; omega) (by omega) eκ12
      have uκ12 : (sI κ12.1 bz11 1).toInt = (0 : Int32).toInt := by rw [eκ12]; exact congrArg Int32.toInt u2_same
      have f1κ12 : CF [(60, 1)] W κ16 κ12 := CF.rf.uI (k := 1) hsz11 (by decide) (show ((60, 1) : Nat × Nat) ∈ ([(60, 1)] : List (Nat × Nat)) by simp) eκ12
      have hfr := hfr.trW hx f1κ12 (by decide)
      refine ⟨by omega, ?_⟩
      exact kk x1 W κ12 hx (hV.dn (by omega)) hfr (by omega)
  · skip
    refine jc_dup ?_
    refine ⟨fun c2 => ?_, fun c2 => ?_⟩
    · (try dsimp only)
      exact hK3 0 κ ⟨rfl, (by (try dsimp only); omega)⟩
    · refine ⟨(hV.mm hs_h (by decide) rfl), ?_⟩
      intro z22 ez22
      obtain ⟨bz22, ebz22, hsz22⟩ := hV.1.nn hs_h (by decide) rfl 2 rfl (by decide)
      have ebz22 := ez22.trans ebz22
      refine ⟨(W.2 bz22), (AL.of hV ebz22 hsz22 (by decide) rfl (by decide)), ?_⟩
      intro z23 ez23
      have lnz23 := nI_ln ez23 (hV.lm hsz22 (by decide) rfl)
      have lmz23 := (hV.lm hsz22 (by decide) rfl)
      have lxz23 := hV.1.fx hsz22 (by decide) rfl 4 rfl (by decide)
      refine ⟨fun c3 => ?_, fun c3 => ?_⟩
      · (try dsimp only)
        exact hK3 0 κ ⟨rfl, (by (try dsimp only); omega)⟩
      · refine ⟨(hV.mm hs_h (by decide) rfl), ?_⟩
        intro z24 ez24
        have ebz24 : z24 = some bz22 := (ez24.trans ez22.symm).trans ebz22
        have ln_ := hV.ln hsz22 (by decide) rfl
        have lx_ := hV.1.fx hsz22 (by decide) rfl 4 rfl (by decide)
        refine ⟨bz22, ebz24, (hV.mm hsz22 (by decide) rfl), by omega, ?_⟩
        intro z25 ez25
        have rg_z25 := i_range z25
        refine ⟨fun c4 => ?_, fun c4 => ?_⟩
        · (try dsimp only)
          exact hK3 0 κ ⟨rfl, (by (try dsimp only); omega)⟩
        · refine ⟨(hV.mm hs_h (by decide) rfl), ?_⟩
          refine t_X11_tapeIsShareName hV h hs_h  (fun z27 pz27 => ?_)
          have rg_z27 := i_range z27
          refine ⟨fun c5 => ?_, fun c5 => ?_⟩
          · (try dsimp only)
            exact hK3 0 κ ⟨rfl, (by (try dsimp only); omega)⟩
          · refine ⟨(hV.mm hs_h (by decide) rfl), ?_⟩
            intro z28 ez28
            obtain ⟨bz28, ebz28, hsz28⟩ := hV.1.nn hs_h (by decide) rfl 0 rfl (by decide)
            have ebz28 := ez28.trans ebz28
            refine ⟨(hV.mm hs_h (by decide) rfl), ?_⟩
            intro z29 ez29
            have ebz29 : z29 = some bz28 := (ez29.trans ez28.symm).trans ebz28
            refine ⟨bz28, ebz29, (hV.mm hsz28 (by decide) rfl), ?_⟩
            intro z30 ez30
            have vz30 := hV.1.iv hsz28 (by decide) rfl 1 0 8000 rfl ez30
            have wz30 : z30.toInt = (sI κ.1 bz28 1).toInt := by rw [ez30]
            refine ⟨(hV.mm hs_h (by decide) rfl), ?_⟩
            refine t_X11_rootNamed hV h hs_h z28 bz28 ebz28 hsz28 (by rfl) 0 1 z30  (fun z32 pz32 => ?_)
            refine ⟨fun c6 => ?_, fun c6 => ?_⟩
            · obtain ⟨bn4, ebn4, hsn4⟩ := pz32.resolve_left c6
              (try dsimp only)
              exact hK3 0 κ ⟨rfl, (by (try dsimp only); omega)⟩
            · refine ⟨(hV.mm hs_h (by decide) rfl), ?_⟩
              intro z33 ez33
              obtain ⟨bz33, ebz33, hsz33⟩ := hV.1.nn hs_h (by decide) rfl 3 rfl (by decide)
              have ebz33 := ez33.trans ebz33
              refine ⟨bz33, ebz33, (hV.mm hsz33 (by decide) rfl), ?_⟩
              intro z34 ez34
              have vz34 := hV.1.iv hsz33 (by decide) rfl 1 (-2147483648) 2147483647 rfl ez34
              have wz34 : z34.toInt = (sI κ.1 bz33 1).toInt := by rw [ez34]
              refine ⟨fun c7 => ?_, fun c7 => ?_⟩
              · (try dsimp only)
                exact hK3 0 κ ⟨rfl, (by (try dsimp only); omega)⟩
              · exact hK3 1 κ ⟨rfl, (by (try dsimp only); omega)⟩
set_option maxRecDepth 100000 in
set_option maxHeartbeats 4000000 in
theorem t_X11_feed {G : GE} {E : CE} {W0 : CW} {c : Int} {κ : CS} (hV : CV G E W0 c κ) (h : Nat) (hs_h : W0.1 h = 1) (a1 : Int32) (a2 : Int32) (a3 : Int32) (a4 : Int32) (a5 : Int32)  (hc : 0 ≤ c) {post : Int32 → CS → Prop} (kk : ∀ (r : Int32) (W' : CW) (κ' : CS), WX W0 W' κ → CV G E W' (c - 0) κ' → CF [(20, 0), (60, 0), (60, 1)] W0 κ κ' → (True) → post r κ') : F_X11_feed G h a1 a2 a3 a4 a5 post κ := by
  have hs0_h := hs_h
  suffices H_ : ∀ W : CW, WX W0 W κ → CV G E W (c - 0) κ → (W.1 h = 1) → F_X11_feed G h a1 a2 a3 a4 a5 post κ from H_ W0 WX.rf (hV.dn (by omega)) hs_h
  intro W hx hV hs_h
  unfold F_X11_feed
  have hfr : CF [(20, 0), (60, 0), (60, 1)] W0 κ κ := CF.rf
  have k_m1 : ((-1) : Int32).toInt = (-1) := rfl
  have k_0 : (0 : Int32).toInt = 0 := rfl
  have k_20 : (20 : Int32).toInt = 20 := rfl
  have k_8000 : (8000 : Int32).toInt = 8000 := rfl
  have kl_m1 : ((-1) : Int64).toInt = (-1) := rfl
  have kl_20 : (20 : Int64).toInt = 20 := rfl
  have rg_a1 := i_range a1
  have rg_a2 := i_range a2
  have rg_a3 := i_range a3
  have rg_a4 := i_range a4
  have rg_a5 := i_range a5
  refine ⟨(hV.mm hs_h (by decide) rfl), ?_⟩
  intro z1 ez1
  obtain ⟨bz1, ebz1, hsz1⟩ := hV.1.nn hs_h (by decide) rfl 0 rfl (by decide)
  have ebz1 := ez1.trans ebz1
  refine ⟨bz1, ebz1, (hV.mm hsz1 (by decide) rfl), ?_⟩
  intro z2 ez2
  have vz2 := hV.1.iv hsz1 (by decide) rfl 1 0 8000 rfl ez2
  have wz2 : z2.toInt = (sI κ.1 bz1 1).toInt := by rw [ez2]
  intro z3 ez3
  try have hz3 := i_add ez3 (by omega) (by omega)
  have rg_z3 := i_range z3
  refine ⟨fun c1 => ?_, fun c1 => ?_⟩
  · refine ⟨(hV.mm hs_h (by decide) rfl), ?_⟩
    intro z4 ez4
    have ebz4 : z4 = some bz1 := (ez4.trans ez1.symm).trans ebz1
    refine ⟨bz1, ebz4, (hV.mm hsz1 (by decide) rfl), ?_⟩
    refine t_X6_addHighestFirst hV bz1 hsz1 a1 (by omega) (by omega) (fun W κ5 x1_ hV fκ5 pu1 => ?_)
    have hV : CV G E W (c - 0) κ5 := hV.dn (by omega)
    have hx2 := hx.tr x1_ hfr.sl
    have hfr := hfr.trW hx fκ5 (by decide)
    have hs_h := WLe.at (x1_).1 hs_h (by decide)
    have hsz1 := WLe.at (x1_).1 hsz1 (by decide)
    have hx := hx2
    refine ⟨(hV.mm hs_h (by decide) rfl), ?_⟩
    intro z7 ez7
    have ebz7 : z7 = some bz1 := (ez7.trans (hfr.1 h (by rw [hs0_h]; decide) 0 (by rw [hs0_h]; decide)).2.2).trans (ez1.symm.trans ebz1)
    refine ⟨bz1, ebz7, (hV.mm hsz1 (by decide) rfl), ?_⟩
    refine t_X6_addHighestFirst hV bz1 hsz1 a2 (by omega) (by omega) (fun W κ8 x1_ hV fκ8 pu2 => ?_)
    have hV : CV G E W (c - 0) κ8 := hV.dn (by omega)
    have hx2 := hx.tr x1_ hfr.sl
    have hfr := hfr.trW hx fκ8 (by decide)
    have hs_h := WLe.at (x1_).1 hs_h (by decide)
    have hsz1 := WLe.at (x1_).1 hsz1 (by decide)
    have hx := hx2
    refine ⟨(hV.mm hs_h (by decide) rfl), ?_⟩
    intro z10 ez10
    have ebz10 : z10 = some bz1 := (ez10.trans (hfr.1 h (by rw [hs0_h]; decide) 0 (by rw [hs0_h]; decide)).2.2).trans (ez1.symm.trans ebz1)
    refine ⟨bz1, ebz10, (hV.mm hsz1 (by decide) rfl), ?_⟩
    refine t_X6_addHighestFirst hV bz1 hsz1 a3 (by omega) (by omega) (fun W κ11 x1_ hV fκ11 pu3 => ?_)
    have hV : CV G E W (c - 0) κ11 := hV.dn (by omega)
    have hx2 := hx.tr x1_ hfr.sl
    have hfr := hfr.trW hx fκ11 (by decide)
    have hs_h := WLe.at (x1_).1 hs_h (by decide)
    have hsz1 := WLe.at (x1_).1 hsz1 (by decide)
    have hx := hx2
    refine ⟨(hV.mm hs_h (by decide) rfl), ?_⟩
    intro z13 ez13
    have ebz13 : z13 = some bz1 := (ez13.trans (hfr.1 h (by rw [hs0_h]; decide) 0 (by rw [hs0_h]; decide)).2.2).trans (ez1.symm.trans ebz1)
    refine ⟨bz1, ebz13, (hV.mm hsz1 (by decide) rfl), ?_⟩
    refine t_X6_addHighestFirst hV bz1 hsz1 a4 (by omega) (by omega) (fun W κ14 x1_ hV fκ14 pu4 => ?_)
    have hV : CV G E W (c - 0) κ14 := hV.dn (by omega)
    have hx2 := hx.tr x1_ hfr.sl
    have hfr := hfr.trW hx fκ14 (by decide)
    have hs_h := WLe.at (x1_).1 hs_h (by decide)
    have hsz1 := WLe.at (x1_).1 hsz1 (by decide)
    have hx := hx2
    refine ⟨(hV.mm hs_h (by decide) rfl), ?_⟩
    intro z16 ez16
    have ebz16 : z16 = some bz1 := (ez16.trans (hfr.1 h (by rw [hs0_h]; decide) 0 (by rw [hs0_h]; decide)).2.2).trans (ez1.symm.trans ebz1)
    refine ⟨bz1, ebz16, (hV.mm hsz1 (by decide) rfl), ?_⟩
    refine t_X6_addHighestFirst hV bz1 hsz1 a5 (by omega) (by omega) (fun W κ17 x1_ hV fκ17 pu5 => ?_)
    have hV : CV G E W (c - 0) κ17 := hV.dn (by omega)
    have hx2 := hx.tr x1_ hfr.sl
    have hfr := hfr.trW hx fκ17 (by decide)
    have hs_h := WLe.at (x1_).1 hs_h (by decide)
    have hsz1 := WLe.at (x1_).1 hsz1 (by decide)
    have hx := hx2
    refine ⟨(hV.mm hs_h (by decide) rfl), ?_⟩
    intro z19 ez19
    have ebz19 : z19 = some bz1 := (ez19.trans (hfr.1 h (by rw [hs0_h]; decide) 0 (by rw [hs0_h]; decide)).2.2).trans (ez1.symm.trans ebz1)
    refine ⟨bz1, ebz19, (hV.mm hsz1 (by decide) rfl), ?_⟩
    intro z20 ez20
    have vz20 := hV.1.iv hsz1 (by decide) rfl 1 0 8000 rfl ez20
    have wz20 : z20.toInt = (sI κ17.1 bz1 1).toInt := by rw [ez20]
    exact kk z20 W κ17 hx (hV.dn (by omega)) hfr trivial
  · exact kk (-1) W κ hx (hV.dn (by omega)) hfr trivial

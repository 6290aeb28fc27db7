/-! the class: a new house, its parts, 2 -/
set_option maxRecDepth 100000 in
set_option maxHeartbeats 4000000 in
theorem t_X1_init {G : GE} {E : CE} {W0 : CW} {c : Int} {κ : CS} (hV : CV G E W0 c κ) (h : Nat) (hp_h : PO G E W0 κ h 4 [4, 14])  (hc : 36 ≤ c) {post : CS → Prop} (kk : ∀ (W' : CW) (κ' : CS), WX W0 W' κ → CV G E W' (c - 36) κ' → CFx [] W0 h κ κ' → PO G E W' κ' h 4 [] → (True) → post κ') : F_X1_init G h post κ := by
  have hp0_h := hp_h
  have hp0_h := hp_h.1
  suffices H_ : ∀ W : CW, WX W0 W κ → CV G E W (c - 0) κ → (PO G E W κ h 4 [4, 14]) → F_X1_init G h post κ from H_ W0 WX.rf (hV.dn (by omega)) hp_h
  intro W hx hV hp_h
  unfold F_X1_init
  have hfr : CFx [] W0 h κ κ := CFx.rf
  have k_0 : (0 : Int32).toInt = 0 := rfl
  have k_12 : (12 : Int32).toInt = 12 := rfl
  have hbd_ := hV.bud
  refine ⟨by omega, by omega, ?_⟩
  intro o2 hn_o2 κ3 eκ3
  obtain ⟨W, x1_, hV, hs_o2, wn_o2, f1κ3⟩ := hV.mkA (M := []) (r := 30) (n := (12 : Int32).toInt.toNat) hn_o2 rfl rfl (Or.inr rfl) (by omega) (fun h => absurd h (by decide)) (by decide) (Or.inl rfl) (by omega) eκ3
  have hx2 := hx.tr x1_ hfr.sl
  have hfr := hfr.trW hx f1κ3 (by decide)
  have hp_h := (hp_h).fr f1κ3 x1_
  have hx := hx2
  have hV : CV G E W (c - 24) κ3 := hV.dn (by omega)
  refine ⟨(hp_h).2.1, ?_⟩
  intro κ4 eκ4
  have hV := hV.uP0 hp_h eκ4
  have hq_ := (hp_h).1
  have hp_h := (hp_h).uP (k := 4) (v := (some o2)) (D2 := [14]) (Or.inr (Or.inr (Or.inr ⟨o2, rfl, hs_o2⟩))) (by decide) eκ4
  have hfr := hfr.pP hp0_h eκ4
  have hbd_ := hV.bud
  refine ⟨by omega, by omega, ?_⟩
  intro o5 hn_o5 κ6 eκ6
  obtain ⟨W, x1_, hV, hs_o5, wn_o5, f1κ6⟩ := hV.mkA (M := []) (r := 20) (n := (0 : Int32).toInt.toNat) hn_o5 rfl rfl (Or.inl rfl) (by omega) (fun h => absurd h (by decide)) (by decide) (Or.inl rfl) (by omega) eκ6
  have hx2 := hx.tr x1_ hfr.sl
  have hfr := hfr.trW hx f1κ6 (by decide)
  have hp_h := (hp_h).fr f1κ6 x1_
  have wl_o2 := ((x1_).1 o2 (by rw [hs_o2]; decide)).2
  have hs_o2 := WLe.at (x1_).1 hs_o2 (by decide)
  have hx := hx2
  have hV : CV G E W (c - 36) κ6 := hV.dn (by omega)
  refine ⟨(hp_h).2.1, ?_⟩
  intro κ7 eκ7
  have hV := hV.uP0 hp_h eκ7
  have hq_ := (hp_h).1
  have hp_h := (hp_h).uP (k := 14) (v := (some o5)) (D2 := []) (Or.inr (Or.inr (Or.inr ⟨o5, rfl, hs_o5⟩))) (by decide) eκ7
  have hfr := hfr.pP hp0_h eκ7
  exact kk W κ7 hx (hV.dn (by omega)) hfr hp_h trivial
section R9W2
variable {G : GE} {E E' : CE} {W W' : CW} {κ κ' κ2 : CS} {q r n b h k t d : Nat} {c c' : Int} {D D2 : List Nat} {M : List (Nat × Nat)}
/-- a cell is made that isn't told of -/
theorem CV.newU (h : CV G E W c κ) (hq : q ∉ sL κ.1) (hk : d ≤ κ.2) (e : κ' = (h_uN κ.1 q t n, κ.2 - d)) : CV G E W (c - d) κ' := by
  subst e
  have f0 := h.1.fresh hq
  have hn' : ∀ x, x ≠ q → sI (h_uN κ.1 q t n) x = sI κ.1 x ∧ sP (h_uN κ.1 q t n) x = sP κ.1 x := fun x hx => ⟨va_up_ne _ _ hx, va_up_ne _ _ hx⟩
  have nw : ∀ x, W.1 x ≠ 0 → x ≠ q := fun x hx e => hx (by rw [e]; exact f0)
  have cc := h.2.2.2.2.1
  have eq2 : E.2.2 ≠ q := fun e => hq (by rw [← e]; exact h.2.2.2.2.2.1)
  refine ⟨h.1.uN hq, fun x hx y hy => ?_, fun x hx y hy => ?_, fun l r' hl g1 g2 => ?_, cc, List.mem_append_left _ h.2.2.2.2.2.1, ?_⟩
  · have ne := nw x (rw_ne hx)
    rw [(hn' x ne).2] at hy
    rw [(hn' x ne).1]
    exact h.2.1 x hx y hy
  · have ne := nw x (by rw [hx]; decide)
    rw [(hn' x ne).2] at hy
    rw [(hn' x ne).1]
    exact h.2.2.1 x hx y hy
  · have ne := nw l (by rw [hl]; omega)
    rw [(hn' l ne).1, (hn' l ne).2]
    obtain ⟨p1, p2⟩ := h.2.2.2.1 l r' hl g1 g2
    refine ⟨p1, fun y hy hw => ?_⟩
    obtain ⟨q1, q2, q3⟩ := p2 y hy hw
    have yn := nw y (by rw [hw]; omega)
    exact ⟨q1, q2, fun i hi => by rw [(hn' y yn).2]; exact q3 i hi⟩
  · have this := pot_up (κ' := (h_uN κ.1 q t n, κ.2 - d)) h WLe.rf (fun x hx => by show sP (h_uN κ.1 q t n) x 0 = _; rw [(hn' x (nw x (rw_ne (cc.2.2.2.2.2.1 x hx)))).2]) (fun x hx => by show sP (h_uN κ.1 q t n) x 13 = _; rw [(hn' x (nw x (by rw [cc.2.2.2.2.2.2 x hx]; decide))).2]) (by show sI (h_uN κ.1 q t n) E.2.2 2 = _; rw [(hn' _ eq2).1])
    have h8 := h.2.2.2.2.2.2
    show (pot E W (h_uN κ.1 q t n) : Int) + (c - d) ≤ ((κ.2 - d : Nat) : Int)
    have this : pot E W (h_uN κ.1 q t n) = pot E W κ.1 := this
    rw [this]
    omega
/-- what isn't told of may be put into -/
theorem CV.uP1 {v : Option Nat} (h : CV G E W c κ) (p : W.1 q = 0) (e : κ' = (h_uP κ.1 q k v, κ.2)) : CV G E W c κ' := h.uP p rfl (Or.inl (by decide)) (by decide) (by decide) (fun q => absurd rfl q) e
theorem PO.uD {v : Option Nat} (h : PO G E W κ q r D) (hk : k ∈ D) (e : κ' = (h_uP κ.1 q k v, κ.2)) : PO G E W κ' q r D := by
  subst e
  refine ⟨h.1, h.2.1, h.2.2.1, fun i => ⟨(h.2.2.2 i).1, fun hi => ?_⟩⟩
  show RV G W (u2 (sP κ.1) q k v q i) _
  by_cases d : i = k
  · exact absurd (by rw [d]; exact hk) hi
  · rw [u2_pl d]
    exact (h.2.2.2 i).2 hi
theorem HO.fr (p : HO G W κ q r D) (f : CF M W κ κ') (x : WX W W' κ) : HO G W' κ' q r D := PO.fr p f x
theorem HO.uP {v : Option Nat} (h : HO G W κ q r D) (hv : RV G W v (tgC r k)) (hD : ∀ x ∈ D, x = k ∨ x ∈ D2) (e : κ' = (h_uP κ.1 q k v, κ.2)) : HO G W κ' q r D2 := PO.uP h hv hD e
theorem HO.uD {v : Option Nat} (h : HO G W κ q r D) (hk : k ∈ D) (e : κ' = (h_uP κ.1 q k v, κ.2)) : HO G W κ' q r D := PO.uD h hk e
theorem HO.put {v : Option Nat} {a : Nat} (p : HO G W κ q r D) (hne : q ≠ a) (e : κ' = (h_uP κ.1 a k v, κ.2)) : HO G W κ' q r D := by
  subst e
  refine ⟨p.1, p.2.1, p.2.2.1, fun i => ⟨(p.2.2.2 i).1, fun hi => ?_⟩⟩
  show RV G W (u2 (sP κ.1) a k v q i) _
  rw [u2_addr hne]
  exact (p.2.2.2 i).2 hi
theorem HO.up (p : HO G W κ q r D) (hl : WLe W W') (hq : W'.1 q = 0) : HO G W' κ q r D := ⟨hq, p.2.1, p.2.2.1, fun i => ⟨(p.2.2.2 i).1, fun hi => ((p.2.2.2 i).2 hi).up hl⟩⟩
theorem HO.fin (p : HO G W κ q r D) (hD : ∀ x ∈ D, RV G W (sP κ.1 q x) (tgC r x)) : HO G W κ q r [] := ⟨p.1, p.2.1, p.2.2.1, fun i => ⟨(p.2.2.2 i).1, fun _ => by
  by_cases c : i ∈ D
  · exact hD i c
  · exact (p.2.2.2 i).2 c⟩⟩
theorem CFx.nw {v : Option Nat} {a : Nat} (g : CFx M W q κ κ') (ho : a ∉ sL κ.1) (w : W.1 a = 0) (e : κ2 = (h_uP κ'.1 a k v, κ'.2)) : CFx M W q κ κ2 := by
  subst e
  refine ⟨fun x hx i hi => ?_, fun x hx => ⟨(g.2 x hx).1, fun n0 e i => ?_⟩⟩
  · have ne : x ≠ a := fun e => hx (by rw [e]; exact w)
    have := g.1 x hx i hi
    refine ⟨this.1, this.2.1, ?_⟩
    show u2 (sP κ'.1) a k v x i = _
    rw [u2_addr ne]
    exact this.2.2
  · have ne : x ≠ a := fun e => ho (by rw [← e]; exact hx)
    have := (g.2 x hx).2 n0 e i
    refine ⟨this.1, this.2.1, ?_⟩
    show u2 (sP κ'.1) a k v x i = _
    rw [u2_addr ne]
    exact this.2.2
/-- a Node's own -/
theorem i_X4 (hV : CV G E W c κ) (h : Nat) (hp : PO G E W κ h 5 [5, 13]) (hz : (sI κ.1 h 12).toInt = 0) (hc : 36 ≤ c) (a1 : Int32) {post : CS → Prop} (kk : ∀ (b : Nat) (W' : CW) (κ' : CS), WX W W' κ → CV G E W' (c - 36) κ' → CFx [] W h κ κ' → PO G E W' κ' h 5 [] → sP κ'.1 h 13 = some b → W'.1 b = 20 → W'.2 b = 0 → (sI κ'.1 h 12).toInt = 0 → NWR [20, 30] W W' → post κ') : F_X4_init G h a1 post κ := by
  unfold F_X4_init
  refine ⟨hp.2.1, fun κ2 e2 => ?_⟩
  have hV2 := hV.uI0 hp e2
  have hp2 := hp.uI (k := 4) (v := -1) (by decide) e2
  have b2 := hV2.bud
  refine ⟨by decide, by show 12 + 12 ≤ _; omega, fun o3 ho3 κ4 e4 => ?_⟩
  obtain ⟨g4, x4⟩ := hV2.newA (r := 30) (n := 12) ho3 (fun h => absurd h (by decide)) rfl rfl (Or.inr rfl) (by decide) (by decide) (Or.inl rfl) (by omega) e4
  have f4 : CF [] W κ2 κ4 := CF.rf.uN hV2.1 ho3 e4
  have hp4 := hp2.fr f4 x4
  refine ⟨hp4.2.1, fun κ5 e5 => ?_⟩
  have hV5 := g4.uP0 hp4 e5
  have hp5 := hp4.uP (k := 5) (v := some o3) (D2 := [13]) (Or.inr (Or.inr (Or.inr ⟨o3, rfl, upW_at⟩))) (by decide) e5
  have b5 := hV5.bud
  refine ⟨by decide, by show 0 + 12 ≤ _; omega, fun o6 ho6 κ7 e7 => ?_⟩
  obtain ⟨g7, x7⟩ := hV5.newA (r := 20) (n := 0) ho6 (fun h => absurd h (by decide)) rfl rfl (Or.inl rfl) (by decide) (by decide) (Or.inl rfl) (by omega) e7
  have f7 : CF [] (upW W o3 30 12) κ5 κ7 := CF.rf.uN hV5.1 ho6 e7
  have hp7 := hp5.fr f7 x7
  refine ⟨hp7.2.1, fun κ8 e8 => ?_⟩
  have hV8 := g7.uP0 hp7 e8
  have hp8 := hp7.uP (k := 13) (v := some o6) (D2 := []) (Or.inr (Or.inr (Or.inr ⟨o6, rfl, upW_at⟩))) (by decide) e8
  refine ⟨hp8.2.1, fun κ9 e9 => ?_⟩
  have hV9 := hV8.uI0 hp8 e9
  have hp9 := hp8.uI (k := 0) (v := a1) (i_range a1) e9
  have c2 : CFx [] W h κ κ2 := CFx.rf.pI hp.1 e2
  have c5 := (c2.trW WX.rf f4 (fun y hy => hy)).pP hp.1 e5
  have x1 : WX W (upW W o3 30 12) κ := ⟨x4.1, fun a ha e => x4.2 a (c2.sl a ha) e⟩
  have c9 := (((c5.trW x1 f7 (fun y hy => hy)).pP hp.1 e8)).pI hp.1 e9
  have x9 : WX W (upW (upW W o3 30 12) o6 20 0) κ := x1.tr x7 c5.sl
  have n3 : h ≠ o3 := fun e => ho3 (by rw [← e]; exact hp2.2.1.1)
  have n6 : h ≠ o6 := fun e => ho6 (by rw [← e]; exact hp5.2.1.1)
  have z9 : (sI κ9.1 h 12).toInt = 0 := by
    rw [e9]
    show (u2 (sI κ8.1) h 0 a1 h 12).toInt = 0
    rw [u2_pl (by decide), e8]
    show (sI κ7.1 h 12).toInt = 0
    rw [e7]
    show (va_up (sI κ5.1) o6 (fun _ => 0) h 12).toInt = 0
    rw [va_up_ne _ _ n6, e5]
    show (sI κ4.1 h 12).toInt = 0
    rw [e4]
    show (va_up (sI κ2.1) o3 (fun _ => 0) h 12).toInt = 0
    rw [va_up_ne _ _ n3, e2]
    show (u2 (sI κ.1) h 4 (-1) h 12).toInt = 0
    rw [u2_pl (by decide)]
    exact hz
  have s9 : sP κ9.1 h 13 = some o6 := by
    rw [e9]
    show sP κ8.1 h 13 = some o6
    rw [e8]
    exact u2_same
  exact kk o6 _ κ9 x9 (hV9.dn (by omega)) c9 hp9 s9 upW_at upW_ln z9 ((NWR.one (by simp)).tr (NWR.one (by simp)))
/-- a Volume's own -/
theorem i_X9 (hV : CV G E W c κ) (h : Nat) (hp : PO G E W κ h 6 [0]) (hc : 828092 ≤ c) {post : CS → Prop} (kk : ∀ (E' : CE) (W' : CW) (κ' : CS), E'.2.2 = E.2.2 → WX W W' κ → CV G E' W' (c - 828092) κ' → CFx [] W h κ κ' → HO G W' κ' h 6 [] → NWR [5, 20, 26, 30] W W' → post κ') : F_X9_init G h post κ := by
  unfold F_X9_init
  have b0 := hV.bud
  have k80 : (80 : Int32).toInt = 80 := rfl
  have k1 : (1 : Int32).toInt = 1 := rfl
  have k0 : (0 : Int32).toInt = 0 := rfl
  refine ⟨by decide, by show 80 + 12 ≤ _; omega, fun o2 ho2 κ3 e3 => ?_⟩
  have hV3 := hV.newU ho2 (by show 80 + 12 ≤ _; omega) e3
  have f3 : CF [] W κ κ3 := CF.rf.uN hV.1 ho2 e3
  have hp3 := hp.fr f3 WX.rf
  have w2 := hV.1.fresh ho2
  have ne2 : o2 ≠ E.2.2 := fun e => ho2 (by rw [e]; exact hV.2.2.2.2.2.1)
  have hne : h ≠ o2 := fun e => ho2 (by rw [← e]; exact hp.2.1.1)
  have pa3 : PA W κ3 o2 26 80 0 5 := by
    rw [e3]
    exact ⟨w2, ⟨List.mem_append_right _ (List.mem_singleton.mpr rfl), va_up_self _ _ _⟩, va_up_self _ _ _, fun k hk => by omega⟩
  refine ⟨hp3.2.1, fun κ4 e4 => ?_⟩
  have hV4 := hV3.uP0 hp3 e4
  have ho4 : HO G W κ4 h 6 [0] := HO.uD hp3.ho (by decide) e4
  have s4 : sP κ4.1 h 0 = some o2 := by
    rw [e4]
    exact u2_same
  have pa4 : PA W κ4 o2 26 80 0 5 := by
    rw [e4]
    exact ⟨w2, pa3.2.1, pa3.2.2.1, fun k hk => by omega⟩
  have c4 : CFx [] W h κ κ4 := (CFx.rf.trW WX.rf f3 (fun y hy => hy)).pP hp.1 e4
  refine lc_in (fun (x : Int32) (κ' : CS) => ∃ (E' : CE) (W' : CW), E'.2.2 = E.2.2 ∧ WX W W' κ ∧ CV G E' W' (c - 92 - 10350 * x.toInt) κ' ∧ CFx [] W h κ κ' ∧ HO G W' κ' h 6 [0] ∧ NWR [5, 20, 26, 30] W W' ∧ (0 ≤ x.toInt ∧ x.toInt ≤ 80) ∧ sP κ'.1 h 0 = some o2 ∧ PA W' κ' o2 26 80 x.toInt.toNat 5) (fun (x : Int32) (_ : CS) => (80 - x.toInt).toNat) ⟨E, W, rfl, WX.rf, hV4.dn (by rw [k0]; show c - 92 - 10350 * 0 ≤ c - ((80 + 12 : Nat) : Int); omega), c4, ho4, NWR.rf, by rw [k0]; omega, s4, pa4⟩ (fun x5 κ6 hJ K7 hK7 => ?_)
  obtain ⟨E1, W1, eE, x1, hV6, c6, ho6, nw6, hx, s6, pa6⟩ := hJ
  refine ⟨ho6.2.1, fun z9 ez9 => ⟨80, Or.inl ⟨o2, ez9.trans s6, ⟨pa6.2.1.1, by rw [pa6.2.1.2]; decide⟩, pa6.2.2.1.symm⟩, fun z10 ez10 => ?_⟩⟩
  have hz10 := nI_ln ez10 (by decide)
  refine ⟨fun c1 => ?_, fun c1 => ⟨ho6.2.1, fun z11 ez11 => ?_⟩⟩
  · have e80 : x5.toInt.toNat = 80 := by omega
    rw [e80] at pa6
    have hVA := hV6.addA pa6 (Or.inr (Or.inr ⟨rfl, rfl, rfl⟩)) (by rw [eE]; exact ne2)
    have le := upW_le (W := W1) (r := 26) (n := 80) pa6.1
    have hoA : HO G (upW W1 o2 26 80) κ6 h 6 [] := (ho6.up le (by show (if h = o2 then 26 else W1.1 h) = 0; rw [if_neg hne]; exact ho6.1)).fin (fun x hx => by
      have : x = 0 := by simpa using hx
      rw [this, s6]
      exact Or.inr (Or.inr (Or.inr ⟨o2, rfl, upW_at⟩)))
    exact kk E1 _ κ6 eE (x1.add ho2 ⟨le, fun a ha => if_neg ha⟩) (hVA.dn (by omega)) c6 hoA (nw6.tr (NWR.one (by simp)))
  · have b6 := hV6.bud
    refine ⟨by omega, fun o12 ho12 κ13 e13 => ?_⟩
    have hV13 := hV6.newO ho12 (by omega) e13
    have f13 : CF [] W1 κ6 κ13 := CF.rf.uN hV6.1 ho12 e13
    have p13 : PO G E1 W1 κ13 o12 5 [5, 13] := PO.new hV6 ho12 e13 rfl (by decide)
    have z13 : (sI κ13.1 o12 12).toInt = 0 := by
      rw [e13]
      show (va_up (sI κ6.1) o12 (fun _ => 0) o12 12).toInt = 0
      rw [va_up_self]
      rfl
    refine i_X4 hV13 o12 p13 z13 (by omega) x5 (fun b W2 κ14 x2 hV14 c14 p14 s14 wb nb z14 nw14 => ?_)
    have hV15 := hV14.addN p14 s14 wb nb z14
    have le15 := upW_le (W := W2) (r := 5) (n := 0) p14.1
    have F : CF [] W1 κ6 κ14 := CF.trX f13 WX.rf ho12 p13.1 c14 (fun y hy => hy)
    have x14 : WX W1 (upW W2 o12 5 0) κ6 := WX.add ⟨x2.1, fun a ha e => x2.2 a (f13.sl a ha) e⟩ ho12 ⟨le15, fun a ha => if_neg ha⟩
    have pa14 := pa6.fr F x14 (by decide)
    have ho14 := ho6.fr F x14
    have s14h : sP κ14.1 h 0 = some o2 := ((F.2 h ho6.2.1.1).2 ho6.1 0).2.2.trans s6
    have m12 : o12 ∈ sL κ14.1 ∧ sK κ14.1 o12 = 5 := p14.2.1
    refine ⟨o2, ez11.trans s6, ⟨pa14.2.1.1, by rw [pa14.2.1.2]; decide⟩, by rw [pa14.2.2.1]; omega, Or.inr ⟨o12, rfl, m12.1, by rw [pa14.2.1.2, m12.2]; rfl⟩, fun κ16 e16 z17 ez17 => ?_⟩
    have hz17 := i_add ez17 (by omega) (by omega)
    have hV16 := hV15.uP1 pa14.1 e16
    have pa16 := pa14.st (b := o12) upW_at e16
    have ho16 := ho14.put hne e16
    have e17 : x5.toInt.toNat + 1 = z17.toInt.toNat := by omega
    rw [e17] at pa16
    have c16 := (c6.trW x1 F (fun y hy => hy)).nw ho2 w2 e16
    refine hK7 z17 κ16 ⟨_, _, ?_, x1.tr x14 c6.sl, hV16.dn (by omega), c16, ho16, nw6.tr ((nw14.up (by decide)).tr (NWR.one (by simp))), by omega, ?_, pa16⟩ (by (try dsimp only); omega)
    · exact eE
    · rw [e16]
      show u2 (sP κ14.1) o2 x5.toInt.toNat (some o12) h 0 = some o2
      rw [u2_addr hne]
      exact s14h
/-- a Conn's own -/
theorem i_X2 (hV : CV G E W c κ) (h : Nat) (hp : PO G E W κ h 3 [2, 4, 5]) (hz : ZL W κ) (hc : 120040 ≤ c) {post : CS → Prop} (kk : ∀ (E' : CE) (W' : CW) (κ' : CS), E'.2.2 = E.2.2 → WX W W' κ → CV G E' W' (c - 120040) κ' → CFx [] W h κ κ' → HO G W' κ' h 3 [] → ZL W' κ' → post κ') : F_X2_init G h post κ := by
  unfold F_X2_init
  have b0 := hV.bud
  refine i_row (r := 64) hV rfl (by show ((90 + 3 * (8072 - 64) : Nat) : Int) ≤ c; omega) (fun o2 E1 W1 κ4 ho2 eE1 x1 hV4 f4 w2 z4 nw4 => ?_)
  have ho4 := hp.ho.fr f4 x1
  refine ⟨ho4.2.1, fun κ6 e6 => ?_⟩
  have hV6 := hV4.uP1 ho4.1 e6
  have ho6 := ho4.uP (k := 2) (v := some o2) (D2 := [4, 5]) (Or.inr (Or.inr (Or.inr ⟨o2, rfl, w2⟩))) (by decide) e6
  have zl6 : ZL W1 κ6 := by
    rw [e6]
    exact z4 hz
  have c6 : CFx [] W h κ κ6 := (CFx.rf.trW WX.rf f4 (fun y hy => hy)).pP hp.1 e6
  refine i_row (r := 63) hV6 rfl (by show ((90 + 3 * (32000 - 64) : Nat) : Int) ≤ c - ((90 + 3 * (8072 - 64) : Nat) : Int); omega) (fun o7 E2 W2 κ9 ho7 eE2 x2 hV9 f9 w7 z9 nw9 => ?_)
  have ho9 := ho6.fr f9 x2
  refine ⟨ho9.2.1, fun κ11 e11 => ?_⟩
  have hV11 := hV9.uP1 ho9.1 e11
  have ho11 := ho9.uP (k := 4) (v := some o7) (D2 := [5]) (Or.inr (Or.inr (Or.inr ⟨o7, rfl, w7⟩))) (by decide) e11
  have zl11 : ZL W2 κ11 := by
    rw [e11]
    exact z9 zl6
  have c11 := (c6.trW x1 f9 (fun y hy => hy)).pP hp.1 e11
  have x12 : WX W W2 κ := x1.tr x2 c6.sl
  have hV11' : CV G E2 W2 (c - 120012) κ11 := hV11.dn (by show c - 120012 ≤ c - ((90 + 3 * (8072 - 64) : Nat) : Int) - ((90 + 3 * (32000 - 64) : Nat) : Int); omega)
  have b11 := hV11'.bud
  refine ⟨by decide, by show 16 + 12 ≤ _; omega, fun o12 ho12 κ13 e13 => ?_⟩
  obtain ⟨g13, x13⟩ := hV11'.newA (r := 32) (n := 16) ho12 (fun h => absurd h (by decide)) rfl rfl (Or.inr rfl) (by decide) (by decide) (Or.inl rfl) (by omega) e13
  have f13 : CF [] W2 κ11 κ13 := CF.rf.uN hV11.1 ho12 e13
  have ho13 := ho11.fr f13 x13
  refine ⟨ho13.2.1, fun κ14 e14 => ?_⟩
  have hV14 := g13.uP1 ho13.1 e14
  have ho14 := ho13.uP (k := 5) (v := some o12) (D2 := []) (Or.inr (Or.inr (Or.inr ⟨o12, rfl, upW_at⟩))) (by decide) e14
  have zl13 : ZL (upW W2 o12 32 16) κ13 := zl11.nr f13 x13 (NWR.one (R := [32]) (by simp)) (by decide)
  have zl14 : ZL (upW W2 o12 32 16) κ14 := by
    rw [e14]
    exact zl13
  have c14 := (c11.trW x12 f13 (fun y hy => hy)).pP hp.1 e14
  exact kk E2 _ κ14 (eE2.trans eE1) (x12.tr x13 c11.sl) (hV14.dn (by omega)) c14 ho14 zl14
end R9W2

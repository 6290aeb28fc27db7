/-! the class: small things that are made -/
theorem l_shl8 {x z : Int64} (h : z = x <<< ((8 : Int32).toInt64 &&& 63)) (hx : 0 ≤ x.toInt ∧ x.toInt ≤ 16777215) : z.toInt = 256 * x.toInt := by
  obtain ⟨n, hn, rfl⟩ := l_of hx.1
  rw [lN_small hn] at hx ⊢
  have e : lN n <<< ((nI 8).toInt64 &&& 63) = lN (n * 2 ^ 8) := wb_shl n (by decide)
  have h : z = lN (n * 2 ^ 8) := h.trans e
  rw [h, lN_small (by omega)]
  omega
theorem l_or8 {x y z : Int64} (h : z = x ||| y) (hx : 0 ≤ x.toInt ∧ x.toInt ≤ 4294967295 ∧ x.toInt % 256 = 0) (hy : 0 ≤ y.toInt ∧ y.toInt ≤ 255) : z.toInt = x.toInt + y.toInt := by
  obtain ⟨n, hn, rfl⟩ := l_of hx.1
  obtain ⟨m, hm, rfl⟩ := l_of hy.1
  rw [lN_small hn] at hx ⊢
  rw [lN_small hm] at hy ⊢
  have e0 : n = n / 256 * 256 := by omega
  have e := g_or (k := 8) (p := 256) (a := m) (b := n / 256) rfl (by omega) (by omega)
  rw [← e0] at e
  rw [h, e, lN_small (by omega)]
  omega
set_option maxRecDepth 100000 in
set_option maxHeartbeats 4000000 in
theorem t2_X6_number {G : GE} {E : CE} {W : CW} {c : Int} {κ : CS} (hV : CV G E W c κ) (h : Nat) {rr : Nat} (hs_h : W.1 h = rr) (hrr : isRw rr = true) (a1 : Int32) (a2 : Int32) (hz : 1 ≤ a2.toInt ∧ a2.toInt ≤ 4) {post : Int64 → CS → Prop} (kk : ∀ r : Int64, ((0 ≤ r.toInt ∧ r.toInt ≤ 4294967295) ∧ (a2.toInt ≤ 2 → r.toInt ≤ 65535) ∧ (a2.toInt ≤ 1 → r.toInt ≤ 255)) → post r κ) : F_X6_number G h a1 a2 post κ := by
  unfold F_X6_number
  have k_m1 : ((-1) : Int32).toInt = (-1) := rfl
  have k_0 : (0 : Int32).toInt = 0 := rfl
  have k_1 : (1 : Int32).toInt = 1 := rfl
  have k_8 : (8 : Int32).toInt = 8 := rfl
  have k_255 : (255 : Int32).toInt = 255 := rfl
  have kl_m1 : ((-1) : Int64).toInt = (-1) := rfl
  have kl_0 : (0 : Int64).toInt = 0 := rfl
  have kl_1 : (1 : Int64).toInt = 1 := rfl
  have kl_8 : (8 : Int64).toInt = 8 := rfl
  have kl_255 : (255 : Int64).toInt = 255 := rfl
  have rg_a1 := i_range a1
  have rg_a2 := i_range a2
  intro z1 ez1
  try have hz1 := i_sub ez1 (by omega) (by omega)
  have rg_z1 := i_range z1
  refine lc_in (fun (x : Int32 × Int64) (κ' : CS) => κ = κ' ∧ (((-1 ≤ x.1.toInt) ∧ (x.1.toInt < a2.toInt) ∧ (0 ≤ x.2.toInt) ∧ (a2.toInt - 1 - x.1.toInt ≤ 0 → x.2.toInt ≤ 0) ∧ (a2.toInt - 1 - x.1.toInt ≤ 1 → x.2.toInt ≤ 255) ∧ (a2.toInt - 1 - x.1.toInt ≤ 2 → x.2.toInt ≤ 65535) ∧ (a2.toInt - 1 - x.1.toInt ≤ 3 → x.2.toInt ≤ 16777215) ∧ (a2.toInt - 1 - x.1.toInt ≤ 4 → x.2.toInt ≤ 4294967295)))) (fun (x : Int32 × Int64) (_ : CS) => (x.1.toInt + 2147483648).toNat) ⟨rfl, (by (try dsimp only); omega)⟩ (fun x2 κ3 hJ K4 hK4 => ?_)
  obtain ⟨hsg, hv⟩ := hJ
  subst hsg
  (try dsimp only at hv)
  have rg_x2_1 := i_range x2.1
  have rg_x2_2 := l_range x2.2
  refine ⟨fun c1 => ?_, fun c1 => ?_⟩
  · exact kk x2.2 ⟨by omega, fun _ => by omega, fun _ => by omega⟩
  · intro z6 ez6
    try have hz6 := i_add ez6 (by omega) (by omega)
    have rg_z6 := i_range z6
    intro z7 ez7
    have rg_z7 := l_range z7
    have hz7 := l_shl8 ez7 (by omega)
    refine jc_dup ?_
    refine ⟨fun c2 => ?_, fun c2 => ?_⟩
    · (try dsimp only)
      intro z13 ez13
      try have hz13 := i_add ez13 (by omega) (by omega)
      have rg_z13 := i_range z13
      exact hK4 (z13, z7) κ ⟨rfl, (by (try dsimp only); omega)⟩ (by (try dsimp only); omega)
    · refine ⟨(hV.mm hs_h (rw_ne hrr) (rw_k hrr)), ?_⟩
      intro z14 ez14
      have vz14 := hV.rwI hs_h hrr ez14
      have wz14 : z14.toInt = (sI κ.1 h 1).toInt := by rw [ez14]
      refine ⟨fun c3 => ?_, fun c3 => ?_⟩
      · (try dsimp only)
        intro z13 ez13
        try have hz13 := i_add ez13 (by omega) (by omega)
        have rg_z13 := i_range z13
        exact hK4 (z13, z7) κ ⟨rfl, (by (try dsimp only); omega)⟩ (by (try dsimp only); omega)
      · refine ⟨(hV.mm hs_h (rw_ne hrr) (rw_k hrr)), ?_⟩
        intro z15 ez15
        obtain ⟨bz15, ebz15, hsz15⟩ := hV.1.nn hs_h (rw_ne hrr) (rw_ob hrr) 0 (rw_t hrr) (by decide)
        rw [← ez15] at ebz15
        refine ⟨(W.2 bz15), (AL.of hV ebz15 hsz15 (by decide) rfl (by decide)), ?_⟩
        intro z16 ez16
        have lnz16 := nI_ln ez16 (hV.lm hsz15 (by decide) rfl)
        have lmz16 := (hV.lm hsz15 (by decide) rfl)
        refine ⟨fun c4 => ?_, fun c4 => ?_⟩
        · (try dsimp only)
          intro z13 ez13
          try have hz13 := i_add ez13 (by omega) (by omega)
          have rg_z13 := i_range z13
          exact hK4 (z13, z7) κ ⟨rfl, (by (try dsimp only); omega)⟩ (by (try dsimp only); omega)
        · refine ⟨(hV.mm hs_h (rw_ne hrr) (rw_k hrr)), ?_⟩
          intro z17 ez17
          have ebz17 : z17 = some bz15 := (ez17.trans ez15.symm).trans ebz15
          refine ⟨(sI κ.1 bz15), (W.2 bz15), (BA.of hV ebz17 hsz15 (by decide) rfl rfl), (by omega), ?_⟩
          intro z18 ez18
          have vz18 : -128 ≤ z18.toInt ∧ z18.toInt ≤ 127 := by rw [ez18]; exact (fun i hi => (hV.1.el hsz15 (by decide) rfl i hi).1) _ (by omega)
          intro z19 ez19
          try have hz19 := i_and ez19 (by omega)
          have rg_z19 := i_range z19
          intro z20 ez20
          have hz20 := i_tol ez20
          have rg_z20 := l_range z20
          intro z21 ez21
          have rg_z21 := l_range z21
          have hz21 := l_or8 ez21 (by omega) (by omega)
          (try dsimp only)
          intro z13 ez13
          try have hz13 := i_add ez13 (by omega) (by omega)
          have rg_z13 := i_range z13
          exact hK4 (z13, z21) κ ⟨rfl, (by (try dsimp only); omega)⟩ (by (try dsimp only); omega)
set_option maxRecDepth 100000 in
set_option maxHeartbeats 4000000 in
theorem t2_X0_number {G : GE} {E : CE} {W : CW} {c : Int} {κ : CS} (hV : CV G E W c κ) (h : Nat) (hs_h : W.1 h = 8) (a1 : Int32) (a2 : Int32) (hz : 1 ≤ a2.toInt ∧ a2.toInt ≤ 4) {post : Int64 → CS → Prop} (kk : ∀ r : Int64, ((0 ≤ r.toInt ∧ r.toInt ≤ 4294967295) ∧ (a2.toInt ≤ 2 → r.toInt ≤ 65535) ∧ (a2.toInt ≤ 1 → r.toInt ≤ 255)) → post r κ) : F_X0_number G h a1 a2 post κ := by
  unfold F_X0_number
  have k_0 : (0 : Int32).toInt = 0 := rfl
  have rg_a1 := i_range a1
  have rg_a2 := i_range a2
  refine ⟨(hV.mm hs_h (by decide) rfl), ?_⟩
  intro z1 ez1
  obtain ⟨bz1, ebz1, hsz1⟩ := hV.1.nn hs_h (by decide) rfl 0 rfl (by decide)
  rw [← ez1] at ebz1
  refine ⟨bz1, ebz1, (hV.mm hsz1 (by decide) rfl), ?_⟩
  intro z2 ez2
  obtain ⟨bz2, ebz2, hsz2⟩ := hV.1.nn hsz1 (by decide) rfl 2 rfl (by decide)
  rw [← ez2] at ebz2
  refine ⟨(hV.mm hs_h (by decide) rfl), ?_⟩
  intro z3 ez3
  have vz3 := hV.1.iv hs_h (by decide) rfl 1 (-2147483648) 2147483647 rfl ez3
  have wz3 : z3.toInt = (sI κ.1 h 1).toInt := by rw [ez3]
  intro z4 ez4
  try have hz4 := i_add ez4 (by omega) (by omega)
  have rg_z4 := i_range z4
  refine ⟨bz2, ebz2, (hV.mm hsz2 (by decide) rfl), ?_⟩
  refine t2_X6_number hV bz2 hsz2 (by rfl) z4 a2 hz (fun z6 pz6 => ?_)
  have rg_z6 := l_range z6
  exact kk z6 pz6
set_option maxRecDepth 100000 in
set_option maxHeartbeats 4000000 in
theorem t_X3_init {G : GE} {E : CE} {W0 : CW} {c : Int} {κ : CS} (hV : CV G E W0 c κ) (h : Nat) (hp_h : PO G E W0 κ h 9 [0]) (a1 : Option Nat) (b_a1 : Nat) (e_a1 : a1 = some b_a1) (hs_a1 : W0.1 b_a1 = 10) (a2 : Int64) (a4 : Int64) (a6 : Int32) (hz : 0 ≤ a6.toInt ∧ a6.toInt ≤ 1) (hc : 0 ≤ c) {post : CS → Prop} (kk : ∀ (W' : CW) (κ' : CS), WX W0 W' κ → CV G E W' (c - 0) κ' → CFx [] W0 h κ κ' → PO G E W' κ' h 9 [] → (True) → post κ') : F_X3_init G h a1 a2 a4 a6 post κ := by
  have hp0_h := hp_h
  have hs0_a1 := hs_a1
  have hp0_h := hp_h.1
  suffices H_ : ∀ W : CW, WX W0 W κ → CV G E W (c - 0) κ → (PO G E W κ h 9 [0]) → (W.1 b_a1 = 10) → F_X3_init G h a1 a2 a4 a6 post κ from H_ W0 WX.rf (hV.dn (by omega)) hp_h hs_a1
  intro W hx hV hp_h hs_a1
  unfold F_X3_init
  have hfr : CFx [] W0 h κ κ := CFx.rf
  have k_0 : (0 : Int32).toInt = 0 := rfl
  have rg_a2 := l_range a2
  have rg_a4 := l_range a4
  have rg_a6 := i_range a6
  refine ⟨(hp_h).2.1, ?_⟩
  intro κ2 eκ2
  have hV := hV.uP0 hp_h eκ2
  have hq_ := (hp_h).1
  have hp_h := (hp_h).uP (k := 0) (v := a1) (D2 := []) (Or.inr (Or.inr (Or.inr ⟨b_a1, e_a1, hs_a1⟩))) (by decide) eκ2
  have hfr := hfr.pP hp0_h eκ2
  refine ⟨(hp_h).2.1, ?_⟩
  intro κ3 eκ3
  have hV := hV.uJ eκ3
  have hq_ := (hp_h).1
  have hp_h := (hp_h).uJ eκ3
  have hfr := hfr.pJ hp0_h eκ3
  have uκ3 : (sJ κ3.1 h 1).toInt = (a2 : Int64).toInt := by rw [eκ3]; exact congrArg Int64.toInt u2_same
  refine ⟨(hp_h).2.1, ?_⟩
  intro κ4 eκ4
  have hV := hV.uJ eκ4
  have hq_ := (hp_h).1
  have hp_h := (hp_h).uJ eκ4
  have hfr := hfr.pJ hp0_h eκ4
  have uκ4 : (sJ κ4.1 h 2).toInt = (a4 : Int64).toInt := by rw [eκ4]; exact congrArg Int64.toInt u2_same
  refine ⟨by omega, (hp_h).2.1, ?_⟩
  intro κ5 eκ5
  have rv_κ5 := i_range a6
  have hV := hV.uI0 hp_h eκ5
  have hq_ := (hp_h).1
  have hp_h := (hp_h).uI (k := 3) (v := a6) (by show (0 : Int) ≤ (a6 : Int32).toInt ∧ (a6 : Int32).toInt ≤ 1; omega) eκ5
  have uκ5 : (sI κ5.1 h 3).toInt = (a6 : Int32).toInt := by rw [eκ5]; exact congrArg Int32.toInt u2_same
  have hfr := hfr.pI hp0_h eκ5
  exact kk W κ5 hx (hV.dn (by omega)) hfr hp_h trivial
set_option maxRecDepth 100000 in
set_option maxHeartbeats 4000000 in
theorem t_X8_init {G : GE} {E : CE} {W0 : CW} {c : Int} {κ : CS} (hV : CV G E W0 c κ) (h : Nat) (hp_h : PO G E W0 κ h 12 [1, 2]) (a1 : Int64) (a3 : Option Nat) (b_a3 : Nat) (e_a3 : a3 = some b_a3) (hs_a3 : W0.1 b_a3 = 11) (a4 : Option Nat) (b_a4 : Nat) (e_a4 : a4 = some b_a4) (hs_a4 : W0.1 b_a4 = 5)  (hc : 0 ≤ c) {post : CS → Prop} (kk : ∀ (W' : CW) (κ' : CS), WX W0 W' κ → CV G E W' (c - 0) κ' → CFx [] W0 h κ κ' → PO G E W' κ' h 12 [] → (True) → post κ') : F_X8_init G h a1 a3 a4 post κ := by
  have hp0_h := hp_h
  have hs0_a3 := hs_a3
  have hs0_a4 := hs_a4
  have hp0_h := hp_h.1
  suffices H_ : ∀ W : CW, WX W0 W κ → CV G E W (c - 0) κ → (PO G E W κ h 12 [1, 2]) → (W.1 b_a3 = 11) → (W.1 b_a4 = 5) → F_X8_init G h a1 a3 a4 post κ from H_ W0 WX.rf (hV.dn (by omega)) hp_h hs_a3 hs_a4
  intro W hx hV hp_h hs_a3 hs_a4
  unfold F_X8_init
  have hfr : CFx [] W0 h κ κ := CFx.rf
  have k_0 : (0 : Int32).toInt = 0 := rfl
  have rg_a1 := l_range a1
  refine ⟨(hp_h).2.1, ?_⟩
  intro κ2 eκ2
  have hV := hV.uJ eκ2
  have hq_ := (hp_h).1
  have hp_h := (hp_h).uJ eκ2
  have hfr := hfr.pJ hp0_h eκ2
  have uκ2 : (sJ κ2.1 h 0).toInt = (a1 : Int64).toInt := by rw [eκ2]; exact congrArg Int64.toInt u2_same
  refine ⟨(hp_h).2.1, ?_⟩
  intro κ3 eκ3
  have hV := hV.uP0 hp_h eκ3
  have hq_ := (hp_h).1
  have hp_h := (hp_h).uP (k := 1) (v := a3) (D2 := [2]) (Or.inr (Or.inr (Or.inr ⟨b_a3, e_a3, hs_a3⟩))) (by decide) eκ3
  have hfr := hfr.pP hp0_h eκ3
  refine ⟨(hp_h).2.1, ?_⟩
  intro κ4 eκ4
  have hV := hV.uP0 hp_h eκ4
  have hq_ := (hp_h).1
  have hp_h := (hp_h).uP (k := 2) (v := a4) (D2 := []) (Or.inr (Or.inr (Or.inr ⟨b_a4, e_a4, hs_a4⟩))) (by decide) eκ4
  have hfr := hfr.pP hp0_h eκ4
  exact kk W κ4 hx (hV.dn (by omega)) hfr hp_h trivial
set_option maxRecDepth 100000 in
set_option maxHeartbeats 4000000 in
theorem t_X5_init {G : GE} {E : CE} {W0 : CW} {c : Int} {κ : CS} (hV : CV G E W0 c κ) (h : Nat) (hp_h : PO G E W0 κ h 10 [1, 2, 13]) (a1 : Int64) (a3 : Option Nat) (b_a3 : Nat) (e_a3 : a3 = some b_a3) (hs_a3 : W0.1 b_a3 = 12) (a4 : Option Nat) (b_a4 : Nat) (e_a4 : a4 = some b_a4) (hs_a4 : W0.1 b_a4 = 5)  (hc : 24 ≤ c) {post : CS → Prop} (kk : ∀ (W' : CW) (κ' : CS), WX W0 W' κ → CV G E W' (c - 24) κ' → CFx [] W0 h κ κ' → PO G E W' κ' h 10 [] → (True) → post κ') : F_X5_init G h a1 a3 a4 post κ := by
  have hp0_h := hp_h
  have hs0_a3 := hs_a3
  have hs0_a4 := hs_a4
  have hp0_h := hp_h.1
  suffices H_ : ∀ W : CW, WX W0 W κ → CV G E W (c - 0) κ → (PO G E W κ h 10 [1, 2, 13]) → (W.1 b_a3 = 12) → (W.1 b_a4 = 5) → F_X5_init G h a1 a3 a4 post κ from H_ W0 WX.rf (hV.dn (by omega)) hp_h hs_a3 hs_a4
  intro W hx hV hp_h hs_a3 hs_a4
  unfold F_X5_init
  have hfr : CFx [] W0 h κ κ := CFx.rf
  have k_0 : (0 : Int32).toInt = 0 := rfl
  have k_12 : (12 : Int32).toInt = 12 := rfl
  have rg_a1 := l_range a1
  have hbd_ := hV.bud
  refine ⟨by omega, by omega, ?_⟩
  intro o2 hn_o2 κ3 eκ3
  obtain ⟨W, x1_, hV, hs_o2, wn_o2, f1κ3⟩ := hV.mkA (M := []) (r := 30) (n := (12 : Int32).toInt.toNat) hn_o2 rfl rfl (Or.inr rfl) (by omega) (fun h => absurd h (by decide)) (by decide) (Or.inl rfl) (by omega) eκ3
  have hx2 := hx.tr x1_ hfr.sl
  have hfr := hfr.trW hx f1κ3 (by decide)
  have hp_h := (hp_h).fr f1κ3 x1_
  have hs_a3 := WLe.at (x1_).1 hs_a3 (by decide)
  have hs_a4 := WLe.at (x1_).1 hs_a4 (by decide)
  have hx := hx2
  have hV : CV G E W (c - 24) κ3 := hV.dn (by omega)
  refine ⟨(hp_h).2.1, ?_⟩
  intro κ4 eκ4
  have hV := hV.uP0 hp_h eκ4
  have hq_ := (hp_h).1
  have hp_h := (hp_h).uP (k := 13) (v := (some o2)) (D2 := [1, 2]) (Or.inr (Or.inr (Or.inr ⟨o2, rfl, hs_o2⟩))) (by decide) eκ4
  have hfr := hfr.pP hp0_h eκ4
  refine ⟨(hp_h).2.1, ?_⟩
  intro κ5 eκ5
  have hV := hV.uJ eκ5
  have hq_ := (hp_h).1
  have hp_h := (hp_h).uJ eκ5
  have hfr := hfr.pJ hp0_h eκ5
  have uκ5 : (sJ κ5.1 h 0).toInt = (a1 : Int64).toInt := by rw [eκ5]; exact congrArg Int64.toInt u2_same
  refine ⟨(hp_h).2.1, ?_⟩
  intro κ6 eκ6
  have hV := hV.uP0 hp_h eκ6
  have hq_ := (hp_h).1
  have hp_h := (hp_h).uP (k := 1) (v := a3) (D2 := [2]) (Or.inr (Or.inr (Or.inr ⟨b_a3, e_a3, hs_a3⟩))) (by decide) eκ6
  have hfr := hfr.pP hp0_h eκ6
  refine ⟨(hp_h).2.1, ?_⟩
  intro κ7 eκ7
  have hV := hV.uP0 hp_h eκ7
  have hq_ := (hp_h).1
  have hp_h := (hp_h).uP (k := 2) (v := a4) (D2 := []) (Or.inr (Or.inr (Or.inr ⟨b_a4, e_a4, hs_a4⟩))) (by decide) eκ7
  have hfr := hfr.pP hp0_h eκ7
  exact kk W κ7 hx (hV.dn (by omega)) hfr hp_h trivial
set_option maxRecDepth 100000 in
set_option maxHeartbeats 4000000 in
theorem t_X10_init {G : GE} {E : CE} {W0 : CW} {c : Int} {κ : CS} (hV : CV G E W0 c κ) (h : Nat) (hp_h : PO G E W0 κ h 13 [8])  (hc : 12 ≤ c) {post : CS → Prop} (kk : ∀ (W' : CW) (κ' : CS), WX W0 W' κ → CV G E W' (c - 12) κ' → CFx [] W0 h κ κ' → PO G E W' κ' h 13 [] → (True) → post κ') : F_X10_init G h post κ := by
  have hp0_h := hp_h
  have hp0_h := hp_h.1
  suffices H_ : ∀ W : CW, WX W0 W κ → CV G E W (c - 0) κ → (PO G E W κ h 13 [8]) → F_X10_init G h post κ from H_ W0 WX.rf (hV.dn (by omega)) hp_h
  intro W hx hV hp_h
  unfold F_X10_init
  have hfr : CFx [] W0 h κ κ := CFx.rf
  have k_0 : (0 : Int32).toInt = 0 := rfl
  have hbd_ := hV.bud
  refine ⟨by omega, by omega, ?_⟩
  intro o2 hn_o2 κ3 eκ3
  obtain ⟨W, x1_, hV, hs_o2, wn_o2, f1κ3⟩ := hV.mkA (M := []) (r := 21) (n := (0 : Int32).toInt.toNat) hn_o2 rfl rfl (Or.inl rfl) (by omega) (fun h => absurd h (by decide)) (by decide) (Or.inl rfl) (by omega) eκ3
  have hx2 := hx.tr x1_ hfr.sl
  have hfr := hfr.trW hx f1κ3 (by decide)
  have hp_h := (hp_h).fr f1κ3 x1_
  have hx := hx2
  have hV : CV G E W (c - 12) κ3 := hV.dn (by omega)
  refine ⟨(hp_h).2.1, ?_⟩
  intro κ4 eκ4
  have hV := hV.uP0 hp_h eκ4
  have hq_ := (hp_h).1
  have hp_h := (hp_h).uP (k := 8) (v := (some o2)) (D2 := []) (Or.inr (Or.inr (Or.inr ⟨o2, rfl, hs_o2⟩))) (by decide) eκ4
  have hfr := hfr.pP hp0_h eκ4
  exact kk W κ4 hx (hV.dn (by omega)) hfr hp_h trivial
set_option maxRecDepth 100000 in
set_option maxHeartbeats 4000000 in
theorem t_X7_init {G : GE} {E : CE} {W0 : CW} {c : Int} {κ : CS} (hV : CV G E W0 c κ) (h : Nat) (hp_h : PO G E W0 κ h 11 [1, 2]) (a1 : Int64) (a3 : Option Nat) (b_a3 : Nat) (e_a3 : a3 = some b_a3) (hs_a3 : W0.1 b_a3 = 8)  (hc : 28 ≤ c) {post : CS → Prop} (kk : ∀ (W' : CW) (κ' : CS), WX W0 W' κ → CV G E W' (c - 28) κ' → CFx [(31, 0)] W0 h κ κ' → PO G E W' κ' h 11 [] → (True) → post κ') : F_X7_init G h a1 a3 post κ := by
  have hp0_h := hp_h
  have hs0_a3 := hs_a3
  have hp0_h := hp_h.1
  suffices H_ : ∀ W : CW, WX W0 W κ → CV G E W (c - 0) κ → (PO G E W κ h 11 [1, 2]) → (W.1 b_a3 = 8) → F_X7_init G h a1 a3 post κ from H_ W0 WX.rf (hV.dn (by omega)) hp_h hs_a3
  intro W hx hV hp_h hs_a3
  unfold F_X7_init
  have hfr : CFx [(31, 0)] W0 h κ κ := CFx.rf
  have k_0 : (0 : Int32).toInt = 0 := rfl
  have k_1 : (1 : Int32).toInt = 1 := rfl
  have k_2 : (2 : Int32).toInt = 2 := rfl
  have k_16 : (16 : Int32).toInt = 16 := rfl
  have k_76 : (76 : Int32).toInt = 76 := rfl
  have k_78 : (78 : Int32).toInt = 78 := rfl
  have kl_1 : (1 : Int64).toInt = 1 := rfl
  have kl_2 : (2 : Int64).toInt = 2 := rfl
  have kl_16 : (16 : Int64).toInt = 16 := rfl
  have kl_76 : (76 : Int64).toInt = 76 := rfl
  have kl_78 : (78 : Int64).toInt = 78 := rfl
  have rg_a1 := l_range a1
  have hbd_ := hV.bud
  refine ⟨by omega, by omega, ?_⟩
  intro o2 hn_o2 κ3 eκ3
  obtain ⟨W, x1_, hV, hs_o2, wn_o2, f1κ3⟩ := hV.mkA (M := []) (r := 31) (n := (16 : Int32).toInt.toNat) hn_o2 rfl rfl (Or.inr rfl) (by omega) (fun h => absurd h (by decide)) (by decide) (Or.inl rfl) (by omega) eκ3
  have hx2 := hx.tr x1_ hfr.sl
  have hfr := hfr.trW hx f1κ3 (by decide)
  have hp_h := (hp_h).fr f1κ3 x1_
  have hs_a3 := WLe.at (x1_).1 hs_a3 (by decide)
  have hx := hx2
  have hV : CV G E W (c - 28) κ3 := hV.dn (by omega)
  refine ⟨(hp_h).2.1, ?_⟩
  intro κ4 eκ4
  have hV := hV.uP0 hp_h eκ4
  have hq_ := (hp_h).1
  have hp_h := (hp_h).uP (k := 2) (v := (some o2)) (D2 := [1]) (Or.inr (Or.inr (Or.inr ⟨o2, rfl, hs_o2⟩))) (by decide) eκ4
  have hfr := hfr.pP hp0_h eκ4
  refine ⟨(hp_h).2.1, ?_⟩
  intro κ5 eκ5
  have hV := hV.uJ eκ5
  have hq_ := (hp_h).1
  have hp_h := (hp_h).uJ eκ5
  have hfr := hfr.pJ hp0_h eκ5
  have uκ5 : (sJ κ5.1 h 0).toInt = (a1 : Int64).toInt := by rw [eκ5]; exact congrArg Int64.toInt u2_same
  refine ⟨b_a3, e_a3, (hV.mm hs_a3 (by decide) rfl), ?_⟩
  intro z6 ez6
  obtain ⟨bz6, ebz6, hsz6⟩ := hV.1.nn hs_a3 (by decide) rfl 0 rfl (by decide)
  have ebz6 := ez6.trans ebz6
  refine ⟨(hp_h).2.1, ?_⟩
  intro κ7 eκ7
  have hV := hV.uP0 hp_h eκ7
  have hq_ := (hp_h).1
  have hp_h := (hp_h).uP (k := 1) (v := z6) (D2 := []) (Or.inr (Or.inr (Or.inr ⟨bz6, ebz6, hsz6⟩))) (by decide) eκ7
  have hfr := hfr.pP hp0_h eκ7
  refine ⟨b_a3, e_a3, (hV.mm hs_a3 (by decide) rfl), ?_⟩
  refine t2_X0_number hV b_a3 hs_a3 78 2  (by decide) (fun z9 pz9 => ?_)
  have rg_z9 := l_range z9
  intro z11 mz11
  have rg_z11 := l_range z11
  intro z12 ez12
  try have hz12 := l_toi ez12 (by omega) (by omega)
  have rg_z12 := i_range z12
  refine ⟨(hp_h).2.1, ?_⟩
  intro κ13 eκ13
  have rv_κ13 := i_range z12
  have hV := hV.uI0 hp_h eκ13
  have hq_ := (hp_h).1
  have hp_h := (hp_h).uI (k := 3) (v := z12) (by show (-2147483648 : Int) ≤ (z12 : Int32).toInt ∧ (z12 : Int32).toInt ≤ 16; omega) eκ13
  have uκ13 : (sI κ13.1 h 3).toInt = (z12 : Int32).toInt := by rw [eκ13]; exact congrArg Int32.toInt u2_same
  have hfr := hfr.pI hp0_h eκ13
  refine ⟨b_a3, e_a3, (hV.mm hs_a3 (by decide) rfl), ?_⟩
  refine t2_X0_number hV b_a3 hs_a3 76 2  (by decide) (fun z15 pz15 => ?_)
  have rg_z15 := l_range z15
  intro z16 ez16
  try have hz16 := l_toi ez16 (by omega) (by omega)
  have rg_z16 := i_range z16
  refine lc_in (fun (x : Int32) (κ' : CS) => ∃ W' : CW, WLe W W' ∧ WX W0 W' κ ∧ CV G E W' (c - 28) κ' ∧ CFx [(31, 0)] W0 h κ κ' ∧ PO G E W' κ' h 11 [] ∧ (((0 ≤ x.toInt)))) (fun (x : Int32) (κ' : CS) => (2147483647 - x.toInt).toNat) ⟨W, WLe.rf, hx, hV.dn (by (try dsimp only); omega), hfr, hp_h, (by (try dsimp only); omega)⟩ (fun x17 κ18 hJ K19 hK19 => ?_)
  obtain ⟨W, le56, hx, hV, hfr, hp_h, hv⟩ := hJ
  have hs_a3 := WLe.at le56 hs_a3 (by decide)
  have wl_o2 := (le56 o2 (by rw [hs_o2]; decide)).2
  have hs_o2 := WLe.at le56 hs_o2 (by decide)
  have hsz6 := WLe.at le56 hsz6 (by decide)
  (try dsimp only at hv)
  have rg_x17 := i_range x17
  refine ⟨(hp_h).2.1, ?_⟩
  intro z21 ez21
  have vz21 : (-2147483648) ≤ z21.toInt ∧ z21.toInt ≤ 16 := by rw [ez21]; exact ((hp_h).2.2.2 3).1
  have wz21 : z21.toInt = (sI κ18.1 h 3).toInt := by rw [ez21]
  refine ⟨fun c1 => ?_, fun c1 => ?_⟩
  · exact kk W κ18 hx (hV.dn (by omega)) hfr hp_h trivial
  · refine ⟨(hp_h).2.1, ?_⟩
    intro z22 ez22
    obtain ⟨bz22, ebz22, hsz22⟩ := RV.nn (((hp_h).2.2.2 2).2 (by decide)) (by decide)
    have ebz22 := ez22.trans ebz22
    intro z23 ez23
    try have hz23 := i_add ez23 (by omega) (by omega)
    have rg_z23 := i_range z23
    refine ⟨b_a3, e_a3, (hV.mm hs_a3 (by decide) rfl), ?_⟩
    refine t2_X0_number hV b_a3 hs_a3 z23 1  (by decide) (fun z25 pz25 => ?_)
    have rg_z25 := l_range z25
    intro z26 ez26
    try have hz26 := l_toi ez26 (by omega) (by omega)
    have rg_z26 := i_range z26
    intro z27 ez27
    have hz27 := i_b8 ez27
    have rg_z27 := i_range z27
    have ln_ := hV.ln hsz22 (by decide) rfl
    have lx_ := hV.1.fx hsz22 (by decide) rfl 16 rfl (by decide)
    refine ⟨bz22, ebz22, (hV.mm hsz22 (by decide) rfl), by omega, ?_⟩
    intro κ28 eκ28
    have hV := hV.uI (k := x17.toInt.toNat) (v := (vp_nar .byte z27)) hsz22 (Or.inl rfl) (Or.inl (by decide)) (Or.inl (by decide)) (fun _ => (i_byte _)) eκ28
    have f1κ28 : CF [(31, 0)] W κ18 κ28 := CF.rf.uI (k := x17.toInt.toNat) hsz22 (by decide) (show ((31, 0) : Nat × Nat) ∈ ([(31, 0)] : List (Nat × Nat)) by simp) eκ28
    have hfr := hfr.trW hx f1κ28 (by decide)
    have hp_h := (hp_h).fr f1κ28 WX.rf
    intro z29 ez29
    try have hz29 := i_add ez29 (by omega) (by omega)
    have rg_z29 := i_range z29
    exact hK19 z29 κ28 ⟨W, le56, hx, hV.dn (by (try dsimp only); omega), hfr, hp_h, (by (try dsimp only); omega)⟩ (by (try dsimp only); omega)
set_option maxRecDepth 100000 in
set_option maxHeartbeats 4000000 in
theorem t_X5_takePattern {G : GE} {E : CE} {W0 : CW} {c : Int} {κ : CS} (hV : CV G E W0 c κ) (h : Nat) (hs_h : W0.1 h = 10) (a1 : Option Nat) (b_a1 : Nat) (e_a1 : a1 = some b_a1) (hs_a1 : W0.1 b_a1 = 8) (a2 : Int32) (a3 : Int32) (hz : a3.toInt ≤ 40) (hc : 52 ≤ c) {post : CS → Prop} (kk : ∀ (W' : CW) (κ' : CS), WX W0 W' κ → CV G E W' (c - 52) κ' → CF [(10, 11), (10, 12), (10, 14), (21, 0)] W0 κ κ' → (True) → post κ') : F_X5_takePattern G h a1 a2 a3 post κ := by
  have hs0_h := hs_h
  have hs0_a1 := hs_a1
  suffices H_ : ∀ W : CW, WX W0 W κ → CV G E W (c - 0) κ → (W.1 h = 10) → (W.1 b_a1 = 8) → F_X5_takePattern G h a1 a2 a3 post κ from H_ W0 WX.rf (hV.dn (by omega)) hs_h hs_a1
  intro W hx hV hs_h hs_a1
  unfold F_X5_takePattern
  have hfr : CF [(10, 11), (10, 12), (10, 14), (21, 0)] W0 κ κ := CF.rf
  have k_0 : (0 : Int32).toInt = 0 := rfl
  have k_1 : (1 : Int32).toInt = 1 := rfl
  have k_2 : (2 : Int32).toInt = 2 := rfl
  have kl_1 : (1 : Int64).toInt = 1 := rfl
  have kl_2 : (2 : Int64).toInt = 2 := rfl
  have rg_a2 := i_range a2
  have rg_a3 := i_range a3
  intro z2 mz2
  have rg_z2 := i_range z2
  refine jc_in (fun (x : Int32) (κ' : CS) => κ = κ' ∧ (((z2.toInt ≤ x.toInt) ∧ (1 ≤ x.toInt) ∧ (x.toInt ≤ 40)))) (fun x3 κ4 hJ => ?_) (fun K5 hK5 => ?_)
  · obtain ⟨hsg, hv⟩ := hJ
    subst hsg
    (try dsimp only at hv)
    have rg_x3 := i_range x3
    have hbd_ := hV.bud
    refine ⟨by omega, by omega, ?_⟩
    intro o8 hn_o8 κ9 eκ9
    obtain ⟨W, x1_, hV, hs_o8, wn_o8, f1κ9⟩ := hV.mkA (M := []) (r := 21) (n := x3.toInt.toNat) hn_o8 rfl rfl (Or.inl rfl) (by omega) (fun h => absurd h (by decide)) (by decide) (Or.inl rfl) (by omega) eκ9
    have hx2 := hx.tr x1_ hfr.sl
    have hfr := hfr.trW hx f1κ9 (by decide)
    have hs_h := WLe.at (x1_).1 hs_h (by decide)
    have hs_a1 := WLe.at (x1_).1 hs_a1 (by decide)
    have hx := hx2
    have hV : CV G E W (c - 52) κ9 := hV.dn (by omega)
    refine ⟨(hV.mm hs_h (by decide) rfl), ?_⟩
    intro κ10 eκ10
    have hV := hV.uP (k := 11) (v := (some o8)) hs_h rfl (Or.inl (by decide)) (by decide) (by decide) (fun _ => (Or.inr (Or.inr (Or.inr ⟨o8, rfl, hs_o8⟩)))) eκ10
    have f1κ10 : CF [(10, 11)] W κ9 κ10 := CF.rf.uP (k := 11) hs_h (by decide) (show ((10, 11) : Nat × Nat) ∈ ([(10, 11)] : List (Nat × Nat)) by simp) eκ10
    have hfr := hfr.trW hx f1κ10 (by decide)
    have pk_κ10 : sP κ10.1 h 11 = some o8 := by rw [eκ10]; first | exact u2_same | exact u2_same.trans rfl
    refine ⟨(hV.mm hs_h (by decide) rfl), ?_⟩
    intro z11 ez11
    have ebz11 : z11 = some o8 := ez11.trans pk_κ10
    have ln_ := hV.ln hs_o8 (by decide) rfl
    refine ⟨o8, ebz11, (hV.mm hs_o8 (by decide) rfl), by omega, ?_⟩
    intro κ12 eκ12
    have hV := hV.uI (k := (0 : Int32).toInt.toNat) (v := 42) hs_o8 (Or.inl rfl) (Or.inl (by decide)) (Or.inl (by decide)) (fun _ => (by have q := i_range 42; exact q)) eκ12
    have f1κ12 : CF [(21, 0)] W κ10 κ12 := CF.rf.uI (k := (0 : Int32).toInt.toNat) hs_o8 (by decide) (show ((21, 0) : Nat × Nat) ∈ ([(21, 0)] : List (Nat × Nat)) by simp) eκ12
    have pk1 := (f1κ12.1 h (by rw [hs_h]; decide) 11 (by rw [hs_h]; decide)).2.2.trans pk_κ10
    have hfr := hfr.trW hx f1κ12 (by decide)
    refine lc_in (fun (x : Int32) (κ' : CS) => ∃ W' : CW, WLe W W' ∧ WX W0 W' κ ∧ CV G E W' (c - 52) κ' ∧ CF [(10, 11), (10, 12), (10, 14), (21, 0)] W0 κ κ' ∧ (((0 ≤ x.toInt))) ∧ (∃ b, sP κ'.1 h 11 = some b ∧ W'.1 b = 21 ∧ (z2.toInt ≤ (W'.2 b : Int)))) (fun (x : Int32) (κ' : CS) => (2147483647 - x.toInt).toNat) ⟨W, WLe.rf, hx, hV.dn (by (try dsimp only); omega), hfr, (by (try dsimp only); omega), ⟨o8, pk1, hs_o8, (by (try dsimp only); omega)⟩⟩ (fun x13 κ14 hJ K15 hK15 => ?_)
    obtain ⟨W, le35, hx, hV, hfr, hv⟩ := hJ
    have hs_h := WLe.at le35 hs_h (by decide)
    have hs_a1 := WLe.at le35 hs_a1 (by decide)
    have wl_o8 := (le35 o8 (by rw [hs_o8]; decide)).2
    have hs_o8 := WLe.at le35 hs_o8 (by decide)
    (try dsimp only at hv)
    obtain ⟨hv, ⟨bk35_0, ek35_0, wk35_0, xk35_0⟩⟩ := hv
    (try dsimp only at hv)
    (try dsimp only at xk35_0)
    have rg_x13 := i_range x13
    refine ⟨fun c1 => ?_, fun c1 => ?_⟩
    · refine ⟨(hV.mm hs_h (by decide) rfl), ?_⟩
      intro κ17 eκ17
      have rv_κ17 := i_range 0
      have hV := hV.uI (k := 12) (v := 0) hs_h (Or.inl rfl) (Or.inl (by decide)) (Or.inl (by decide)) (fun _ => (by omega : (0 : Int) ≤ (0 : Int32).toInt ∧ (0 : Int32).toInt ≤ 2)) eκ17
      have uκ17 : (sI κ17.1 h 12).toInt = (0 : Int32).toInt := by rw [eκ17]; exact congrArg Int32.toInt u2_same
      have f1κ17 : CF [(10, 12)] W κ14 κ17 := CF.rf.uI (k := 12) hs_h (by decide) (show ((10, 12) : Nat × Nat) ∈ ([(10, 12)] : List (Nat × Nat)) by simp) eκ17
      have pk2 := (f1κ17.1 h (by rw [hs_h]; decide) 11 (by rw [hs_h]; decide)).2.2.trans ek35_0
      have hfr := hfr.trW hx f1κ17 (by decide)
      refine ⟨(hV.mm hs_h (by decide) rfl), ?_⟩
      intro κ18 eκ18
      have rv_κ18 := i_range 0
      have hV := hV.uI (k := 14) (v := 0) hs_h (Or.inl rfl) (Or.inl (by decide)) (Or.inl (by decide)) (fun _ => (by omega : (-2147483648 : Int) ≤ (0 : Int32).toInt ∧ (0 : Int32).toInt ≤ 2147483647)) eκ18
      have uκ18 : (sI κ18.1 h 14).toInt = (0 : Int32).toInt := by rw [eκ18]; exact congrArg Int32.toInt u2_same
      have f1κ18 : CF [(10, 14)] W κ17 κ18 := CF.rf.uI (k := 14) hs_h (by decide) (show ((10, 14) : Nat × Nat) ∈ ([(10, 14)] : List (Nat × Nat)) by simp) eκ18
      have pk3 := (f1κ18.1 h (by rw [hs_h]; decide) 11 (by rw [hs_h]; decide)).2.2.trans pk2
      have hfr := hfr.trW hx f1κ18 (by decide)
      exact kk W κ18 hx (hV.dn (by omega)) hfr trivial
    · refine ⟨(hV.mm hs_h (by decide) rfl), ?_⟩
      intro z19 ez19
      have ebz19 : z19 = some bk35_0 := ez19.trans ek35_0
      intro z20 ez20
      try have hz20 := i_mulk 2 rfl ez20 (by omega) (by omega)
      have rg_z20 := i_range z20
      intro z21 ez21
      try have hz21 := i_add ez21 (by omega) (by omega)
      have rg_z21 := i_range z21
      refine ⟨b_a1, e_a1, (hV.mm hs_a1 (by decide) rfl), ?_⟩
      refine t2_X0_number hV b_a1 hs_a1 z21 2  (by decide) (fun z23 pz23 => ?_)
      have rg_z23 := l_range z23
      intro z24 ez24
      try have hz24 := l_toi ez24 (by omega) (by omega)
      have rg_z24 := i_range z24
      have ln_ := hV.ln wk35_0 (by decide) rfl
      refine ⟨bk35_0, ebz19, (hV.mm wk35_0 (by decide) rfl), by omega, ?_⟩
      intro κ25 eκ25
      have hV := hV.uI (k := x13.toInt.toNat) (v := z24) wk35_0 (Or.inl rfl) (Or.inl (by decide)) (Or.inl (by decide)) (fun _ => (by have q := i_range z24; exact q)) eκ25
      have f1κ25 : CF [(21, 0)] W κ14 κ25 := CF.rf.uI (k := x13.toInt.toNat) wk35_0 (by decide) (show ((21, 0) : Nat × Nat) ∈ ([(21, 0)] : List (Nat × Nat)) by simp) eκ25
      have pk4 := (f1κ25.1 h (by rw [hs_h]; decide) 11 (by rw [hs_h]; decide)).2.2.trans ek35_0
      have hfr := hfr.trW hx f1κ25 (by decide)
      intro z26 ez26
      try have hz26 := i_add ez26 (by omega) (by omega)
      have rg_z26 := i_range z26
      exact hK15 z26 κ25 ⟨W, le35, hx, hV.dn (by (try dsimp only); omega), hfr, (by (try dsimp only); omega), ⟨bk35_0, pk4, wk35_0, (by (try dsimp only); omega)⟩⟩ (by (try dsimp only); omega)
  · skip
    refine ⟨fun c2 => ?_, fun c2 => ?_⟩
    · exact hK5 z2 κ ⟨rfl, (by (try dsimp only); omega)⟩
    · exact hK5 1 κ ⟨rfl, (by (try dsimp only); omega)⟩
set_option maxRecDepth 100000 in
set_option maxHeartbeats 4000000 in
theorem t_X10_takePath {G : GE} {E : CE} {W0 : CW} {c : Int} {κ : CS} (hV : CV G E W0 c κ) (h : Nat) (hs_h : W0.1 h = 13) (a1 : Option Nat) (b_a1 : Nat) (e_a1 : a1 = some b_a1) (hs_a1 : W0.1 b_a1 = 8) (a2 : Int32) (a3 : Int64)  (hc : 132 ≤ c) {post : Int32 → CS → Prop} (kk : ∀ (r : Int32) (W' : CW) (κ' : CS), WX W0 W' κ → CV G E W' (c - 132) κ' → CF [(13, 8), (13, 9), (21, 0)] W0 κ κ' → (0 ≤ r.toInt ∧ r.toInt ≤ 1) → post r κ') : F_X10_takePath G h a1 a2 a3 post κ := by
  have hs0_h := hs_h
  have hs0_a1 := hs_a1
  suffices H_ : ∀ W : CW, WX W0 W κ → CV G E W (c - 0) κ → (W.1 h = 13) → (W.1 b_a1 = 8) → F_X10_takePath G h a1 a2 a3 post κ from H_ W0 WX.rf (hV.dn (by omega)) hs_h hs_a1
  intro W hx hV hs_h hs_a1
  unfold F_X10_takePath
  have hfr : CF [(13, 8), (13, 9), (21, 0)] W0 κ κ := CF.rf
  have k_0 : (0 : Int32).toInt = 0 := rfl
  have k_1 : (1 : Int32).toInt = 1 := rfl
  have k_2 : (2 : Int32).toInt = 2 := rfl
  have k_92 : (92 : Int32).toInt = 92 := rfl
  have kl_0 : (0 : Int64).toInt = 0 := rfl
  have kl_1 : (1 : Int64).toInt = 1 := rfl
  have kl_2 : (2 : Int64).toInt = 2 := rfl
  have kl_240 : (240 : Int64).toInt = 240 := rfl
  have rg_a2 := i_range a2
  have rg_a3 := l_range a3
  intro z1 ez1
  try have hz1 := l_rem 2 rfl ez1 (by omega) (by omega)
  have rg_z1 := l_range z1
  refine jc_dup ?_
  refine ⟨fun c1 => ?_, fun c1 => ?_⟩
  · (try dsimp only)
    refine ⟨by omega, ?_⟩
    exact kk 0 W κ hx (hV.dn (by omega)) hfr (by omega)
  · refine ⟨fun c2 => ?_, fun c2 => ?_⟩
    · (try dsimp only)
      refine ⟨by omega, ?_⟩
      exact kk 0 W κ hx (hV.dn (by omega)) hfr (by omega)
    · refine ⟨fun c3 => ?_, fun c3 => ?_⟩
      · intro z7 ez7
        try have hz7 := l_toi ez7 (by omega) (by omega)
        have rg_z7 := i_range z7
        intro z8 ez8
        try have hz8 := i_div 2 rfl ez8 (by omega) (by omega)
        have rg_z8 := i_range z8
        refine ⟨(hV.mm hs_h (by decide) rfl), ?_⟩
        intro κ9 eκ9
        have rv_κ9 := i_range z8
        have hV := hV.uI (k := 9) (v := z8) hs_h (Or.inl rfl) (Or.inl (by decide)) (Or.inl (by decide)) (fun _ => (by omega : (-2147483648 : Int) ≤ (z8 : Int32).toInt ∧ (z8 : Int32).toInt ≤ 2147483647)) eκ9
        have uκ9 : (sI κ9.1 h 9).toInt = (z8 : Int32).toInt := by rw [eκ9]; exact congrArg Int32.toInt u2_same
        have f1κ9 : CF [(13, 9)] W κ κ9 := CF.rf.uI (k := 9) hs_h (by decide) (show ((13, 9) : Nat × Nat) ∈ ([(13, 9)] : List (Nat × Nat)) by simp) eκ9
        have hfr := hfr.trW hx f1κ9 (by decide)
        refine ⟨(hV.mm hs_h (by decide) rfl), ?_⟩
        intro z10 ez10
        have vz10 := hV.1.iv hs_h (by decide) rfl 9 (-2147483648) 2147483647 rfl ez10
        have wz10 : z10.toInt = (sI κ9.1 h 9).toInt := by rw [ez10]
        have hbd_ := hV.bud
        refine ⟨by omega, by omega, ?_⟩
        intro o11 hn_o11 κ12 eκ12
        obtain ⟨W, x1_, hV, hs_o11, wn_o11, f1κ12⟩ := hV.mkA (M := []) (r := 21) (n := z10.toInt.toNat) hn_o11 rfl rfl (Or.inl rfl) (by omega) (fun h => absurd h (by decide)) (by decide) (Or.inl rfl) (by omega) eκ12
        have tk1 : (sI κ12.1 h 9).toInt = (sI κ9.1 h 9).toInt := by rw [(f1κ12.1 h (by rw [hs_h]; decide) 9 (by rw [hs_h]; decide)).1]
        have hx2 := hx.tr x1_ hfr.sl
        have hfr := hfr.trW hx f1κ12 (by decide)
        have hs_h := WLe.at (x1_).1 hs_h (by decide)
        have hs_a1 := WLe.at (x1_).1 hs_a1 (by decide)
        have hx := hx2
        have hV : CV G E W (c - 132) κ12 := hV.dn (by omega)
        refine ⟨(hV.mm hs_h (by decide) rfl), ?_⟩
        intro κ13 eκ13
        have hV := hV.uP (k := 8) (v := (some o11)) hs_h rfl (Or.inl (by decide)) (by decide) (by decide) (fun _ => (Or.inr (Or.inr (Or.inr ⟨o11, rfl, hs_o11⟩)))) eκ13
        have f1κ13 : CF [(13, 8)] W κ12 κ13 := CF.rf.uP (k := 8) hs_h (by decide) (show ((13, 8) : Nat × Nat) ∈ ([(13, 8)] : List (Nat × Nat)) by simp) eκ13
        have tk2 : (sI κ13.1 h 9).toInt = (sI κ12.1 h 9).toInt := by rw [(f1κ13.1 h (by rw [hs_h]; decide) 9 (by rw [hs_h]; decide)).1]
        have hfr := hfr.trW hx f1κ13 (by decide)
        have pk_κ13 : sP κ13.1 h 8 = some o11 := by rw [eκ13]; first | exact u2_same | exact u2_same.trans rfl
        refine lc_in (fun (x : Int32 × Int32 × Int32) (κ' : CS) => ∃ W' : CW, WLe W W' ∧ WX W0 W' κ ∧ CV G E W' (c - 132) κ' ∧ CF [(13, 8), (13, 9), (21, 0)] W0 κ κ' ∧ (((0 ≤ x.2.1.toInt ∧ x.2.1.toInt ≤ 1) ∧ (0 ≤ x.1.toInt))) ∧ (∃ b, sP κ'.1 h 8 = some b ∧ W'.1 b = 21 ∧ ((sI κ'.1 h 9).toInt = (W'.2 b : Int)))) (fun (x : Int32 × Int32 × Int32) (κ' : CS) => (2147483647 - x.1.toInt).toNat) ⟨W, WLe.rf, hx, hV.dn (by (try dsimp only); omega), hfr, (by (try dsimp only); omega), ⟨o11, pk_κ13, hs_o11, (by (try dsimp only); omega)⟩⟩ (fun x14 κ15 hJ K16 hK16 => ?_)
        obtain ⟨W, le53, hx, hV, hfr, hv⟩ := hJ
        have hs_h := WLe.at le53 hs_h (by decide)
        have hs_a1 := WLe.at le53 hs_a1 (by decide)
        have wl_o11 := (le53 o11 (by rw [hs_o11]; decide)).2
        have hs_o11 := WLe.at le53 hs_o11 (by decide)
        (try dsimp only at hv)
        obtain ⟨hv, ⟨bk53_0, ek53_0, wk53_0, xk53_0⟩⟩ := hv
        (try dsimp only at hv)
        (try dsimp only at xk53_0)
        have rg_x14_1 := i_range x14.1
        have rg_x14_2_1 := i_range x14.2.1
        have rg_x14_2_2 := i_range x14.2.2
        refine ⟨(hV.mm hs_h (by decide) rfl), ?_⟩
        intro z18 ez18
        have vz18 := hV.1.iv hs_h (by decide) rfl 9 (-2147483648) 2147483647 rfl ez18
        have wz18 : z18.toInt = (sI κ15.1 h 9).toInt := by rw [ez18]
        refine ⟨fun c4 => ?_, fun c4 => ?_⟩
        · refine jc_dup ?_
          refine jc_dup ?_
          refine ⟨fun c5 => ?_, fun c5 => ?_⟩
          · (try dsimp only)
            (try dsimp only)
            refine ⟨by omega, ?_⟩
            exact kk 0 W κ15 hx (hV.dn (by omega)) hfr (by omega)
          · refine ⟨(hV.mm hs_h (by decide) rfl), ?_⟩
            intro z29 ez29
            have vz29 := hV.1.iv hs_h (by decide) rfl 9 (-2147483648) 2147483647 rfl ez29
            have wz29 : z29.toInt = (sI κ15.1 h 9).toInt := by rw [ez29]
            refine jc_dup ?_
            refine ⟨fun c6 => ?_, fun c6 => ?_⟩
            · (try dsimp only)
              (try dsimp only)
              refine ⟨by omega, ?_⟩
              exact kk 1 W κ15 hx (hV.dn (by omega)) hfr (by omega)
            · refine ⟨(hV.mm hs_h (by decide) rfl), ?_⟩
              intro z35 ez35
              have vz35 := hV.1.iv hs_h (by decide) rfl 9 (-2147483648) 2147483647 rfl ez35
              have wz35 : z35.toInt = (sI κ15.1 h 9).toInt := by rw [ez35]
              refine ⟨(hV.mm hs_h (by decide) rfl), ?_⟩
              refine t_X10_isName hV h hs_h x14.2.2 z35  (fun z37 pz37 => ?_)
              have rg_z37 := i_range z37
              refine ⟨fun c7 => ?_, fun c7 => ?_⟩
              · (try dsimp only)
                (try dsimp only)
                refine ⟨by omega, ?_⟩
                exact kk 0 W κ15 hx (hV.dn (by omega)) hfr (by omega)
              · (try dsimp only)
                (try dsimp only)
                refine ⟨by omega, ?_⟩
                exact kk 1 W κ15 hx (hV.dn (by omega)) hfr (by omega)
        · refine ⟨(hV.mm hs_h (by decide) rfl), ?_⟩
          intro z38 ez38
          have ebz38 : z38 = some bk53_0 := ez38.trans ek53_0
          intro z39 ez39
          try have hz39 := i_mulk 2 rfl ez39 (by omega) (by omega)
          have rg_z39 := i_range z39
          intro z40 ez40
          try have hz40 := i_add ez40 (by omega) (by omega)
          have rg_z40 := i_range z40
          refine ⟨b_a1, e_a1, (hV.mm hs_a1 (by decide) rfl), ?_⟩
          refine t2_X0_number hV b_a1 hs_a1 z40 2  (by decide) (fun z42 pz42 => ?_)
          have rg_z42 := l_range z42
          intro z43 ez43
          try have hz43 := l_toi ez43 (by omega) (by omega)
          have rg_z43 := i_range z43
          have ln_ := hV.ln wk53_0 (by decide) rfl
          refine ⟨bk53_0, ebz38, (hV.mm wk53_0 (by decide) rfl), by omega, ?_⟩
          intro κ44 eκ44
          have hV := hV.uI (k := x14.1.toInt.toNat) (v := z43) wk53_0 (Or.inl rfl) (Or.inl (by decide)) (Or.inl (by decide)) (fun _ => (by have q := i_range z43; exact q)) eκ44
          have f1κ44 : CF [(21, 0)] W κ15 κ44 := CF.rf.uI (k := x14.1.toInt.toNat) wk53_0 (by decide) (show ((21, 0) : Nat × Nat) ∈ ([(21, 0)] : List (Nat × Nat)) by simp) eκ44
          have tk3 : (sI κ44.1 h 9).toInt = (sI κ15.1 h 9).toInt := by rw [(f1κ44.1 h (by rw [hs_h]; decide) 9 (by rw [hs_h]; decide)).1]
          have pk4 := (f1κ44.1 h (by rw [hs_h]; decide) 8 (by rw [hs_h]; decide)).2.2.trans ek53_0
          have hfr := hfr.trW hx f1κ44 (by decide)
          refine ⟨(hV.mm hs_h (by decide) rfl), ?_⟩
          intro z45 ez45
          have ebz45 : z45 = some bk53_0 := ez45.trans pk4
          have ln_ := hV.ln wk53_0 (by decide) rfl
          refine ⟨bk53_0, ebz45, (hV.mm wk53_0 (by decide) rfl), by omega, ?_⟩
          intro z46 ez46
          have rg_z46 := i_range z46
          refine jc_dup ?_
          refine ⟨fun c8 => ?_, fun c8 => ?_⟩
          · (try dsimp only)
            intro z52 ez52
            try have hz52 := i_add ez52 (by omega) (by omega)
            have rg_z52 := i_range z52
            exact hK16 (z52, x14.2.1, x14.2.2) κ44 ⟨W, le53, hx, hV.dn (by (try dsimp only); omega), hfr, (by (try dsimp only); omega), ⟨bk53_0, pk4, wk53_0, (by (try dsimp only); omega)⟩⟩ (by (try dsimp only); omega)
          · refine jc_dup ?_
            refine jc_dup ?_
            refine ⟨fun c9 => ?_, fun c9 => ?_⟩
            · (try dsimp only)
              (try dsimp only)
              intro z58 ez58
              try have hz58 := i_add ez58 (by omega) (by omega)
              have rg_z58 := i_range z58
              (try dsimp only)
              intro z52 ez52
              try have hz52 := i_add ez52 (by omega) (by omega)
              have rg_z52 := i_range z52
              exact hK16 (z52, 0, z58) κ44 ⟨W, le53, hx, hV.dn (by (try dsimp only); omega), hfr, (by (try dsimp only); omega), ⟨bk53_0, pk4, wk53_0, (by (try dsimp only); omega)⟩⟩ (by (try dsimp only); omega)
            · refine ⟨(hV.mm hs_h (by decide) rfl), ?_⟩
              refine t_X10_isName hV h hs_h x14.2.2 x14.1  (fun z65 pz65 => ?_)
              have rg_z65 := i_range z65
              refine ⟨fun c10 => ?_, fun c10 => ?_⟩
              · (try dsimp only)
                (try dsimp only)
                intro z58 ez58
                try have hz58 := i_add ez58 (by omega) (by omega)
                have rg_z58 := i_range z58
                (try dsimp only)
                intro z52 ez52
                try have hz52 := i_add ez52 (by omega) (by omega)
                have rg_z52 := i_range z52
                exact hK16 (z52, 0, z58) κ44 ⟨W, le53, hx, hV.dn (by (try dsimp only); omega), hfr, (by (try dsimp only); omega), ⟨bk53_0, pk4, wk53_0, (by (try dsimp only); omega)⟩⟩ (by (try dsimp only); omega)
              · (try dsimp only)
                intro z58 ez58
                try have hz58 := i_add ez58 (by omega) (by omega)
                have rg_z58 := i_range z58
                (try dsimp only)
                intro z52 ez52
                try have hz52 := i_add ez52 (by omega) (by omega)
                have rg_z52 := i_range z52
                exact hK16 (z52, 1, z58) κ44 ⟨W, le53, hx, hV.dn (by (try dsimp only); omega), hfr, (by (try dsimp only); omega), ⟨bk53_0, pk4, wk53_0, (by (try dsimp only); omega)⟩⟩ (by (try dsimp only); omega)
      · (try dsimp only)
        refine ⟨by omega, ?_⟩
        exact kk 0 W κ hx (hV.dn (by omega)) hfr (by omega)
set_option maxRecDepth 100000 in
set_option maxHeartbeats 4000000 in
theorem t_X1_takeBytes {G : GE} {E : CE} {W0 : CW} {c : Int} {κ : CS} (hV : CV G E W0 c κ) (h : Nat) (hs_h : W0.1 h = 4) (a1 : Option Nat) (b_a1 : Nat) (e_a1 : a1 = some b_a1) (hs_a1 : W0.1 b_a1 = 8) (a2 : Int32) (a3 : Int32) (a4 : Int32) (hz : a4.toInt ≤ 4096) (hc : 1036 ≤ c) {post : CS → Prop} (kk : ∀ (W' : CW) (κ' : CS), WX W0 W' κ → CV G E W' (c - 1036) κ' → CF [(20, 0), (4, 11), (4, 12), (4, 13), (4, 14)] W0 κ κ' → (True) → post κ') : F_X1_takeBytes G h a1 a2 a3 a4 post κ := by
  have hs0_h := hs_h
  have hs0_a1 := hs_a1
  suffices H_ : ∀ W : CW, WX W0 W κ → CV G E W (c - 0) κ → (W.1 h = 4) → (W.1 b_a1 = 8) → F_X1_takeBytes G h a1 a2 a3 a4 post κ from H_ W0 WX.rf (hV.dn (by omega)) hs_h hs_a1
  intro W hx hV hs_h hs_a1
  unfold F_X1_takeBytes
  have hfr : CF [(20, 0), (4, 11), (4, 12), (4, 13), (4, 14)] W0 κ κ := CF.rf
  have k_0 : (0 : Int32).toInt = 0 := rfl
  have k_1 : (1 : Int32).toInt = 1 := rfl
  have k_1024 : (1024 : Int32).toInt = 1024 := rfl
  have kl_1 : (1 : Int64).toInt = 1 := rfl
  have rg_a2 := i_range a2
  have rg_a3 := i_range a3
  have rg_a4 := i_range a4
  intro z2 mz2
  have rg_z2 := i_range z2
  refine ⟨(hV.mm hs_h (by decide) rfl), ?_⟩
  intro κ3 eκ3
  have rv_κ3 := i_range z2
  have hV := hV.uI (k := 12) (v := z2) hs_h (Or.inl rfl) (Or.inl (by decide)) (Or.inl (by decide)) (fun _ => (by omega : (0 : Int) ≤ (z2 : Int32).toInt ∧ (z2 : Int32).toInt ≤ 4096)) eκ3
  have uκ3 : (sI κ3.1 h 12).toInt = (z2 : Int32).toInt := by rw [eκ3]; exact congrArg Int32.toInt u2_same
  have f1κ3 : CF [(4, 12)] W κ κ3 := CF.rf.uI (k := 12) hs_h (by decide) (show ((4, 12) : Nat × Nat) ∈ ([(4, 12)] : List (Nat × Nat)) by simp) eκ3
  have tk1 : (sI κ3.1 h 13).toInt = (sI κ.1 h 13).toInt := by rw [(f1κ3.1 h (by rw [hs_h]; decide) 13 (by rw [hs_h]; decide)).1]
  have hfr := hfr.trW hx f1κ3 (by decide)
  intro z5 mz5
  have rg_z5 := i_range z5
  intro z7 mz7
  have rg_z7 := i_range z7
  refine ⟨(hV.mm hs_h (by decide) rfl), ?_⟩
  intro κ8 eκ8
  have rv_κ8 := i_range z7
  have hV := hV.uI (k := 13) (v := z7) hs_h (Or.inl rfl) (Or.inl (by decide)) (Or.inl (by decide)) (fun _ => (by omega : (0 : Int) ≤ (z7 : Int32).toInt ∧ (z7 : Int32).toInt ≤ 1024)) eκ8
  have uκ8 : (sI κ8.1 h 13).toInt = (z7 : Int32).toInt := by rw [eκ8]; exact congrArg Int32.toInt u2_same
  have f1κ8 : CF [(4, 13)] W κ3 κ8 := CF.rf.uI (k := 13) hs_h (by decide) (show ((4, 13) : Nat × Nat) ∈ ([(4, 13)] : List (Nat × Nat)) by simp) eκ8
  have hfr := hfr.trW hx f1κ8 (by decide)
  refine ⟨(hV.mm hs_h (by decide) rfl), ?_⟩
  intro z9 ez9
  have vz9 := hV.1.iv hs_h (by decide) rfl 11 (-2147483648) 2147483647 rfl ez9
  have wz9 : z9.toInt = (sI κ8.1 h 11).toInt := by rw [ez9]
  refine ⟨(hV.mm hs_h (by decide) rfl), ?_⟩
  intro z10 ez10
  have vz10 := hV.1.iv hs_h (by decide) rfl 12 0 4096 rfl ez10
  have wz10 : z10.toInt = (sI κ8.1 h 12).toInt := by rw [ez10]
  refine ⟨(hV.mm hs_h (by decide) rfl), ?_⟩
  intro z11 ez11
  have vz11 := hV.1.iv hs_h (by decide) rfl 13 0 1024 rfl ez11
  have wz11 : z11.toInt = (sI κ8.1 h 13).toInt := by rw [ez11]
  intro z12 ez12
  try have hz12 := i_add ez12 (by omega) (by omega)
  have rg_z12 := i_range z12
  intro z14 mz14
  have rg_z14 := i_range z14
  refine ⟨(hV.mm hs_h (by decide) rfl), ?_⟩
  intro κ15 eκ15
  have rv_κ15 := i_range z14
  have hV := hV.uI (k := 11) (v := z14) hs_h (Or.inl rfl) (Or.inl (by decide)) (Or.inl (by decide)) (fun _ => (by omega : (-2147483648 : Int) ≤ (z14 : Int32).toInt ∧ (z14 : Int32).toInt ≤ 2147483647)) eκ15
  have uκ15 : (sI κ15.1 h 11).toInt = (z14 : Int32).toInt := by rw [eκ15]; exact congrArg Int32.toInt u2_same
  have f1κ15 : CF [(4, 11)] W κ8 κ15 := CF.rf.uI (k := 11) hs_h (by decide) (show ((4, 11) : Nat × Nat) ∈ ([(4, 11)] : List (Nat × Nat)) by simp) eκ15
  have tk2 : (sI κ15.1 h 13).toInt = (sI κ8.1 h 13).toInt := by rw [(f1κ15.1 h (by rw [hs_h]; decide) 13 (by rw [hs_h]; decide)).1]
  have hfr := hfr.trW hx f1κ15 (by decide)
  refine ⟨(hV.mm hs_h (by decide) rfl), ?_⟩
  intro z16 ez16
  obtain ⟨bz16, ebz16, hsz16⟩ := hV.1.nn hs_h (by decide) rfl 14 rfl (by decide)
  have pk_z16 := ebz16
  have ebz16 := ez16.trans ebz16
  refine ⟨(W.2 bz16), (AL.of hV ebz16 hsz16 (by decide) rfl (by decide)), ?_⟩
  intro z17 ez17
  have lnz17 := nI_ln ez17 (hV.lm hsz16 (by decide) rfl)
  have lmz17 := (hV.lm hsz16 (by decide) rfl)
  refine ⟨(hV.mm hs_h (by decide) rfl), ?_⟩
  intro z18 ez18
  have vz18 := hV.1.iv hs_h (by decide) rfl 13 0 1024 rfl ez18
  have wz18 : z18.toInt = (sI κ15.1 h 13).toInt := by rw [ez18]
  refine jc_dup ?_
  refine ⟨fun c1 => ?_, fun c1 => ?_⟩
  · (try dsimp only)
    refine lc_in (fun (x : Int32) (κ' : CS) => ∃ W' : CW, WLe W W' ∧ WX W0 W' κ ∧ CV G E W' (c - 0) κ' ∧ CF [(20, 0), (4, 11), (4, 12), (4, 13), (4, 14)] W0 κ κ' ∧ (((0 ≤ x.toInt))) ∧ (∃ b, sP κ'.1 h 14 = some b ∧ W'.1 b = 20 ∧ ((sI κ'.1 h 13).toInt ≤ (W'.2 b : Int)))) (fun (x : Int32) (κ' : CS) => (2147483647 - x.toInt).toNat) ⟨W, WLe.rf, hx, hV.dn (by (try dsimp only); omega), hfr, (by (try dsimp only); omega), ⟨bz16, pk_z16, hsz16, (by (try dsimp only); omega)⟩⟩ (fun x24 κ25 hJ K26 hK26 => ?_)
    obtain ⟨W, le70, hx, hV, hfr, hv⟩ := hJ
    have hs_h := WLe.at le70 hs_h (by decide)
    have hs_a1 := WLe.at le70 hs_a1 (by decide)
    have wl_bz16 := (le70 bz16 (by rw [hsz16]; decide)).2
    have hsz16 := WLe.at le70 hsz16 (by decide)
    (try dsimp only at hv)
    obtain ⟨hv, ⟨bk70_0, ek70_0, wk70_0, xk70_0⟩⟩ := hv
    (try dsimp only at hv)
    (try dsimp only at xk70_0)
    have rg_x24 := i_range x24
    refine ⟨(hV.mm hs_h (by decide) rfl), ?_⟩
    intro z28 ez28
    have vz28 := hV.1.iv hs_h (by decide) rfl 13 0 1024 rfl ez28
    have wz28 : z28.toInt = (sI κ25.1 h 13).toInt := by rw [ez28]
    refine ⟨fun c2 => ?_, fun c2 => ?_⟩
    · exact kk W κ25 hx (hV.dn (by omega)) hfr trivial
    · refine ⟨(hV.mm hs_h (by decide) rfl), ?_⟩
      intro z29 ez29
      have ebz29 : z29 = some bk70_0 := ez29.trans ek70_0
      intro z30 ez30
      try have hz30 := i_add ez30 (by omega) (by omega)
      have rg_z30 := i_range z30
      refine ⟨b_a1, e_a1, (hV.mm hs_a1 (by decide) rfl), ?_⟩
      refine t2_X0_number hV b_a1 hs_a1 z30 1  (by decide) (fun z32 pz32 => ?_)
      have rg_z32 := l_range z32
      intro z33 ez33
      try have hz33 := l_toi ez33 (by omega) (by omega)
      have rg_z33 := i_range z33
      intro z34 ez34
      have hz34 := i_b8 ez34
      have rg_z34 := i_range z34
      have ln_ := hV.ln wk70_0 (by decide) rfl
      refine ⟨bk70_0, ebz29, (hV.mm wk70_0 (by decide) rfl), by omega, ?_⟩
      intro κ35 eκ35
      have hV := hV.uI (k := x24.toInt.toNat) (v := (vp_nar .byte z34)) wk70_0 (Or.inl rfl) (Or.inl (by decide)) (Or.inl (by decide)) (fun _ => (i_byte _)) eκ35
      have f1κ35 : CF [(20, 0)] W κ25 κ35 := CF.rf.uI (k := x24.toInt.toNat) wk70_0 (by decide) (show ((20, 0) : Nat × Nat) ∈ ([(20, 0)] : List (Nat × Nat)) by simp) eκ35
      have tk3 : (sI κ35.1 h 13).toInt = (sI κ25.1 h 13).toInt := by rw [(f1κ35.1 h (by rw [hs_h]; decide) 13 (by rw [hs_h]; decide)).1]
      have pk4 := (f1κ35.1 h (by rw [hs_h]; decide) 14 (by rw [hs_h]; decide)).2.2.trans ek70_0
      have hfr := hfr.trW hx f1κ35 (by decide)
      intro z36 ez36
      try have hz36 := i_add ez36 (by omega) (by omega)
      have rg_z36 := i_range z36
      exact hK26 z36 κ35 ⟨W, le70, hx, hV.dn (by (try dsimp only); omega), hfr, (by (try dsimp only); omega), ⟨bk70_0, pk4, wk70_0, (by (try dsimp only); omega)⟩⟩ (by (try dsimp only); omega)
  · refine ⟨(hV.mm hs_h (by decide) rfl), ?_⟩
    intro z37 ez37
    have vz37 := hV.1.iv hs_h (by decide) rfl 13 0 1024 rfl ez37
    have wz37 : z37.toInt = (sI κ15.1 h 13).toInt := by rw [ez37]
    have hbd_ := hV.bud
    refine ⟨by omega, by omega, ?_⟩
    intro o38 hn_o38 κ39 eκ39
    obtain ⟨W, x1_, hV, hs_o38, wn_o38, f1κ39⟩ := hV.mkA (M := []) (r := 20) (n := z37.toInt.toNat) hn_o38 rfl rfl (Or.inl rfl) (by omega) (fun h => absurd h (by decide)) (by decide) (Or.inl rfl) (by omega) eκ39
    have tk5 : (sI κ39.1 h 13).toInt = (sI κ15.1 h 13).toInt := by rw [(f1κ39.1 h (by rw [hs_h]; decide) 13 (by rw [hs_h]; decide)).1]
    have pk6 := (f1κ39.1 h (by rw [hs_h]; decide) 14 (by rw [hs_h]; decide)).2.2.trans pk_z16
    have hx2 := hx.tr x1_ hfr.sl
    have hfr := hfr.trW hx f1κ39 (by decide)
    have hs_h := WLe.at (x1_).1 hs_h (by decide)
    have hs_a1 := WLe.at (x1_).1 hs_a1 (by decide)
    have wl_bz16 := ((x1_).1 bz16 (by rw [hsz16]; decide)).2
    have hsz16 := WLe.at (x1_).1 hsz16 (by decide)
    have hx := hx2
    have hV : CV G E W (c - 1036) κ39 := hV.dn (by omega)
    refine ⟨(hV.mm hs_h (by decide) rfl), ?_⟩
    intro κ40 eκ40
    have hV := hV.uP (k := 14) (v := (some o38)) hs_h rfl (Or.inl (by decide)) (by decide) (by decide) (fun _ => (Or.inr (Or.inr (Or.inr ⟨o38, rfl, hs_o38⟩)))) eκ40
    have f1κ40 : CF [(4, 14)] W κ39 κ40 := CF.rf.uP (k := 14) hs_h (by decide) (show ((4, 14) : Nat × Nat) ∈ ([(4, 14)] : List (Nat × Nat)) by simp) eκ40
    have tk7 : (sI κ40.1 h 13).toInt = (sI κ39.1 h 13).toInt := by rw [(f1κ40.1 h (by rw [hs_h]; decide) 13 (by rw [hs_h]; decide)).1]
    have hfr := hfr.trW hx f1κ40 (by decide)
    have pk_κ40 : sP κ40.1 h 14 = some o38 := by rw [eκ40]; first | exact u2_same | exact u2_same.trans rfl
    (try dsimp only)
    refine lc_in (fun (x : Int32) (κ' : CS) => ∃ W' : CW, WLe W W' ∧ WX W0 W' κ ∧ CV G E W' (c - 1036) κ' ∧ CF [(20, 0), (4, 11), (4, 12), (4, 13), (4, 14)] W0 κ κ' ∧ (((0 ≤ x.toInt))) ∧ (∃ b, sP κ'.1 h 14 = some b ∧ W'.1 b = 20 ∧ ((sI κ'.1 h 13).toInt ≤ (W'.2 b : Int)))) (fun (x : Int32) (κ' : CS) => (2147483647 - x.toInt).toNat) ⟨W, WLe.rf, hx, hV.dn (by (try dsimp only); omega), hfr, (by (try dsimp only); omega), ⟨o38, pk_κ40, hs_o38, (by (try dsimp only); omega)⟩⟩ (fun x24 κ25 hJ K26 hK26 => ?_)
    obtain ⟨W, le70, hx, hV, hfr, hv⟩ := hJ
    have hs_h := WLe.at le70 hs_h (by decide)
    have hs_a1 := WLe.at le70 hs_a1 (by decide)
    have wl_bz16 := (le70 bz16 (by rw [hsz16]; decide)).2
    have hsz16 := WLe.at le70 hsz16 (by decide)
    have wl_o38 := (le70 o38 (by rw [hs_o38]; decide)).2
    have hs_o38 := WLe.at le70 hs_o38 (by decide)
    (try dsimp only at hv)
    obtain ⟨hv, ⟨bk70_0, ek70_0, wk70_0, xk70_0⟩⟩ := hv
    (try dsimp only at hv)
    (try dsimp only at xk70_0)
    have rg_x24 := i_range x24
    refine ⟨(hV.mm hs_h (by decide) rfl), ?_⟩
    intro z28 ez28
    have vz28 := hV.1.iv hs_h (by decide) rfl 13 0 1024 rfl ez28
    have wz28 : z28.toInt = (sI κ25.1 h 13).toInt := by rw [ez28]
    refine ⟨fun c3 => ?_, fun c3 => ?_⟩
    · exact kk W κ25 hx (hV.dn (by omega)) hfr trivial
    · refine ⟨(hV.mm hs_h (by decide) rfl), ?_⟩
      intro z29 ez29
      have ebz29 : z29 = some bk70_0 := ez29.trans ek70_0
      intro z30 ez30
      try have hz30 := i_add ez30 (by omega) (by omega)
      have rg_z30 := i_range z30
      refine ⟨b_a1, e_a1, (hV.mm hs_a1 (by decide) rfl), ?_⟩
      refine t2_X0_number hV b_a1 hs_a1 z30 1  (by decide) (fun z32 pz32 => ?_)
      have rg_z32 := l_range z32
      intro z33 ez33
      try have hz33 := l_toi ez33 (by omega) (by omega)
      have rg_z33 := i_range z33
      intro z34 ez34
      have hz34 := i_b8 ez34
      have rg_z34 := i_range z34
      have ln_ := hV.ln wk70_0 (by decide) rfl
      refine ⟨bk70_0, ebz29, (hV.mm wk70_0 (by decide) rfl), by omega, ?_⟩
      intro κ35 eκ35
      have hV := hV.uI (k := x24.toInt.toNat) (v := (vp_nar .byte z34)) wk70_0 (Or.inl rfl) (Or.inl (by decide)) (Or.inl (by decide)) (fun _ => (i_byte _)) eκ35
      have f1κ35 : CF [(20, 0)] W κ25 κ35 := CF.rf.uI (k := x24.toInt.toNat) wk70_0 (by decide) (show ((20, 0) : Nat × Nat) ∈ ([(20, 0)] : List (Nat × Nat)) by simp) eκ35
      have tk8 : (sI κ35.1 h 13).toInt = (sI κ25.1 h 13).toInt := by rw [(f1κ35.1 h (by rw [hs_h]; decide) 13 (by rw [hs_h]; decide)).1]
      have pk9 := (f1κ35.1 h (by rw [hs_h]; decide) 14 (by rw [hs_h]; decide)).2.2.trans ek70_0
      have hfr := hfr.trW hx f1κ35 (by decide)
      intro z36 ez36
      try have hz36 := i_add ez36 (by omega) (by omega)
      have rg_z36 := i_range z36
      exact hK26 z36 κ35 ⟨W, le70, hx, hV.dn (by (try dsimp only); omega), hfr, (by (try dsimp only); omega), ⟨bk70_0, pk9, wk70_0, (by (try dsimp only); omega)⟩⟩ (by (try dsimp only); omega)

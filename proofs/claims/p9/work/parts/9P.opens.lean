/-! the class: answers that go, opens, who waits -/
set_option maxRecDepth 100000 in
set_option maxHeartbeats 4000000 in
theorem t62b_X6_begin {G : GE} {E : CE} {W0 : CW} {c : Int} {κ : CS} (hV : CV G E W0 c κ) (h : Nat) (hs_h : W0.1 h = 62) (a1 : Int32) (hz : a1.toInt ≤ 0) (hc : 0 ≤ c) {post : CS → Prop} (kk : ∀ (W' : CW) (κ' : CS), WX W0 W' κ → CV G E W' (c - 0) κ' → CF [(20, 0), (62, 0), (62, 1)] W0 κ κ' → ((sI κ'.1 h 1).toInt = 0) → post κ') : F_X6_begin G h a1 post κ := by
  have hs0_h := hs_h
  suffices H_ : ∀ W : CW, WX W0 W κ → CV G E W (c - 0) κ → (W.1 h = 62) → F_X6_begin G h a1 post κ from H_ W0 WX.rf (hV.dn (by omega)) hs_h
  intro W hx hV hs_h
  unfold F_X6_begin
  have hfr : CF [(20, 0), (62, 0), (62, 1)] W0 κ κ := CF.rf
  have k_0 : (0 : Int32).toInt = 0 := rfl
  have k_64 : (64 : Int32).toInt = 64 := rfl
  have kl_0 : (0 : Int64).toInt = 0 := rfl
  have kl_64 : (64 : Int64).toInt = 64 := rfl
  have rg_a1 := i_range a1
  intro z2 mz2
  have rg_z2 := i_range z2
  refine ⟨(hV.mm hs_h (by decide) rfl), ?_⟩
  intro z3 ez3
  obtain ⟨bz3, ebz3, hsz3⟩ := hV.1.nn hs_h (by decide) rfl 0 rfl (by decide)
  have pk_z3 := ebz3
  have ebz3 := ez3.trans ebz3
  refine ⟨(W.2 bz3), (AL.of hV ebz3 hsz3 (by decide) rfl (by decide)), ?_⟩
  intro z4 ez4
  have lnz4 := nI_ln ez4 (hV.lm hsz3 (by decide) rfl)
  have lmz4 := (hV.lm hsz3 (by decide) rfl)
  refine jc_dup ?_
  refine ⟨fun c1 => ?_, fun c1 => ?_⟩
  · (try dsimp only)
    refine ⟨(hV.mm hs_h (by decide) rfl), ?_⟩
    intro z10 ez10
    have ebz10 : z10 = some bz3 := (ez10.trans ez3.symm).trans ebz3
    refine t_J7_fill_eb02e hV z10 bz3 ebz10 hsz3 0 z2 0 (by omega) (fun κ11 hV fκ11 pu1 => ?_)
    have pk1 := (fκ11.1 h (by rw [hs_h]; decide) 0 (by rw [hs_h]; decide)).2.2.trans pk_z3
    have hfr := hfr.trW hx fκ11 (by decide)
    refine ⟨(hV.mm hs_h (by decide) rfl), ?_⟩
    intro κ13 eκ13
    have roκ13 := hV.2.1 h (by rw [hs_h]; rfl) bz3 pk1
    have hV := hV.uRL hs_h rfl pk1 (by show 0 ≤ (z2 : Int32).toInt ∧ (z2 : Int32).toInt ≤ 80000; omega) (by omega) eκ13
    have uκ13 : (sI κ13.1 h 1).toInt = (z2 : Int32).toInt := by rw [eκ13]; exact congrArg Int32.toInt u2_same
    have f1κ13 : CF [(62, 1)] W κ11 κ13 := CF.rf.uI (k := 1) hs_h (by decide) (show ((62, 1) : Nat × Nat) ∈ ([(62, 1)] : List (Nat × Nat)) by simp) eκ13
    have pk2 := (f1κ13.1 h (by rw [hs_h]; decide) 0 (by rw [hs_h]; decide)).2.2.trans pk1
    have hfr := hfr.trW hx f1κ13 (by decide)
    exact kk W κ13 hx (hV.dn (by omega)) hfr (by omega)
  · intro z14 ez14
    try have hz14 := i_add ez14 (by omega) (by omega)
    have rg_z14 := i_range z14
    have pr_ : ((3 * (160000 - W.2 bz3) : Nat) : Int) + (c - 0) ≤ κ.2 := hV.potR (by omega) hs_h rfl pk_z3
    have ro_ := hV.2.1 h (by rw [hs_h]; rfl) bz3 pk_z3
    refine ⟨by omega, by omega, ?_⟩
    intro o15 hn_o15 κ16 eκ16
    obtain ⟨W, x1_, hV, hs_o15, wn_o15, f1κ16⟩ := hV.mkA (M := []) (r := 20) (n := z14.toInt.toNat) hn_o15 rfl rfl (Or.inl rfl) (by omega) (fun h => absurd h (by decide)) (by decide) (Or.inl rfl) (by omega) eκ16
    have pk3 := (f1κ16.1 h (by rw [hs_h]; decide) 0 (by rw [hs_h]; decide)).2.2.trans pk_z3
    have hx2 := hx.tr x1_ hfr.sl
    have hfr := hfr.trW hx f1κ16 (by decide)
    have hs_h := WLe.at (x1_).1 hs_h (by decide)
    have wl_bz3 := ((x1_).1 bz3 (by rw [hsz3]; decide)).2
    have hsz3 := WLe.at (x1_).1 hsz3 (by decide)
    have hx := hx2
    refine ⟨(hV.mm hs_h (by decide) rfl), ?_⟩
    intro κ17 eκ17
    have ro_ := hV.2.1 h (by rw [hs_h]; rfl) bz3 pk3
    have hV := hV.uRB (d := 3 * (W.2 o15 - W.2 bz3)) hs_h rfl pk3 hs_o15 (by omega) (by omega) (by show W.2 o15 ≤ 160000; omega) (by show _ + 3 * (160000 - W.2 o15) ≤ 3 * (160000 - W.2 bz3); omega) eκ17
    have hV : CV G E W (c - 0) κ17 := hV.dn (by omega)
    have f1κ17 : CF [(62, 0)] W κ16 κ17 := CF.rf.uP (k := 0) hs_h (by decide) (show ((62, 0) : Nat × Nat) ∈ ([(62, 0)] : List (Nat × Nat)) by simp) eκ17
    have hfr := hfr.trW hx f1κ17 (by decide)
    have pk_κ17 : sP κ17.1 h 0 = some o15 := by rw [eκ17]; first | exact u2_same | exact u2_same.trans rfl
    (try dsimp only)
    refine ⟨(hV.mm hs_h (by decide) rfl), ?_⟩
    intro z10 ez10
    have ebz10 : z10 = some o15 := ez10.trans pk_κ17
    refine t_J7_fill_eb02e hV z10 o15 ebz10 hs_o15 0 z2 0 (by omega) (fun κ11 hV fκ11 pu2 => ?_)
    have pk4 := (fκ11.1 h (by rw [hs_h]; decide) 0 (by rw [hs_h]; decide)).2.2.trans pk_κ17
    have hfr := hfr.trW hx fκ11 (by decide)
    refine ⟨(hV.mm hs_h (by decide) rfl), ?_⟩
    intro κ13 eκ13
    have roκ13 := hV.2.1 h (by rw [hs_h]; rfl) o15 pk4
    have hV := hV.uRL hs_h rfl pk4 (by show 0 ≤ (z2 : Int32).toInt ∧ (z2 : Int32).toInt ≤ 80000; omega) (by omega) eκ13
    have uκ13 : (sI κ13.1 h 1).toInt = (z2 : Int32).toInt := by rw [eκ13]; exact congrArg Int32.toInt u2_same
    have f1κ13 : CF [(62, 1)] W κ11 κ13 := CF.rf.uI (k := 1) hs_h (by decide) (show ((62, 1) : Nat × Nat) ∈ ([(62, 1)] : List (Nat × Nat)) by simp) eκ13
    have pk5 := (f1κ13.1 h (by rw [hs_h]; decide) 0 (by rw [hs_h]; decide)).2.2.trans pk4
    have hfr := hfr.trW hx f1κ13 (by decide)
    exact kk W κ13 hx (hV.dn (by omega)) hfr (by omega)
set_option maxRecDepth 100000 in
set_option maxHeartbeats 4000000 in
theorem t_X11_seal {G : GE} {E : CE} {W0 : CW} {c : Int} {κ : CS} (hV : CV G E W0 c κ) (h : Nat) (hs_h : W0.1 h = 1) (a1 : Option Nat) (b_a1 : Nat) (e_a1 : a1 = some b_a1) (hs_a1 : W0.1 b_a1 = 61) (a2 : Option Nat) (b_a2 : Nat) (e_a2 : a2 = some b_a2) (hs_a2 : W0.1 b_a2 = 8) (a3 : Int32) (a4 : Int32)  (hc : 0 ≤ c) {post : CS → Prop} (kk : ∀ (W' : CW) (κ' : CS), WX W0 W' κ → CV G E W' (c - 0) κ' → CF [(20, 0), (61, 0), (61, 1)] W0 κ κ' → (True) → post κ') : F_X11_seal G h a1 a2 a3 a4 post κ := by
  have hs0_h := hs_h
  have hs0_a1 := hs_a1
  have hs0_a2 := hs_a2
  suffices H_ : ∀ W : CW, WX W0 W κ → CV G E W (c - 0) κ → (W.1 h = 1) → (W.1 b_a1 = 61) → (W.1 b_a2 = 8) → F_X11_seal G h a1 a2 a3 a4 post κ from H_ W0 WX.rf (hV.dn (by omega)) hs_h hs_a1 hs_a2
  intro W hx hV hs_h hs_a1 hs_a2
  unfold F_X11_seal
  have hfr : CF [(20, 0), (61, 0), (61, 1)] W0 κ κ := CF.rf
  have k_0 : (0 : Int32).toInt = 0 := rfl
  have k_1 : (1 : Int32).toInt = 1 := rfl
  have k_2 : (2 : Int32).toInt = 2 := rfl
  have k_4 : (4 : Int32).toInt = 4 := rfl
  have k_6 : (6 : Int32).toInt = 6 := rfl
  have k_8 : (8 : Int32).toInt = 8 := rfl
  have k_9 : (9 : Int32).toInt = 9 := rfl
  have k_12 : (12 : Int32).toInt = 12 := rfl
  have k_14 : (14 : Int32).toInt = 14 := rfl
  have k_16 : (16 : Int32).toInt = 16 := rfl
  have k_24 : (24 : Int32).toInt = 24 := rfl
  have k_32 : (32 : Int32).toInt = 32 := rfl
  have k_36 : (36 : Int32).toInt = 36 := rfl
  have k_40 : (40 : Int32).toInt = 40 := rfl
  have k_64 : (64 : Int32).toInt = 64 := rfl
  have k_73 : (73 : Int32).toInt = 73 := rfl
  have k_1112364030 : (1112364030 : Int32).toInt = 1112364030 := rfl
  have kl_0 : (0 : Int64).toInt = 0 := rfl
  have kl_1 : (1 : Int64).toInt = 1 := rfl
  have kl_2 : (2 : Int64).toInt = 2 := rfl
  have kl_4 : (4 : Int64).toInt = 4 := rfl
  have kl_6 : (6 : Int64).toInt = 6 := rfl
  have kl_8 : (8 : Int64).toInt = 8 := rfl
  have kl_9 : (9 : Int64).toInt = 9 := rfl
  have kl_12 : (12 : Int64).toInt = 12 := rfl
  have kl_14 : (14 : Int64).toInt = 14 := rfl
  have kl_16 : (16 : Int64).toInt = 16 := rfl
  have kl_24 : (24 : Int64).toInt = 24 := rfl
  have kl_32 : (32 : Int64).toInt = 32 := rfl
  have kl_36 : (36 : Int64).toInt = 36 := rfl
  have kl_40 : (40 : Int64).toInt = 40 := rfl
  have kl_64 : (64 : Int64).toInt = 64 := rfl
  have kl_73 : (73 : Int64).toInt = 73 := rfl
  have kl_1112364030 : (1112364030 : Int64).toInt = 1112364030 := rfl
  have rg_a3 := i_range a3
  have rg_a4 := i_range a4
  refine jc_in (fun (x : Unit) (κ' : CS) => ∃ W' : CW, WLe W W' ∧ WX W0 W' κ ∧ CV G E W' (c - 0) κ' ∧ CF [(20, 0), (61, 0), (61, 1)] W0 κ κ' ∧ ((True))) (fun x1 κ2 hJ => ?_) (fun K3 hK3 => ?_)
  · obtain ⟨W, le20, hx, hV, hfr, hv⟩ := hJ
    have hs_h := WLe.at le20 hs_h (by decide)
    have hs_a1 := WLe.at le20 hs_a1 (by decide)
    have hs_a2 := WLe.at le20 hs_a2 (by decide)
    (try dsimp only at hv)
    refine ⟨b_a2, e_a2, (hV.mm hs_a2 (by decide) rfl), ?_⟩
    refine t_X0_related hV b_a2 hs_a2  (fun z7 pz7 => ?_)
    have rg_z7 := i_range z7
    refine jc_in (fun (x : Int32) (κ' : CS) => κ2 = κ' ∧ ((True))) (fun x8 κ9 hJ => ?_) (fun K10 hK10 => ?_)
    · obtain ⟨hsg, hv⟩ := hJ
      subst hsg
      (try dsimp only at hv)
      have rg_x8 := i_range x8
      intro z13 ez13
      try have hz13 := i_orm ez13 (by omega) (by omega)
      try have h2z13 := i_or ez13 (by omega) (by omega)
      have rg_z13 := i_range z13
      refine ⟨b_a2, e_a2, (hV.mm hs_a2 (by decide) rfl), ?_⟩
      intro z14 ez14
      have vz14 := l_range z14
      have wz14 : z14.toInt = (sJ κ2.1 b_a2 16).toInt := by rw [ez14]
      refine jc_in (fun (x : Int32) (κ' : CS) => κ2 = κ' ∧ ((True))) (fun x15 κ16 hJ => ?_) (fun K17 hK17 => ?_)
      · obtain ⟨hsg, hv⟩ := hJ
        subst hsg
        (try dsimp only at hv)
        have rg_x15 := i_range x15
        intro z20 ez20
        try have hz20 := i_orm ez20 (by omega) (by omega)
        try have h2z20 := i_or ez20 (by omega) (by omega)
        have rg_z20 := i_range z20
        refine ⟨b_a1, e_a1, (hV.mm hs_a1 (by decide) rfl), ?_⟩
        refine t_X6_put hV b_a1 hs_a1 rfl 0 4 1112364030  (fun κ21 hV fκ21 pu2 => ?_)
        have hfr := hfr.trW hx fκ21 (by decide)
        refine ⟨b_a1, e_a1, (hV.mm hs_a1 (by decide) rfl), ?_⟩
        refine t_X6_put hV b_a1 hs_a1 rfl 4 2 64  (fun κ23 hV fκ23 pu3 => ?_)
        have hfr := hfr.trW hx fκ23 (by decide)
        refine ⟨b_a2, e_a2, (hV.mm hs_a2 (by decide) rfl), ?_⟩
        intro z25 ez25
        have vz25 := hV.1.iv hs_a2 (by decide) rfl 4 (-2147483648) 2147483647 rfl ez25
        have wz25 : z25.toInt = (sI κ23.1 b_a2 4).toInt := by rw [ez25]
        have w0z25 : z25.toInt = (sI κ.1 b_a2 4).toInt := by rw [ez25, (hfr.1 b_a2 (by rw [hs0_a2]; decide) 4 (by rw [hs0_a2]; decide)).1]
        intro z26 ez26
        have hz26 := i_tol ez26
        have rg_z26 := l_range z26
        refine ⟨b_a1, e_a1, (hV.mm hs_a1 (by decide) rfl), ?_⟩
        refine t_X6_put hV b_a1 hs_a1 rfl 6 2 z26  (fun κ27 hV fκ27 pu4 => ?_)
        have hfr := hfr.trW hx fκ27 (by decide)
        intro z29 ez29
        have hz29 := i_tol ez29
        have rg_z29 := l_range z29
        refine ⟨b_a1, e_a1, (hV.mm hs_a1 (by decide) rfl), ?_⟩
        refine t_X6_put hV b_a1 hs_a1 rfl 8 4 z29  (fun κ30 hV fκ30 pu5 => ?_)
        have hfr := hfr.trW hx fκ30 (by decide)
        refine ⟨b_a2, e_a2, (hV.mm hs_a2 (by decide) rfl), ?_⟩
        intro z32 ez32
        have vz32 := hV.1.iv hs_a2 (by decide) rfl 5 (-2147483648) 2147483647 rfl ez32
        have wz32 : z32.toInt = (sI κ30.1 b_a2 5).toInt := by rw [ez32]
        have w0z32 : z32.toInt = (sI κ.1 b_a2 5).toInt := by rw [ez32, (hfr.1 b_a2 (by rw [hs0_a2]; decide) 5 (by rw [hs0_a2]; decide)).1]
        intro z33 ez33
        have hz33 := i_tol ez33
        have rg_z33 := l_range z33
        refine ⟨b_a1, e_a1, (hV.mm hs_a1 (by decide) rfl), ?_⟩
        refine t_X6_put hV b_a1 hs_a1 rfl 12 2 z33  (fun κ34 hV fκ34 pu6 => ?_)
        have hfr := hfr.trW hx fκ34 (by decide)
        intro z36 ez36
        have hz36 := i_tol ez36
        have rg_z36 := l_range z36
        refine ⟨b_a1, e_a1, (hV.mm hs_a1 (by decide) rfl), ?_⟩
        refine t_X6_put hV b_a1 hs_a1 rfl 14 2 z36  (fun κ37 hV fκ37 pu7 => ?_)
        have hfr := hfr.trW hx fκ37 (by decide)
        intro z39 ez39
        have hz39 := i_tol ez39
        have rg_z39 := l_range z39
        refine ⟨b_a1, e_a1, (hV.mm hs_a1 (by decide) rfl), ?_⟩
        refine t_X6_put hV b_a1 hs_a1 rfl 16 4 z39  (fun κ40 hV fκ40 pu8 => ?_)
        have hfr := hfr.trW hx fκ40 (by decide)
        refine ⟨b_a2, e_a2, (hV.mm hs_a2 (by decide) rfl), ?_⟩
        intro z42 ez42
        have vz42 := l_range z42
        have wz42 : z42.toInt = (sJ κ40.1 b_a2 8).toInt := by rw [ez42]
        refine ⟨b_a1, e_a1, (hV.mm hs_a1 (by decide) rfl), ?_⟩
        refine t_X6_put hV b_a1 hs_a1 rfl 24 8 z42  (fun κ43 hV fκ43 pu9 => ?_)
        have hfr := hfr.trW hx fκ43 (by decide)
        refine ⟨b_a2, e_a2, (hV.mm hs_a2 (by decide) rfl), ?_⟩
        intro z45 ez45
        have vz45 := l_range z45
        have wz45 : z45.toInt = (sJ κ43.1 b_a2 16).toInt := by rw [ez45]
        refine jc_dup ?_
        refine ⟨fun c1 => ?_, fun c1 => ?_⟩
        · refine ⟨b_a2, e_a2, (hV.mm hs_a2 (by decide) rfl), ?_⟩
          intro z54 ez54
          have vz54 := l_range z54
          have wz54 : z54.toInt = (sJ κ43.1 b_a2 9).toInt := by rw [ez54]
          refine ⟨b_a1, e_a1, (hV.mm hs_a1 (by decide) rfl), ?_⟩
          refine t_X6_put hV b_a1 hs_a1 rfl 32 4 z54  (fun κ55 hV fκ55 pu10 => ?_)
          have hfr := hfr.trW hx fκ55 (by decide)
          refine ⟨b_a2, e_a2, (hV.mm hs_a2 (by decide) rfl), ?_⟩
          intro z57 ez57
          have vz57 := l_range z57
          have wz57 : z57.toInt = (sJ κ55.1 b_a2 10).toInt := by rw [ez57]
          refine ⟨b_a1, e_a1, (hV.mm hs_a1 (by decide) rfl), ?_⟩
          refine t_X6_put hV b_a1 hs_a1 rfl 36 4 z57  (fun κ58 hV fκ58 pu11 => ?_)
          have hfr := hfr.trW hx fκ58 (by decide)
          (try dsimp only)
          refine ⟨b_a2, e_a2, (hV.mm hs_a2 (by decide) rfl), ?_⟩
          intro z51 ez51
          have vz51 := l_range z51
          have wz51 : z51.toInt = (sJ κ58.1 b_a2 11).toInt := by rw [ez51]
          refine ⟨b_a1, e_a1, (hV.mm hs_a1 (by decide) rfl), ?_⟩
          refine t_X6_put hV b_a1 hs_a1 rfl 40 8 z51  (fun κ52 hV fκ52 pu12 => ?_)
          have hfr := hfr.trW hx fκ52 (by decide)
          exact kk W κ52 hx (hV.dn (by omega)) hfr trivial
        · refine ⟨b_a2, e_a2, (hV.mm hs_a2 (by decide) rfl), ?_⟩
          intro z60 ez60
          have vz60 := l_range z60
          have wz60 : z60.toInt = (sJ κ43.1 b_a2 16).toInt := by rw [ez60]
          refine ⟨b_a1, e_a1, (hV.mm hs_a1 (by decide) rfl), ?_⟩
          refine t_X6_put hV b_a1 hs_a1 rfl 32 8 z60  (fun κ61 hV fκ61 pu13 => ?_)
          have hfr := hfr.trW hx fκ61 (by decide)
          (try dsimp only)
          refine ⟨b_a2, e_a2, (hV.mm hs_a2 (by decide) rfl), ?_⟩
          intro z51 ez51
          have vz51 := l_range z51
          have wz51 : z51.toInt = (sJ κ61.1 b_a2 11).toInt := by rw [ez51]
          refine ⟨b_a1, e_a1, (hV.mm hs_a1 (by decide) rfl), ?_⟩
          refine t_X6_put hV b_a1 hs_a1 rfl 40 8 z51  (fun κ52 hV fκ52 pu14 => ?_)
          have hfr := hfr.trW hx fκ52 (by decide)
          exact kk W κ52 hx (hV.dn (by omega)) hfr trivial
      · skip
        refine ⟨fun c2 => ?_, fun c2 => ?_⟩
        · exact hK17 0 κ2 ⟨rfl, trivial⟩
        · exact hK17 2 κ2 ⟨rfl, trivial⟩
    · skip
      refine ⟨fun c3 => ?_, fun c3 => ?_⟩
      · exact hK10 0 κ2 ⟨rfl, trivial⟩
      · exact hK10 4 κ2 ⟨rfl, trivial⟩
  · skip
    have le20 : WLe W W := WLe.rf
    refine ⟨fun c4 => ?_, fun c4 => ?_⟩
    · exact hK3 () κ ⟨W, le20, hx, hV.dn (by (try dsimp only); omega), hfr, trivial⟩
    · refine ⟨b_a1, e_a1, (hV.mm hs_a1 (by decide) rfl), ?_⟩
      refine t_X6_begin hV b_a1 hs_a1 73 (by omega) (by omega) (fun W κ63 x1_ hV fκ63 pu15 => ?_)
      have hV : CV G E W (c - 0) κ63 := hV.dn (by omega)
      have hx2 := hx.tr x1_ hfr.sl
      have hfr := hfr.trW hx fκ63 (by decide)
      have hs_h := WLe.at (x1_).1 hs_h (by decide)
      have hs_a1 := WLe.at (x1_).1 hs_a1 (by decide)
      have hs_a2 := WLe.at (x1_).1 hs_a2 (by decide)
      have le20 := WLe.tr le20 (x1_).1
      have hx := hx2
      refine ⟨b_a1, e_a1, (hV.mm hs_a1 (by decide) rfl), ?_⟩
      refine t_X6_put hV b_a1 hs_a1 rfl 64 2 9  (fun κ65 hV fκ65 pu16 => ?_)
      have hfr := hfr.trW hx fκ65 (by decide)
      exact hK3 () κ65 ⟨W, le20, hx, hV.dn (by (try dsimp only); omega), hfr, trivial⟩
set_option maxRecDepth 100000 in
set_option maxHeartbeats 4000000 in
theorem t_X11_sendLater {G : GE} {E : CE} {W0 : CW} {c : Int} {κ : CS} (hV : CV G E W0 c κ) (h : Nat) (hs_h : W0.1 h = 1) (a1 : Option Nat) (b_a1 : Nat) (e_a1 : a1 = some b_a1) (hs_a1 : W0.1 b_a1 = 8) (a2 : Int32)  (hc : 0 ≤ c) {post : CS → Prop} (kk : ∀ (W' : CW) (κ' : CS), WX W0 W' κ → CV G E W' (c - 0) κ' → CF [(20, 0), (61, 0), (61, 1), (63, 0), (63, 1)] W0 κ κ' → (True) → post κ') : F_X11_sendLater G h a1 a2 post κ := by
  have hs0_h := hs_h
  have hs0_a1 := hs_a1
  suffices H_ : ∀ W : CW, WX W0 W κ → CV G E W (c - 0) κ → (W.1 h = 1) → (W.1 b_a1 = 8) → F_X11_sendLater G h a1 a2 post κ from H_ W0 WX.rf (hV.dn (by omega)) hs_h hs_a1
  intro W hx hV hs_h hs_a1
  unfold F_X11_sendLater
  have hfr : CF [(20, 0), (61, 0), (61, 1), (63, 0), (63, 1)] W0 κ κ := CF.rf
  have k_0 : (0 : Int32).toInt = 0 := rfl
  have kl_0 : (0 : Int64).toInt = 0 := rfl
  have rg_a2 := i_range a2
  refine ⟨(hV.mm hs_h (by decide) rfl), ?_⟩
  intro z1 ez1
  obtain ⟨bz1, ebz1, hsz1⟩ := hV.1.nn hs_h (by decide) rfl 16 rfl (by decide)
  have ebz1 := ez1.trans ebz1
  refine ⟨(hV.mm hs_h (by decide) rfl), ?_⟩
  refine t_X11_seal hV h hs_h z1 bz1 ebz1 hsz1 a1 b_a1 e_a1 hs_a1 a2 0  (by omega) (fun W κ2 x1_ hV fκ2 pu1 => ?_)
  have hV : CV G E W (c - 0) κ2 := hV.dn (by omega)
  have hx2 := hx.tr x1_ hfr.sl
  have hfr := hfr.trW hx fκ2 (by decide)
  have hs_h := WLe.at (x1_).1 hs_h (by decide)
  have hs_a1 := WLe.at (x1_).1 hs_a1 (by decide)
  have hsz1 := WLe.at (x1_).1 hsz1 (by decide)
  have hx := hx2
  refine ⟨b_a1, e_a1, (hV.mm hs_a1 (by decide) rfl), ?_⟩
  intro z4 ez4
  obtain ⟨bz4, ebz4, hsz4⟩ := hV.1.nn hs_a1 (by decide) rfl 0 rfl (by decide)
  have ebz4 := ez4.trans ebz4
  refine ⟨(hV.mm hs_h (by decide) rfl), ?_⟩
  intro z5 ez5
  have ebz5 : z5 = some bz1 := (ez5.trans (hfr.1 h (by rw [hs0_h]; decide) 16 (by rw [hs0_h]; decide)).2.2).trans (ez1.symm.trans ebz1)
  refine ⟨bz4, ebz4, (hV.mm hsz4 (by decide) rfl), ?_⟩
  refine t61_X2_post hV bz4 hsz4 z5 bz1 ebz5 hsz1  (by omega) (fun W κ6 x1_ hV fκ6 pu2 => ?_)
  have hV : CV G E W (c - 0) κ6 := hV.dn (by omega)
  have hx2 := hx.tr x1_ hfr.sl
  have hfr := hfr.trW hx fκ6 (by decide)
  have hs_h := WLe.at (x1_).1 hs_h (by decide)
  have hs_a1 := WLe.at (x1_).1 hs_a1 (by decide)
  have hsz1 := WLe.at (x1_).1 hsz1 (by decide)
  have hsz4 := WLe.at (x1_).1 hsz4 (by decide)
  have hx := hx2
  exact kk W κ6 hx (hV.dn (by omega)) hfr trivial
set_option maxRecDepth 100000 in
set_option maxHeartbeats 4000000 in
theorem t_X11_sendBreak {G : GE} {E : CE} {W0 : CW} {c : Int} {κ : CS} (hV : CV G E W0 c κ) (h : Nat) (hs_h : W0.1 h = 1) (a1 : Option Nat) (b_a1 : Nat) (e_a1 : a1 = some b_a1) (hs_a1 : W0.1 b_a1 = 10) (a2 : Int32)  (hc : 0 ≤ c) {post : CS → Prop} (kk : ∀ (W' : CW) (κ' : CS), WX W0 W' κ → CV G E W' (c - 0) κ' → CF [(20, 0), (61, 0), (61, 1), (63, 0), (63, 1)] W0 κ κ' → (True) → post κ') : F_X11_sendBreak G h a1 a2 post κ := by
  have hs0_h := hs_h
  have hs0_a1 := hs_a1
  suffices H_ : ∀ W : CW, WX W0 W κ → CV G E W (c - 0) κ → (W.1 h = 1) → (W.1 b_a1 = 10) → F_X11_sendBreak G h a1 a2 post κ from H_ W0 WX.rf (hV.dn (by omega)) hs_h hs_a1
  intro W hx hV hs_h hs_a1
  unfold F_X11_sendBreak
  have hfr : CF [(20, 0), (61, 0), (61, 1), (63, 0), (63, 1)] W0 κ κ := CF.rf
  have k_m1 : ((-1) : Int32).toInt = (-1) := rfl
  have k_0 : (0 : Int32).toInt = 0 := rfl
  have k_1 : (1 : Int32).toInt = 1 := rfl
  have k_2 : (2 : Int32).toInt = 2 := rfl
  have k_4 : (4 : Int32).toInt = 4 := rfl
  have k_8 : (8 : Int32).toInt = 8 := rfl
  have k_12 : (12 : Int32).toInt = 12 := rfl
  have k_16 : (16 : Int32).toInt = 16 := rfl
  have k_18 : (18 : Int32).toInt = 18 := rfl
  have k_24 : (24 : Int32).toInt = 24 := rfl
  have k_64 : (64 : Int32).toInt = 64 := rfl
  have k_66 : (66 : Int32).toInt = 66 := rfl
  have k_72 : (72 : Int32).toInt = 72 := rfl
  have k_80 : (80 : Int32).toInt = 80 := rfl
  have k_88 : (88 : Int32).toInt = 88 := rfl
  have k_1112364030 : (1112364030 : Int32).toInt = 1112364030 := rfl
  have kl_m1 : ((-1) : Int64).toInt = (-1) := rfl
  have kl_0 : (0 : Int64).toInt = 0 := rfl
  have kl_1 : (1 : Int64).toInt = 1 := rfl
  have kl_2 : (2 : Int64).toInt = 2 := rfl
  have kl_4 : (4 : Int64).toInt = 4 := rfl
  have kl_8 : (8 : Int64).toInt = 8 := rfl
  have kl_12 : (12 : Int64).toInt = 12 := rfl
  have kl_16 : (16 : Int64).toInt = 16 := rfl
  have kl_18 : (18 : Int64).toInt = 18 := rfl
  have kl_24 : (24 : Int64).toInt = 24 := rfl
  have kl_64 : (64 : Int64).toInt = 64 := rfl
  have kl_66 : (66 : Int64).toInt = 66 := rfl
  have kl_72 : (72 : Int64).toInt = 72 := rfl
  have kl_80 : (80 : Int64).toInt = 80 := rfl
  have kl_88 : (88 : Int64).toInt = 88 := rfl
  have kl_1112364030 : (1112364030 : Int64).toInt = 1112364030 := rfl
  have rg_a2 := i_range a2
  refine ⟨(hV.mm hs_h (by decide) rfl), ?_⟩
  intro z1 ez1
  obtain ⟨bz1, ebz1, hsz1⟩ := hV.1.nn hs_h (by decide) rfl 17 rfl (by decide)
  have ebz1 := ez1.trans ebz1
  refine ⟨bz1, ebz1, (hV.mm hsz1 (by decide) rfl), ?_⟩
  refine t_X6_begin hV bz1 hsz1 88 (by omega) (by omega) (fun W κ2 x1_ hV fκ2 pu1 => ?_)
  have hV : CV G E W (c - 0) κ2 := hV.dn (by omega)
  have hx2 := hx.tr x1_ hfr.sl
  have hfr := hfr.trW hx fκ2 (by decide)
  have hs_h := WLe.at (x1_).1 hs_h (by decide)
  have hs_a1 := WLe.at (x1_).1 hs_a1 (by decide)
  have hsz1 := WLe.at (x1_).1 hsz1 (by decide)
  have hx := hx2
  refine ⟨(hV.mm hs_h (by decide) rfl), ?_⟩
  intro z4 ez4
  have ebz4 : z4 = some bz1 := (ez4.trans (hfr.1 h (by rw [hs0_h]; decide) 17 (by rw [hs0_h]; decide)).2.2).trans (ez1.symm.trans ebz1)
  refine ⟨bz1, ebz4, (hV.mm hsz1 (by decide) rfl), ?_⟩
  refine t_X6_put hV bz1 hsz1 rfl 0 4 1112364030  (fun κ5 hV fκ5 pu2 => ?_)
  have hfr := hfr.trW hx fκ5 (by decide)
  refine ⟨(hV.mm hs_h (by decide) rfl), ?_⟩
  intro z7 ez7
  have ebz7 : z7 = some bz1 := (ez7.trans (hfr.1 h (by rw [hs0_h]; decide) 17 (by rw [hs0_h]; decide)).2.2).trans (ez1.symm.trans ebz1)
  refine ⟨bz1, ebz7, (hV.mm hsz1 (by decide) rfl), ?_⟩
  refine t_X6_put hV bz1 hsz1 rfl 4 2 64  (fun κ8 hV fκ8 pu3 => ?_)
  have hfr := hfr.trW hx fκ8 (by decide)
  refine ⟨(hV.mm hs_h (by decide) rfl), ?_⟩
  intro z10 ez10
  have ebz10 : z10 = some bz1 := (ez10.trans (hfr.1 h (by rw [hs0_h]; decide) 17 (by rw [hs0_h]; decide)).2.2).trans (ez1.symm.trans ebz1)
  refine ⟨bz1, ebz10, (hV.mm hsz1 (by decide) rfl), ?_⟩
  refine t_X6_put hV bz1 hsz1 rfl 12 2 18  (fun κ11 hV fκ11 pu4 => ?_)
  have hfr := hfr.trW hx fκ11 (by decide)
  refine ⟨(hV.mm hs_h (by decide) rfl), ?_⟩
  intro z13 ez13
  have ebz13 : z13 = some bz1 := (ez13.trans (hfr.1 h (by rw [hs0_h]; decide) 17 (by rw [hs0_h]; decide)).2.2).trans (ez1.symm.trans ebz1)
  refine ⟨bz1, ebz13, (hV.mm hsz1 (by decide) rfl), ?_⟩
  refine t_X6_put hV bz1 hsz1 rfl 16 4 1  (fun κ14 hV fκ14 pu5 => ?_)
  have hfr := hfr.trW hx fκ14 (by decide)
  refine ⟨(hV.mm hs_h (by decide) rfl), ?_⟩
  intro z16 ez16
  have ebz16 : z16 = some bz1 := (ez16.trans (hfr.1 h (by rw [hs0_h]; decide) 17 (by rw [hs0_h]; decide)).2.2).trans (ez1.symm.trans ebz1)
  refine ⟨bz1, ebz16, (hV.mm hsz1 (by decide) rfl), ?_⟩
  refine t_X6_put hV bz1 hsz1 rfl 24 8 (-1)  (fun κ17 hV fκ17 pu6 => ?_)
  have hfr := hfr.trW hx fκ17 (by decide)
  refine ⟨(hV.mm hs_h (by decide) rfl), ?_⟩
  intro z19 ez19
  have ebz19 : z19 = some bz1 := (ez19.trans (hfr.1 h (by rw [hs0_h]; decide) 17 (by rw [hs0_h]; decide)).2.2).trans (ez1.symm.trans ebz1)
  refine ⟨bz1, ebz19, (hV.mm hsz1 (by decide) rfl), ?_⟩
  refine t_X6_put hV bz1 hsz1 rfl 64 2 24  (fun κ20 hV fκ20 pu7 => ?_)
  have hfr := hfr.trW hx fκ20 (by decide)
  refine ⟨(hV.mm hs_h (by decide) rfl), ?_⟩
  intro z22 ez22
  have ebz22 : z22 = some bz1 := (ez22.trans (hfr.1 h (by rw [hs0_h]; decide) 17 (by rw [hs0_h]; decide)).2.2).trans (ez1.symm.trans ebz1)
  intro z23 ez23
  have hz23 := i_tol ez23
  have rg_z23 := l_range z23
  refine ⟨bz1, ebz22, (hV.mm hsz1 (by decide) rfl), ?_⟩
  refine t_X6_put hV bz1 hsz1 rfl 66 1 z23  (fun κ24 hV fκ24 pu8 => ?_)
  have hfr := hfr.trW hx fκ24 (by decide)
  refine ⟨(hV.mm hs_h (by decide) rfl), ?_⟩
  intro z26 ez26
  have ebz26 : z26 = some bz1 := (ez26.trans (hfr.1 h (by rw [hs0_h]; decide) 17 (by rw [hs0_h]; decide)).2.2).trans (ez1.symm.trans ebz1)
  refine ⟨b_a1, e_a1, (hV.mm hs_a1 (by decide) rfl), ?_⟩
  intro z27 ez27
  have vz27 := l_range z27
  have wz27 : z27.toInt = (sJ κ24.1 b_a1 0).toInt := by rw [ez27]
  refine ⟨bz1, ebz26, (hV.mm hsz1 (by decide) rfl), ?_⟩
  refine t_X6_put hV bz1 hsz1 rfl 72 8 z27  (fun κ28 hV fκ28 pu9 => ?_)
  have hfr := hfr.trW hx fκ28 (by decide)
  refine ⟨(hV.mm hs_h (by decide) rfl), ?_⟩
  intro z30 ez30
  have ebz30 : z30 = some bz1 := (ez30.trans (hfr.1 h (by rw [hs0_h]; decide) 17 (by rw [hs0_h]; decide)).2.2).trans (ez1.symm.trans ebz1)
  refine ⟨b_a1, e_a1, (hV.mm hs_a1 (by decide) rfl), ?_⟩
  intro z31 ez31
  have vz31 := l_range z31
  have wz31 : z31.toInt = (sJ κ28.1 b_a1 0).toInt := by rw [ez31]
  refine ⟨bz1, ebz30, (hV.mm hsz1 (by decide) rfl), ?_⟩
  refine t_X6_put hV bz1 hsz1 rfl 80 8 z31  (fun κ32 hV fκ32 pu10 => ?_)
  have hfr := hfr.trW hx fκ32 (by decide)
  refine ⟨b_a1, e_a1, (hV.mm hs_a1 (by decide) rfl), ?_⟩
  intro z34 ez34
  obtain ⟨bz34, ebz34, hsz34⟩ := hV.1.nn hs_a1 (by decide) rfl 1 rfl (by decide)
  have ebz34 := ez34.trans ebz34
  refine ⟨bz34, ebz34, (hV.mm hsz34 (by decide) rfl), ?_⟩
  intro z35 ez35
  obtain ⟨bz35, ebz35, hsz35⟩ := hV.1.nn hsz34 (by decide) rfl 1 rfl (by decide)
  have ebz35 := ez35.trans ebz35
  refine ⟨bz35, ebz35, (hV.mm hsz35 (by decide) rfl), ?_⟩
  intro z36 ez36
  obtain ⟨bz36, ebz36, hsz36⟩ := hV.1.nn hsz35 (by decide) rfl 1 rfl (by decide)
  have ebz36 := ez36.trans ebz36
  refine ⟨(hV.mm hs_h (by decide) rfl), ?_⟩
  intro z37 ez37
  have ebz37 : z37 = some bz1 := (ez37.trans (hfr.1 h (by rw [hs0_h]; decide) 17 (by rw [hs0_h]; decide)).2.2).trans (ez1.symm.trans ebz1)
  refine ⟨bz36, ebz36, (hV.mm hsz36 (by decide) rfl), ?_⟩
  refine t61_X2_post hV bz36 hsz36 z37 bz1 ebz37 hsz1  (by omega) (fun W κ38 x1_ hV fκ38 pu11 => ?_)
  have hV : CV G E W (c - 0) κ38 := hV.dn (by omega)
  have hx2 := hx.tr x1_ hfr.sl
  have hfr := hfr.trW hx fκ38 (by decide)
  have hs_h := WLe.at (x1_).1 hs_h (by decide)
  have hs_a1 := WLe.at (x1_).1 hs_a1 (by decide)
  have hsz1 := WLe.at (x1_).1 hsz1 (by decide)
  have hsz34 := WLe.at (x1_).1 hsz34 (by decide)
  have hsz35 := WLe.at (x1_).1 hsz35 (by decide)
  have hsz36 := WLe.at (x1_).1 hsz36 (by decide)
  have hx := hx2
  exact kk W κ38 hx (hV.dn (by omega)) hfr trivial
set_option maxRecDepth 100000 in
set_option maxHeartbeats 4000000 in
theorem t_X11_breakLevelTwo {G : GE} {E : CE} {W0 : CW} {c : Int} {κ : CS} (hV : CV G E W0 c κ) (h : Nat) (hs_h : W0.1 h = 1) (a1 : Option Nat) (b_a1 : Nat) (e_a1 : a1 = some b_a1) (hs_a1 : W0.1 b_a1 = 5) (a2 : Option Nat) (n_a2 : a2 = none ∨ ∃ b, a2 = some b ∧ W0.1 b = 10)  (hc : 0 ≤ c) {post : CS → Prop} (kk : ∀ (W' : CW) (κ' : CS), WX W0 W' κ → CV G E W' (c - 0) κ' → CF [(10, 7), (20, 0), (61, 0), (61, 1), (63, 0), (63, 1)] W0 κ κ' → (True) → post κ') : F_X11_breakLevelTwo G h a1 a2 post κ := by
  have hs0_h := hs_h
  have hs0_a1 := hs_a1
  have n0_a2 := n_a2
  suffices H_ : ∀ W : CW, WX W0 W κ → CV G E W (c - 0) κ → (W.1 h = 1) → (W.1 b_a1 = 5) → (a2 = none ∨ ∃ b, a2 = some b ∧ W.1 b = 10) → F_X11_breakLevelTwo G h a1 a2 post κ from H_ W0 WX.rf (hV.dn (by omega)) hs_h hs_a1 n_a2
  intro W hx hV hs_h hs_a1 n_a2
  unfold F_X11_breakLevelTwo
  have hfr : CF [(10, 7), (20, 0), (61, 0), (61, 1), (63, 0), (63, 1)] W0 κ κ := CF.rf
  have k_0 : (0 : Int32).toInt = 0 := rfl
  have k_1 : (1 : Int32).toInt = 1 := rfl
  have kl_0 : (0 : Int64).toInt = 0 := rfl
  have kl_1 : (1 : Int64).toInt = 1 := rfl
  refine lc_in (fun (x : Int32) (κ' : CS) => ∃ W' : CW, WLe W W' ∧ WX W0 W' κ ∧ CV G E W' (c - 0) κ' ∧ CF [(10, 7), (20, 0), (61, 0), (61, 1), (63, 0), (63, 1)] W0 κ κ' ∧ (((0 ≤ x.toInt)))) (fun (x : Int32) (κ' : CS) => (2147483647 - x.toInt).toNat) ⟨W, WLe.rf, hx, hV.dn (by (try dsimp only); omega), hfr, (by (try dsimp only); omega)⟩ (fun x1 κ2 hJ K3 hK3 => ?_)
  obtain ⟨W, le2, hx, hV, hfr, hv⟩ := hJ
  have hs_h := WLe.at le2 hs_h (by decide)
  have hs_a1 := WLe.at le2 hs_a1 (by decide)
  have n_a2 := nul_up le2 n_a2 (by decide)
  (try dsimp only at hv)
  have rg_x1 := i_range x1
  refine ⟨(hV.mm hs_h (by decide) rfl), ?_⟩
  intro z5 ez5
  obtain ⟨bz5, ebz5, hsz5⟩ := hV.1.nn hs_h (by decide) rfl 10 rfl (by decide)
  have ebz5 := ez5.trans ebz5
  refine ⟨bz5, ebz5, (hV.mm hsz5 (by decide) rfl), ?_⟩
  refine t_Jx4a65c_size_8abf5 hV bz5 hsz5 (by decide) (fun z7 pz7 => ?_)
  have rg_z7 := i_range z7
  refine ⟨fun c1 => ?_, fun c1 => ?_⟩
  · exact kk W κ2 hx (hV.dn (by omega)) hfr trivial
  · refine ⟨(hV.mm hs_h (by decide) rfl), ?_⟩
    intro z8 ez8
    have ebz8 : z8 = some bz5 := (ez8.trans ez5.symm).trans ebz5
    refine ⟨bz5, ebz8, (hV.mm hsz5 (by decide) rfl), ?_⟩
    refine t_Jx4a65c_get_915e3 hV bz5 hsz5 (by decide) x1 (by omega) (fun z10 pz10 => ?_)
    obtain ⟨bz10, ebz10, hsz10⟩ := pz10
    have hsz10 : W.1 bz10 = 10 := hsz10
    refine ⟨Or.inr ⟨bz10, ebz10, (hV.mm hsz10 (by decide) rfl)⟩, ?_⟩
    refine ⟨bz10, ebz10, (hV.mm hsz10 (by decide) rfl), ?_⟩
    intro z11 ez11
    obtain ⟨bz11, ebz11, hsz11⟩ := hV.1.nn hsz10 (by decide) rfl 2 rfl (by decide)
    have ebz11 := ez11.trans ebz11
    refine jc_dup ?_
    refine ⟨fun c2 => ?_, fun c2 => ?_⟩
    · (try dsimp only)
      intro z17 ez17
      try have hz17 := i_add ez17 (by omega) (by omega)
      have rg_z17 := i_range z17
      exact hK3 z17 κ2 ⟨W, le2, hx, hV.dn (by (try dsimp only); omega), hfr, (by (try dsimp only); omega)⟩ (by (try dsimp only); omega)
    · refine ⟨fun c3 => ?_, fun c3 => ?_⟩
      · (try dsimp only)
        intro z17 ez17
        try have hz17 := i_add ez17 (by omega) (by omega)
        have rg_z17 := i_range z17
        exact hK3 z17 κ2 ⟨W, le2, hx, hV.dn (by (try dsimp only); omega), hfr, (by (try dsimp only); omega)⟩ (by (try dsimp only); omega)
      · refine ⟨bz10, ebz10, (hV.mm hsz10 (by decide) rfl), ?_⟩
        intro z18 ez18
        have vz18 := hV.1.iv hsz10 (by decide) rfl 7 (-2147483648) 2147483647 rfl ez18
        have wz18 : z18.toInt = (sI κ2.1 bz10 7).toInt := by rw [ez18]
        refine ⟨fun c4 => ?_, fun c4 => ?_⟩
        · (try dsimp only)
          intro z17 ez17
          try have hz17 := i_add ez17 (by omega) (by omega)
          have rg_z17 := i_range z17
          exact hK3 z17 κ2 ⟨W, le2, hx, hV.dn (by (try dsimp only); omega), hfr, (by (try dsimp only); omega)⟩ (by (try dsimp only); omega)
        · refine ⟨bz10, ebz10, (hV.mm hsz10 (by decide) rfl), ?_⟩
          intro κ19 eκ19
          have rv_κ19 := i_range 0
          have hV := hV.uI (k := 7) (v := 0) hsz10 (Or.inl rfl) (Or.inl (by decide)) (Or.inl (by decide)) (fun _ => (by omega : (-2147483648 : Int) ≤ (0 : Int32).toInt ∧ (0 : Int32).toInt ≤ 2147483647)) eκ19
          have uκ19 : (sI κ19.1 bz10 7).toInt = (0 : Int32).toInt := by rw [eκ19]; exact congrArg Int32.toInt u2_same
          have f1κ19 : CF [(10, 7)] W κ2 κ19 := CF.rf.uI (k := 7) hsz10 (by decide) (show ((10, 7) : Nat × Nat) ∈ ([(10, 7)] : List (Nat × Nat)) by simp) eκ19
          have hfr := hfr.trW hx f1κ19 (by decide)
          refine ⟨(hV.mm hs_h (by decide) rfl), ?_⟩
          refine t_X11_sendBreak hV h hs_h z10 bz10 ebz10 hsz10 0  (by omega) (fun W κ20 x1_ hV fκ20 pu1 => ?_)
          have hV : CV G E W (c - 0) κ20 := hV.dn (by omega)
          have hx2 := hx.tr x1_ hfr.sl
          have hfr := hfr.trW hx fκ20 (by decide)
          have hs_h := WLe.at (x1_).1 hs_h (by decide)
          have hs_a1 := WLe.at (x1_).1 hs_a1 (by decide)
          have hsz5 := WLe.at (x1_).1 hsz5 (by decide)
          have hsz10 := WLe.at (x1_).1 hsz10 (by decide)
          have hsz11 := WLe.at (x1_).1 hsz11 (by decide)
          have n_a2 := nul_up (x1_).1 n_a2 (by decide)
          have le2 := WLe.tr le2 (x1_).1
          have hx := hx2
          (try dsimp only)
          intro z17 ez17
          try have hz17 := i_add ez17 (by omega) (by omega)
          have rg_z17 := i_range z17
          exact hK3 z17 κ20 ⟨W, le2, hx, hV.dn (by (try dsimp only); omega), hfr, (by (try dsimp only); omega)⟩ (by (try dsimp only); omega)
set_option maxRecDepth 100000 in
set_option maxHeartbeats 4000000 in
theorem t_X11_plainAnswer {G : GE} {E : CE} {W0 : CW} {c : Int} {κ : CS} (hV : CV G E W0 c κ) (h : Nat) (hs_h : W0.1 h = 1)  (hc : 0 ≤ c) {post : Int32 → CS → Prop} (kk : ∀ (r : Int32) (W' : CW) (κ' : CS), WX W0 W' κ → CV G E W' (c - 0) κ' → CF [(20, 0), (61, 0), (61, 1)] W0 κ κ' → (True) → post r κ') : F_X11_plainAnswer G h post κ := by
  have hs0_h := hs_h
  suffices H_ : ∀ W : CW, WX W0 W κ → CV G E W (c - 0) κ → (W.1 h = 1) → F_X11_plainAnswer G h post κ from H_ W0 WX.rf (hV.dn (by omega)) hs_h
  intro W hx hV hs_h
  unfold F_X11_plainAnswer
  have hfr : CF [(20, 0), (61, 0), (61, 1)] W0 κ κ := CF.rf
  have k_0 : (0 : Int32).toInt = 0 := rfl
  have k_2 : (2 : Int32).toInt = 2 := rfl
  have k_4 : (4 : Int32).toInt = 4 := rfl
  have k_64 : (64 : Int32).toInt = 64 := rfl
  have k_68 : (68 : Int32).toInt = 68 := rfl
  have kl_0 : (0 : Int64).toInt = 0 := rfl
  have kl_2 : (2 : Int64).toInt = 2 := rfl
  have kl_4 : (4 : Int64).toInt = 4 := rfl
  have kl_64 : (64 : Int64).toInt = 64 := rfl
  have kl_68 : (68 : Int64).toInt = 68 := rfl
  refine ⟨(hV.mm hs_h (by decide) rfl), ?_⟩
  intro z1 ez1
  obtain ⟨bz1, ebz1, hsz1⟩ := hV.1.nn hs_h (by decide) rfl 15 rfl (by decide)
  have ebz1 := ez1.trans ebz1
  refine ⟨bz1, ebz1, (hV.mm hsz1 (by decide) rfl), ?_⟩
  refine t_X6_begin hV bz1 hsz1 68 (by omega) (by omega) (fun W κ2 x1_ hV fκ2 pu1 => ?_)
  have hV : CV G E W (c - 0) κ2 := hV.dn (by omega)
  have hx2 := hx.tr x1_ hfr.sl
  have hfr := hfr.trW hx fκ2 (by decide)
  have hs_h := WLe.at (x1_).1 hs_h (by decide)
  have hsz1 := WLe.at (x1_).1 hsz1 (by decide)
  have hx := hx2
  refine ⟨(hV.mm hs_h (by decide) rfl), ?_⟩
  intro z4 ez4
  have ebz4 : z4 = some bz1 := (ez4.trans (hfr.1 h (by rw [hs0_h]; decide) 15 (by rw [hs0_h]; decide)).2.2).trans (ez1.symm.trans ebz1)
  refine ⟨bz1, ebz4, (hV.mm hsz1 (by decide) rfl), ?_⟩
  refine t_X6_put hV bz1 hsz1 rfl 64 2 4  (fun κ5 hV fκ5 pu2 => ?_)
  have hfr := hfr.trW hx fκ5 (by decide)
  exact kk 0 W κ5 hx (hV.dn (by omega)) hfr trivial
set_option maxRecDepth 100000 in
set_option maxHeartbeats 4000000 in
theorem t_X11_beginMessage {G : GE} {E : CE} {W0 : CW} {c : Int} {κ : CS} (hV : CV G E W0 c κ) (h : Nat) (hs_h : W0.1 h = 1) (a1 : Option Nat) (b_a1 : Nat) (e_a1 : a1 = some b_a1) (hs_a1 : W0.1 b_a1 = 3)  (hc : 0 ≤ c) {post : CS → Prop} (kk : ∀ (W' : CW) (κ' : CS), WX W0 W' κ → CV G E W' (c - 0) κ' → CF [(20, 0), (3, 12), (3, 8), (3, 9), (62, 0), (62, 1)] W0 κ κ' → ((sI κ'.1 b_a1 8).toInt = 4 ∧ ∃ b, sP κ'.1 h 14 = some b ∧ W'.1 b = 62 ∧ (sI κ'.1 b 1).toInt = 0) → post κ') : F_X11_beginMessage G h a1 post κ := by
  have hs0_h := hs_h
  have hs0_a1 := hs_a1
  suffices H_ : ∀ W : CW, WX W0 W κ → CV G E W (c - 0) κ → (W.1 h = 1) → (W.1 b_a1 = 3) → F_X11_beginMessage G h a1 post κ from H_ W0 WX.rf (hV.dn (by omega)) hs_h hs_a1
  intro W hx hV hs_h hs_a1
  unfold F_X11_beginMessage
  have hfr : CF [(20, 0), (3, 12), (3, 8), (3, 9), (62, 0), (62, 1)] W0 κ κ := CF.rf
  have k_0 : (0 : Int32).toInt = 0 := rfl
  have kl_0 : (0 : Int64).toInt = 0 := rfl
  have k_4 : (4 : Int32).toInt = 4 := rfl
  refine ⟨b_a1, e_a1, (hV.mm hs_a1 (by decide) rfl), ?_⟩
  intro κ1 eκ1
  have rv_κ1 := i_range 4
  have hV := hV.uI (k := 8) (v := 4) hs_a1 (Or.inl rfl) (Or.inl (by decide)) (Or.inl (by decide)) (fun _ => (by omega : (-2147483648 : Int) ≤ (4 : Int32).toInt ∧ (4 : Int32).toInt ≤ 2147483647)) eκ1
  have uκ1 : (sI κ1.1 b_a1 8).toInt = (4 : Int32).toInt := by rw [eκ1]; exact congrArg Int32.toInt u2_same
  have f1κ1 : CF [(3, 8)] W κ κ1 := CF.rf.uI (k := 8) hs_a1 (by decide) (show ((3, 8) : Nat × Nat) ∈ ([(3, 8)] : List (Nat × Nat)) by simp) eκ1
  have hfr := hfr.trW hx f1κ1 (by decide)
  refine ⟨b_a1, e_a1, (hV.mm hs_a1 (by decide) rfl), ?_⟩
  intro κ2 eκ2
  have rv_κ2 := i_range 0
  have hV := hV.uI (k := 9) (v := 0) hs_a1 (Or.inl rfl) (Or.inl (by decide)) (Or.inl (by decide)) (fun _ => (by omega : (-2147483648 : Int) ≤ (0 : Int32).toInt ∧ (0 : Int32).toInt ≤ 2147483647)) eκ2
  have uκ2 : (sI κ2.1 b_a1 9).toInt = (0 : Int32).toInt := by rw [eκ2]; exact congrArg Int32.toInt u2_same
  have f1κ2 : CF [(3, 9)] W κ1 κ2 := CF.rf.uI (k := 9) hs_a1 (by decide) (show ((3, 9) : Nat × Nat) ∈ ([(3, 9)] : List (Nat × Nat)) by simp) eκ2
  have tk1 : (sI κ2.1 b_a1 8).toInt = (sI κ1.1 b_a1 8).toInt := by rw [(f1κ2.1 b_a1 (by rw [hs_a1]; decide) 8 (by rw [hs_a1]; decide)).1]
  have hfr := hfr.trW hx f1κ2 (by decide)
  refine ⟨by omega, b_a1, e_a1, (hV.mm hs_a1 (by decide) rfl), ?_⟩
  intro κ3 eκ3
  have rv_κ3 := i_range 0
  have hV := hV.uI (k := 12) (v := 0) hs_a1 (Or.inl rfl) (Or.inl (by decide)) (Or.inl (by decide)) (fun _ => (by omega : (0 : Int) ≤ (0 : Int32).toInt ∧ (0 : Int32).toInt ≤ 1)) eκ3
  have uκ3 : (sI κ3.1 b_a1 12).toInt = (0 : Int32).toInt := by rw [eκ3]; exact congrArg Int32.toInt u2_same
  have f1κ3 : CF [(3, 12)] W κ2 κ3 := CF.rf.uI (k := 12) hs_a1 (by decide) (show ((3, 12) : Nat × Nat) ∈ ([(3, 12)] : List (Nat × Nat)) by simp) eκ3
  have tk2 : (sI κ3.1 b_a1 8).toInt = (sI κ2.1 b_a1 8).toInt := by rw [(f1κ3.1 b_a1 (by rw [hs_a1]; decide) 8 (by rw [hs_a1]; decide)).1]
  have hfr := hfr.trW hx f1κ3 (by decide)
  refine ⟨(hV.mm hs_h (by decide) rfl), ?_⟩
  intro z4 ez4
  obtain ⟨bz4, ebz4, hsz4⟩ := hV.1.nn hs_h (by decide) rfl 14 rfl (by decide)
  have pk_z4 := ebz4
  have ebz4 := ez4.trans ebz4
  refine ⟨bz4, ebz4, (hV.mm hsz4 (by decide) rfl), ?_⟩
  refine t62b_X6_begin hV bz4 hsz4 0 (by omega) (by omega) (fun W κ5 x1_ hV fκ5 pu1 => ?_)
  have hV : CV G E W (c - 0) κ5 := hV.dn (by omega)
  have tk3 : (sI κ5.1 b_a1 8).toInt = (sI κ3.1 b_a1 8).toInt := by rw [(fκ5.1 b_a1 (by rw [hs_a1]; decide) 8 (by rw [hs_a1]; decide)).1]
  have pk4 := (fκ5.1 h (by rw [hs_h]; decide) 14 (by rw [hs_h]; decide)).2.2.trans pk_z4
  have hx2 := hx.tr x1_ hfr.sl
  have hfr := hfr.trW hx fκ5 (by decide)
  have hs_h := WLe.at (x1_).1 hs_h (by decide)
  have hs_a1 := WLe.at (x1_).1 hs_a1 (by decide)
  have hsz4 := WLe.at (x1_).1 hsz4 (by decide)
  have hx := hx2
  exact kk W κ5 hx (hV.dn (by omega)) hfr ⟨by omega, bz4, pk4, hsz4, by omega⟩
set_option maxRecDepth 100000 in
set_option maxHeartbeats 4000000 in
theorem t_X11_waitFor {G : GE} {E : CE} {W0 : CW} {c : Int} {κ : CS} (hV : CV G E W0 c κ) (h : Nat) (hs_h : W0.1 h = 1) (a1 : Option Nat) (b_a1 : Nat) (e_a1 : a1 = some b_a1) (hs_a1 : W0.1 b_a1 = 8) (a2 : Option Nat) (b_a2 : Nat) (e_a2 : a2 = some b_a2) (hs_a2 : W0.1 b_a2 = 10)  (hc : 0 ≤ c) {post : Int32 → CS → Prop} (kk : ∀ (r : Int32) (W' : CW) (κ' : CS), WX W0 W' κ → CV G E W' (c - 0) κ' → CF [(10, 10), (10, 8), (10, 9), (20, 0), (61, 0), (61, 1), (63, 0), (63, 1), (8, 18)] W0 κ κ' → (r.toInt = 259) → post r κ') : F_X11_waitFor G h a1 a2 post κ := by
  have hs0_h := hs_h
  have hs0_a1 := hs_a1
  have hs0_a2 := hs_a2
  suffices H_ : ∀ W : CW, WX W0 W κ → CV G E W (c - 0) κ → (W.1 h = 1) → (W.1 b_a1 = 8) → (W.1 b_a2 = 10) → F_X11_waitFor G h a1 a2 post κ from H_ W0 WX.rf (hV.dn (by omega)) hs_h hs_a1 hs_a2
  intro W hx hV hs_h hs_a1 hs_a2
  unfold F_X11_waitFor
  have hfr : CF [(10, 10), (10, 8), (10, 9), (20, 0), (61, 0), (61, 1), (63, 0), (63, 1), (8, 18)] W0 κ κ := CF.rf
  have k_0 : (0 : Int32).toInt = 0 := rfl
  have k_1 : (1 : Int32).toInt = 1 := rfl
  have k_259 : (259 : Int32).toInt = 259 := rfl
  have kl_259 : (259 : Int64).toInt = 259 := rfl
  refine ⟨b_a2, e_a2, (hV.mm hs_a2 (by decide) rfl), ?_⟩
  intro z1 ez1
  obtain ⟨bz1, ebz1, hsz1⟩ := hV.1.nn hs_a2 (by decide) rfl 2 rfl (by decide)
  have ebz1 := ez1.trans ebz1
  refine ⟨b_a1, e_a1, (hV.mm hs_a1 (by decide) rfl), ?_⟩
  intro κ2 eκ2
  have hV := hV.uP (k := 18) (v := z1) hs_a1 rfl (Or.inl (by decide)) (by decide) (by decide) (fun _ => (Or.inr (Or.inr (Or.inr ⟨bz1, ebz1, hsz1⟩)))) eκ2
  have f1κ2 : CF [(8, 18)] W κ κ2 := CF.rf.uP (k := 18) hs_a1 (by decide) (show ((8, 18) : Nat × Nat) ∈ ([(8, 18)] : List (Nat × Nat)) by simp) eκ2
  have hfr := hfr.trW hx f1κ2 (by decide)
  refine ⟨b_a2, e_a2, (hV.mm hs_a2 (by decide) rfl), ?_⟩
  intro z3 ez3
  have vz3 := hV.1.iv hs_a2 (by decide) rfl 8 0 1 rfl ez3
  have wz3 : z3.toInt = (sI κ2.1 b_a2 8).toInt := by rw [ez3]
  refine jc_dup ?_
  refine ⟨fun c1 => ?_, fun c1 => ?_⟩
  · (try dsimp only)
    exact kk 259 W κ2 hx (hV.dn (by omega)) hfr (by omega)
  · refine ⟨by omega, b_a2, e_a2, (hV.mm hs_a2 (by decide) rfl), ?_⟩
    intro κ9 eκ9
    have rv_κ9 := i_range 1
    have hV := hV.uI (k := 8) (v := 1) hs_a2 (Or.inl rfl) (Or.inl (by decide)) (Or.inl (by decide)) (fun _ => (by omega : (0 : Int) ≤ (1 : Int32).toInt ∧ (1 : Int32).toInt ≤ 1)) eκ9
    have uκ9 : (sI κ9.1 b_a2 8).toInt = (1 : Int32).toInt := by rw [eκ9]; exact congrArg Int32.toInt u2_same
    have f1κ9 : CF [(10, 8)] W κ2 κ9 := CF.rf.uI (k := 8) hs_a2 (by decide) (show ((10, 8) : Nat × Nat) ∈ ([(10, 8)] : List (Nat × Nat)) by simp) eκ9
    have hfr := hfr.trW hx f1κ9 (by decide)
    refine ⟨b_a1, e_a1, (hV.mm hs_a1 (by decide) rfl), ?_⟩
    intro z10 ez10
    have nz10 := hV.1.nl hs_a1 (by decide) rfl 17 rfl (by decide)
    rw [← ez10] at nz10
    refine jc_dup ?_
    refine jc_dup ?_
    refine ⟨fun c2 => ?_, fun c2 => ?_⟩
    · (try dsimp only)
      (try dsimp only)
      refine ⟨b_a2, e_a2, (hV.mm hs_a2 (by decide) rfl), ?_⟩
      intro κ16 eκ16
      have rv_κ16 := i_range 1
      have hV := hV.uI (k := 9) (v := 1) hs_a2 (Or.inl rfl) (Or.inl (by decide)) (Or.inl (by decide)) (fun _ => (by omega : (-2147483648 : Int) ≤ (1 : Int32).toInt ∧ (1 : Int32).toInt ≤ 2147483647)) eκ16
      have uκ16 : (sI κ16.1 b_a2 9).toInt = (1 : Int32).toInt := by rw [eκ16]; exact congrArg Int32.toInt u2_same
      have f1κ16 : CF [(10, 9)] W κ9 κ16 := CF.rf.uI (k := 9) hs_a2 (by decide) (show ((10, 9) : Nat × Nat) ∈ ([(10, 9)] : List (Nat × Nat)) by simp) eκ16
      have hfr := hfr.trW hx f1κ16 (by decide)
      refine ⟨(hV.mm hs_h (by decide) rfl), ?_⟩
      intro z17 ez17
      have vz17 := l_range z17
      have wz17 : z17.toInt = (sJ κ16.1 h 7).toInt := by rw [ez17]
      refine ⟨b_a2, e_a2, (hV.mm hs_a2 (by decide) rfl), ?_⟩
      intro κ18 eκ18
      have hV := hV.uJ eκ18
      have f1κ18 : CF [(10, 10)] W κ16 κ18 := CF.rf.uJ (k := 10) hs_a2 (by decide) (show ((10, 10) : Nat × Nat) ∈ ([(10, 10)] : List (Nat × Nat)) by simp) eκ18
      have hfr := hfr.trW hx f1κ18 (by decide)
      refine ⟨b_a2, e_a2, (hV.mm hs_a2 (by decide) rfl), ?_⟩
      intro z19 ez19
      have vz19 := hV.1.iv hs_a2 (by decide) rfl 9 (-2147483648) 2147483647 rfl ez19
      have wz19 : z19.toInt = (sI κ18.1 b_a2 9).toInt := by rw [ez19]
      refine ⟨(hV.mm hs_h (by decide) rfl), ?_⟩
      refine t_X11_sendBreak hV h hs_h a2 b_a2 e_a2 hs_a2 z19  (by omega) (fun W κ20 x1_ hV fκ20 pu1 => ?_)
      have hV : CV G E W (c - 0) κ20 := hV.dn (by omega)
      have hx2 := hx.tr x1_ hfr.sl
      have hfr := hfr.trW hx fκ20 (by decide)
      have hs_h := WLe.at (x1_).1 hs_h (by decide)
      have hs_a1 := WLe.at (x1_).1 hs_a1 (by decide)
      have hs_a2 := WLe.at (x1_).1 hs_a2 (by decide)
      have hsz1 := WLe.at (x1_).1 hsz1 (by decide)
      have hx := hx2
      (try dsimp only)
      exact kk 259 W κ20 hx (hV.dn (by omega)) hfr (by omega)
    · obtain ⟨bn2, ebn2, hsn2⟩ := nz10.resolve_left c2
      refine ⟨b_a1, e_a1, (hV.mm hs_a1 (by decide) rfl), ?_⟩
      intro z27 ez27
      have ebz27 : z27 = some bn2 := (ez27.trans ez10.symm).trans ebn2
      refine ⟨bn2, ebz27, (hV.mm hsn2 (by decide) rfl), ?_⟩
      refine t_X10_empties hV bn2 hsn2  (fun z29 pz29 => ?_)
      have rg_z29 := i_range z29
      refine ⟨fun c3 => ?_, fun c3 => ?_⟩
      · (try dsimp only)
        (try dsimp only)
        refine ⟨b_a2, e_a2, (hV.mm hs_a2 (by decide) rfl), ?_⟩
        intro κ16 eκ16
        have rv_κ16 := i_range 1
        have hV := hV.uI (k := 9) (v := 1) hs_a2 (Or.inl rfl) (Or.inl (by decide)) (Or.inl (by decide)) (fun _ => (by omega : (-2147483648 : Int) ≤ (1 : Int32).toInt ∧ (1 : Int32).toInt ≤ 2147483647)) eκ16
        have uκ16 : (sI κ16.1 b_a2 9).toInt = (1 : Int32).toInt := by rw [eκ16]; exact congrArg Int32.toInt u2_same
        have f1κ16 : CF [(10, 9)] W κ9 κ16 := CF.rf.uI (k := 9) hs_a2 (by decide) (show ((10, 9) : Nat × Nat) ∈ ([(10, 9)] : List (Nat × Nat)) by simp) eκ16
        have hfr := hfr.trW hx f1κ16 (by decide)
        refine ⟨(hV.mm hs_h (by decide) rfl), ?_⟩
        intro z17 ez17
        have vz17 := l_range z17
        have wz17 : z17.toInt = (sJ κ16.1 h 7).toInt := by rw [ez17]
        refine ⟨b_a2, e_a2, (hV.mm hs_a2 (by decide) rfl), ?_⟩
        intro κ18 eκ18
        have hV := hV.uJ eκ18
        have f1κ18 : CF [(10, 10)] W κ16 κ18 := CF.rf.uJ (k := 10) hs_a2 (by decide) (show ((10, 10) : Nat × Nat) ∈ ([(10, 10)] : List (Nat × Nat)) by simp) eκ18
        have hfr := hfr.trW hx f1κ18 (by decide)
        refine ⟨b_a2, e_a2, (hV.mm hs_a2 (by decide) rfl), ?_⟩
        intro z19 ez19
        have vz19 := hV.1.iv hs_a2 (by decide) rfl 9 (-2147483648) 2147483647 rfl ez19
        have wz19 : z19.toInt = (sI κ18.1 b_a2 9).toInt := by rw [ez19]
        refine ⟨(hV.mm hs_h (by decide) rfl), ?_⟩
        refine t_X11_sendBreak hV h hs_h a2 b_a2 e_a2 hs_a2 z19  (by omega) (fun W κ20 x1_ hV fκ20 pu4 => ?_)
        have hV : CV G E W (c - 0) κ20 := hV.dn (by omega)
        have hx2 := hx.tr x1_ hfr.sl
        have hfr := hfr.trW hx fκ20 (by decide)
        have hs_h := WLe.at (x1_).1 hs_h (by decide)
        have hs_a1 := WLe.at (x1_).1 hs_a1 (by decide)
        have hs_a2 := WLe.at (x1_).1 hs_a2 (by decide)
        have hsz1 := WLe.at (x1_).1 hsz1 (by decide)
        have hsn2 := WLe.at (x1_).1 hsn2 (by decide)
        have hx := hx2
        (try dsimp only)
        exact kk 259 W κ20 hx (hV.dn (by omega)) hfr (by omega)
      · (try dsimp only)
        refine ⟨b_a2, e_a2, (hV.mm hs_a2 (by decide) rfl), ?_⟩
        intro κ16 eκ16
        have rv_κ16 := i_range 0
        have hV := hV.uI (k := 9) (v := 0) hs_a2 (Or.inl rfl) (Or.inl (by decide)) (Or.inl (by decide)) (fun _ => (by omega : (-2147483648 : Int) ≤ (0 : Int32).toInt ∧ (0 : Int32).toInt ≤ 2147483647)) eκ16
        have uκ16 : (sI κ16.1 b_a2 9).toInt = (0 : Int32).toInt := by rw [eκ16]; exact congrArg Int32.toInt u2_same
        have f1κ16 : CF [(10, 9)] W κ9 κ16 := CF.rf.uI (k := 9) hs_a2 (by decide) (show ((10, 9) : Nat × Nat) ∈ ([(10, 9)] : List (Nat × Nat)) by simp) eκ16
        have hfr := hfr.trW hx f1κ16 (by decide)
        refine ⟨(hV.mm hs_h (by decide) rfl), ?_⟩
        intro z17 ez17
        have vz17 := l_range z17
        have wz17 : z17.toInt = (sJ κ16.1 h 7).toInt := by rw [ez17]
        refine ⟨b_a2, e_a2, (hV.mm hs_a2 (by decide) rfl), ?_⟩
        intro κ18 eκ18
        have hV := hV.uJ eκ18
        have f1κ18 : CF [(10, 10)] W κ16 κ18 := CF.rf.uJ (k := 10) hs_a2 (by decide) (show ((10, 10) : Nat × Nat) ∈ ([(10, 10)] : List (Nat × Nat)) by simp) eκ18
        have hfr := hfr.trW hx f1κ18 (by decide)
        refine ⟨b_a2, e_a2, (hV.mm hs_a2 (by decide) rfl), ?_⟩
        intro z19 ez19
        have vz19 := hV.1.iv hs_a2 (by decide) rfl 9 (-2147483648) 2147483647 rfl ez19
        have wz19 : z19.toInt = (sI κ18.1 b_a2 9).toInt := by rw [ez19]
        refine ⟨(hV.mm hs_h (by decide) rfl), ?_⟩
        refine t_X11_sendBreak hV h hs_h a2 b_a2 e_a2 hs_a2 z19  (by omega) (fun W κ20 x1_ hV fκ20 pu5 => ?_)
        have hV : CV G E W (c - 0) κ20 := hV.dn (by omega)
        have hx2 := hx.tr x1_ hfr.sl
        have hfr := hfr.trW hx fκ20 (by decide)
        have hs_h := WLe.at (x1_).1 hs_h (by decide)
        have hs_a1 := WLe.at (x1_).1 hs_a1 (by decide)
        have hs_a2 := WLe.at (x1_).1 hs_a2 (by decide)
        have hsz1 := WLe.at (x1_).1 hsz1 (by decide)
        have hsn2 := WLe.at (x1_).1 hsn2 (by decide)
        have hx := hx2
        (try dsimp only)
        exact kk 259 W κ20 hx (hV.dn (by omega)) hfr (by omega)
set_option maxRecDepth 100000 in
set_option maxHeartbeats 4000000 in
theorem t2_X11_refusal {G : GE} {E : CE} {W : CW} {c : Int} {κ : CS} (hV : CV G E W c κ) (h : Nat) (hs_h : W.1 h = 1) (a1 : Option Nat) (b_a1 : Nat) (e_a1 : a1 = some b_a1) (hs_a1 : W.1 b_a1 = 5) (a2 : Option Nat) (b_a2 : Nat) (e_a2 : a2 = some b_a2) (hs_a2 : W.1 b_a2 = 13)  {post : Int32 → CS → Prop} (kk : ∀ r : Int32, ((r.toInt = 0 → ∃ b, sP κ.1 h 10 = some b ∧ W.1 b = 42 ∧ (sI κ.1 b 2).toInt ≤ 39) ∧ r.toInt ≠ 259) → post r κ) : F_X11_refusal G h a1 a2 post κ := by
  unfold F_X11_refusal
  have k_m1073741790 : ((-1073741790) : Int32).toInt = (-1073741790) := rfl
  have k_m1073741771 : ((-1073741771) : Int32).toInt = (-1073741771) := rfl
  have k_m1073741738 : ((-1073741738) : Int32).toInt = (-1073741738) := rfl
  have k_m1073741670 : ((-1073741670) : Int32).toInt = (-1073741670) := rfl
  have k_m1073741638 : ((-1073741638) : Int32).toInt = (-1073741638) := rfl
  have k_m1073741565 : ((-1073741565) : Int32).toInt = (-1073741565) := rfl
  have k_m1073741535 : ((-1073741535) : Int32).toInt = (-1073741535) := rfl
  have k_m1 : ((-1) : Int32).toInt = (-1) := rfl
  have k_0 : (0 : Int32).toInt = 0 := rfl
  have k_1 : (1 : Int32).toInt = 1 := rfl
  have k_2 : (2 : Int32).toInt = 2 := rfl
  have k_6 : (6 : Int32).toInt = 6 := rfl
  have k_40 : (40 : Int32).toInt = 40 := rfl
  have kl_m1073741790 : ((-1073741790) : Int64).toInt = (-1073741790) := rfl
  have kl_m1073741771 : ((-1073741771) : Int64).toInt = (-1073741771) := rfl
  have kl_m1073741738 : ((-1073741738) : Int64).toInt = (-1073741738) := rfl
  have kl_m1073741638 : ((-1073741638) : Int64).toInt = (-1073741638) := rfl
  have kl_m1073741565 : ((-1073741565) : Int64).toInt = (-1073741565) := rfl
  have kl_m1073741535 : ((-1073741535) : Int64).toInt = (-1073741535) := rfl
  have kl_1 : (1 : Int64).toInt = 1 := rfl
  have kl_6 : (6 : Int64).toInt = 6 := rfl
  refine ⟨b_a1, e_a1, (hV.mm hs_a1 (by decide) rfl), ?_⟩
  intro z1 ez1
  have vz1 := hV.1.iv hs_a1 (by decide) rfl 3 0 1 rfl ez1
  have wz1 : z1.toInt = (sI κ.1 b_a1 3).toInt := by rw [ez1]
  refine ⟨fun c1 => ?_, fun c1 => ?_⟩
  · refine ⟨b_a2, e_a2, (hV.mm hs_a2 (by decide) rfl), ?_⟩
    intro z2 ez2
    have vz2 := hV.1.iv hs_a2 (by decide) rfl 4 (-2147483648) 2147483647 rfl ez2
    have wz2 : z2.toInt = (sI κ.1 b_a2 4).toInt := by rw [ez2]
    refine ⟨fun c2 => ?_, fun c2 => ?_⟩
    · refine ⟨b_a1, e_a1, (hV.mm hs_a1 (by decide) rfl), ?_⟩
      intro z3 ez3
      have vz3 := hV.1.iv hs_a1 (by decide) rfl 2 0 1 rfl ez3
      have wz3 : z3.toInt = (sI κ.1 b_a1 2).toInt := by rw [ez3]
      refine jc_in (fun (x : Unit) (κ' : CS) => κ = κ' ∧ ((True))) (fun x4 κ5 hJ => ?_) (fun K6 hK6 => ?_)
      · obtain ⟨hsg, hv⟩ := hJ
        subst hsg
        (try dsimp only at hv)
        refine ⟨b_a1, e_a1, (hV.mm hs_a1 (by decide) rfl), ?_⟩
        intro z9 ez9
        have vz9 := hV.1.iv hs_a1 (by decide) rfl 2 0 1 rfl ez9
        have wz9 : z9.toInt = (sI κ.1 b_a1 2).toInt := by rw [ez9]
        refine jc_in (fun (x : Unit) (κ' : CS) => κ = κ' ∧ ((True))) (fun x10 κ11 hJ => ?_) (fun K12 hK12 => ?_)
        · obtain ⟨hsg, hv⟩ := hJ
          subst hsg
          (try dsimp only at hv)
          refine ⟨b_a1, e_a1, (hV.mm hs_a1 (by decide) rfl), ?_⟩
          intro z15 ez15
          have vz15 := hV.1.iv hs_a1 (by decide) rfl 7 (-2147483648) 2147483647 rfl ez15
          have wz15 : z15.toInt = (sI κ.1 b_a1 7).toInt := by rw [ez15]
          intro z16 ez16
          try have hz16 := i_and1 ez16 (by omega)
          have rg_z16 := i_range z16
          refine jc_in (fun (x : Int32) (κ' : CS) => κ = κ' ∧ (((0 ≤ x.toInt ∧ x.toInt ≤ 1)))) (fun x17 κ18 hJ => ?_) (fun K19 hK19 => ?_)
          · obtain ⟨hsg, hv⟩ := hJ
            subst hsg
            (try dsimp only at hv)
            have rg_x17 := i_range x17
            refine jc_in (fun (x : Unit) (κ' : CS) => κ = κ' ∧ ((True))) (fun x22 κ23 hJ => ?_) (fun K24 hK24 => ?_)
            · obtain ⟨hsg, hv⟩ := hJ
              subst hsg
              (try dsimp only at hv)
              refine ⟨b_a2, e_a2, (hV.mm hs_a2 (by decide) rfl), ?_⟩
              intro z27 ez27
              have vz27 := hV.1.iv hs_a2 (by decide) rfl 7 0 1 rfl ez27
              have wz27 : z27.toInt = (sI κ.1 b_a2 7).toInt := by rw [ez27]
              refine jc_in (fun (x : Unit) (κ' : CS) => κ = κ' ∧ ((True))) (fun x28 κ29 hJ => ?_) (fun K30 hK30 => ?_)
              · obtain ⟨hsg, hv⟩ := hJ
                subst hsg
                (try dsimp only at hv)
                refine ⟨(hV.mm hs_h (by decide) rfl), ?_⟩
                intro z33 ez33
                obtain ⟨bz33, ebz33, hsz33⟩ := hV.1.nn hs_h (by decide) rfl 10 rfl (by decide)
                rw [← ez33] at ebz33
                refine ⟨bz33, ebz33, (hV.mm hsz33 (by decide) rfl), ?_⟩
                refine t_Jx4a65c_size_8abf5 hV bz33 hsz33 (by decide) (fun z35 pz35 => ?_)
                have rg_z35 := i_range z35
                refine jc_dup ?_
                refine ⟨fun c3 => ?_, fun c3 => ?_⟩
                · (try dsimp only)
                  exact kk 0 ⟨fun _ => ⟨bz33, ez33.symm.trans ebz33, hsz33, by omega⟩, by omega⟩
                · (try dsimp only)
                  exact kk (-1073741670) ⟨fun h => absurd h (by omega), by omega⟩
              · skip
                refine ⟨fun c4 => ?_, fun c4 => ?_⟩
                · exact hK30 () κ ⟨rfl, trivial⟩
                · refine jc_dup ?_
                  refine ⟨fun c5 => ?_, fun c5 => ?_⟩
                  · (try dsimp only)
                    exact kk (-1073741535) ⟨fun h => absurd h (by omega), by omega⟩
                  · refine ⟨b_a1, e_a1, (hV.mm hs_a1 (by decide) rfl), ?_⟩
                    intro z46 ez46
                    have vz46 := hV.1.iv hs_a1 (by decide) rfl 4 (-2147483648) 2147483647 rfl ez46
                    have wz46 : z46.toInt = (sI κ.1 b_a1 4).toInt := by rw [ez46]
                    refine ⟨fun c6 => ?_, fun c6 => ?_⟩
                    · exact hK30 () κ ⟨rfl, trivial⟩
                    · (try dsimp only)
                      exact kk (-1073741535) ⟨fun h => absurd h (by omega), by omega⟩
            · skip
              refine ⟨fun c7 => ?_, fun c7 => ?_⟩
              · exact hK24 () κ ⟨rfl, trivial⟩
              · refine ⟨b_a2, e_a2, (hV.mm hs_a2 (by decide) rfl), ?_⟩
                intro z47 ez47
                have vz47 := hV.1.iv hs_a2 (by decide) rfl 1 (-2147483648) 2147483647 rfl ez47
                have wz47 : z47.toInt = (sI κ.1 b_a2 1).toInt := by rw [ez47]
                intro z48 ez48
                try have hz48 := i_and ez48 (by omega)
                have rg_z48 := i_range z48
                refine jc_dup ?_
                refine ⟨fun c8 => ?_, fun c8 => ?_⟩
                · (try dsimp only)
                  exact kk (-1073741790) ⟨fun h => absurd h (by omega), by omega⟩
                · refine ⟨b_a2, e_a2, (hV.mm hs_a2 (by decide) rfl), ?_⟩
                  refine t_X10_empties hV b_a2 hs_a2  (fun z55 pz55 => ?_)
                  have rg_z55 := i_range z55
                  refine ⟨fun c9 => ?_, fun c9 => ?_⟩
                  · exact hK24 () κ ⟨rfl, trivial⟩
                  · (try dsimp only)
                    exact kk (-1073741790) ⟨fun h => absurd h (by omega), by omega⟩
          · skip
            refine ⟨fun c10 => ?_, fun c10 => ?_⟩
            · exact hK19 0 κ ⟨rfl, (by (try dsimp only); omega)⟩
            · exact hK19 1 κ ⟨rfl, (by (try dsimp only); omega)⟩
        · skip
          refine ⟨fun c11 => ?_, fun c11 => ?_⟩
          · exact hK12 () κ ⟨rfl, trivial⟩
          · refine ⟨b_a2, e_a2, (hV.mm hs_a2 (by decide) rfl), ?_⟩
            intro z56 ez56
            have vz56 := hV.1.iv hs_a2 (by decide) rfl 5 0 1 rfl ez56
            have wz56 : z56.toInt = (sI κ.1 b_a2 5).toInt := by rw [ez56]
            refine ⟨fun c12 => ?_, fun c12 => ?_⟩
            · exact hK12 () κ ⟨rfl, trivial⟩
            · exact kk (-1073741565) ⟨fun h => absurd h (by omega), by omega⟩
      · skip
        refine ⟨fun c13 => ?_, fun c13 => ?_⟩
        · exact hK6 () κ ⟨rfl, trivial⟩
        · refine ⟨b_a2, e_a2, (hV.mm hs_a2 (by decide) rfl), ?_⟩
          intro z57 ez57
          have vz57 := hV.1.iv hs_a2 (by decide) rfl 6 0 1 rfl ez57
          have wz57 : z57.toInt = (sI κ.1 b_a2 6).toInt := by rw [ez57]
          refine jc_dup ?_
          refine ⟨fun c14 => ?_, fun c14 => ?_⟩
          · (try dsimp only)
            exact kk (-1073741638) ⟨fun h => absurd h (by omega), by omega⟩
          · refine ⟨b_a2, e_a2, (hV.mm hs_a2 (by decide) rfl), ?_⟩
            refine t_X10_empties hV b_a2 hs_a2  (fun z64 pz64 => ?_)
            have rg_z64 := i_range z64
            refine ⟨fun c15 => ?_, fun c15 => ?_⟩
            · exact hK6 () κ ⟨rfl, trivial⟩
            · (try dsimp only)
              exact kk (-1073741638) ⟨fun h => absurd h (by omega), by omega⟩
    · exact kk (-1073741771) ⟨fun h => absurd h (by omega), by omega⟩
  · exact kk (-1073741738) ⟨fun h => absurd h (by omega), by omega⟩
set_option maxRecDepth 100000 in
set_option maxHeartbeats 4000000 in
theorem t_X11_addOpen {G : GE} {E : CE} {W0 : CW} {c : Int} {κ : CS} (hV : CV G E W0 c κ) (h : Nat) (hs_h : W0.1 h = 1) (a1 : Option Nat) (b_a1 : Nat) (e_a1 : a1 = some b_a1) (hs_a1 : W0.1 b_a1 = 8) (a2 : Option Nat) (b_a2 : Nat) (e_a2 : a2 = some b_a2) (hs_a2 : W0.1 b_a2 = 5) (a3 : Int32) (a4 : Option Nat) (b_a4 : Nat) (e_a4 : a4 = some b_a4) (hs_a4 : W0.1 b_a4 = 61) (hk0 : ∃ b, sP κ.1 b_a1 14 = some b ∧ W0.1 b = 12 ∧ (True)) (hk1 : ∃ b, sP κ.1 h 10 = some b ∧ W0.1 b = 42 ∧ ((sI κ.1 b 2).toInt ≤ 39))  (hc : 153 ≤ c) {post : CS → Prop} (kk : ∀ (W' : CW) (κ' : CS), WX W0 W' κ → CV G E W' (c - 153) κ' → CF [(10, 3), (10, 4), (10, 5), (10, 7), (20, 0), (33, 0), (42, 0), (42, 1), (42, 2), (52, 0), (61, 0), (61, 1), (8, 15)] W0 κ κ' → (True) → post κ') : F_X11_addOpen G h a1 a2 a3 a4 post κ := by
  have hs0_h := hs_h
  have hs0_a1 := hs_a1
  have hs0_a2 := hs_a2
  have hs0_a4 := hs_a4
  have hk00 := hk0
  have hk10 := hk1
  suffices H_ : ∀ W : CW, WX W0 W κ → CV G E W (c - 0) κ → (W.1 h = 1) → (W.1 b_a1 = 8) → (W.1 b_a2 = 5) → (W.1 b_a4 = 61) → (∃ b, sP κ.1 b_a1 14 = some b ∧ W.1 b = 12 ∧ (True)) → (∃ b, sP κ.1 h 10 = some b ∧ W.1 b = 42 ∧ ((sI κ.1 b 2).toInt ≤ 39)) → F_X11_addOpen G h a1 a2 a3 a4 post κ from H_ W0 WX.rf (hV.dn (by omega)) hs_h hs_a1 hs_a2 hs_a4 hk0 hk1
  intro W hx hV hs_h hs_a1 hs_a2 hs_a4 hk0 hk1
  unfold F_X11_addOpen
  have hfr : CF [(10, 3), (10, 4), (10, 5), (10, 7), (20, 0), (33, 0), (42, 0), (42, 1), (42, 2), (52, 0), (61, 0), (61, 1), (8, 15)] W0 κ κ := CF.rf
  have k_0 : (0 : Int32).toInt = 0 := rfl
  have k_1 : (1 : Int32).toInt = 1 := rfl
  have k_2 : (2 : Int32).toInt = 2 := rfl
  have k_4 : (4 : Int32).toInt = 4 := rfl
  have k_8 : (8 : Int32).toInt = 8 := rfl
  have k_64 : (64 : Int32).toInt = 64 := rfl
  have k_66 : (66 : Int32).toInt = 66 := rfl
  have k_68 : (68 : Int32).toInt = 68 := rfl
  have k_89 : (89 : Int32).toInt = 89 := rfl
  have k_128 : (128 : Int32).toInt = 128 := rfl
  have k_136 : (136 : Int32).toInt = 136 := rfl
  have k_152 : (152 : Int32).toInt = 152 := rfl
  have kl_1 : (1 : Int64).toInt = 1 := rfl
  have kl_2 : (2 : Int64).toInt = 2 := rfl
  have kl_4 : (4 : Int64).toInt = 4 := rfl
  have kl_8 : (8 : Int64).toInt = 8 := rfl
  have kl_64 : (64 : Int64).toInt = 64 := rfl
  have kl_66 : (66 : Int64).toInt = 66 := rfl
  have kl_68 : (68 : Int64).toInt = 68 := rfl
  have kl_89 : (89 : Int64).toInt = 89 := rfl
  have kl_128 : (128 : Int64).toInt = 128 := rfl
  have kl_136 : (136 : Int64).toInt = 136 := rfl
  have kl_152 : (152 : Int64).toInt = 152 := rfl
  have rg_a3 := i_range a3
  obtain ⟨bp0, ep0, wp0, xp0⟩ := hk0
  obtain ⟨bp1, ep1, wp1, xp1⟩ := hk1
  refine ⟨b_a1, e_a1, (hV.mm hs_a1 (by decide) rfl), ?_⟩
  intro z1 ez1
  have nz1 := hV.1.nl hs_a1 (by decide) rfl 17 rfl (by decide)
  rw [← ez1] at nz1
  refine ⟨fun c1 => ?_, fun c1 => ?_⟩
  · obtain ⟨bn1, ebn1, hsn1⟩ := nz1.resolve_left c1
    refine ⟨bn1, ebn1, (hV.mm hsn1 (by decide) rfl), ?_⟩
    intro z2 ez2
    have vz2 := hV.1.iv hsn1 (by decide) rfl 0 (-2147483648) 2147483647 rfl ez2
    have wz2 : z2.toInt = (sI κ.1 bn1 0).toInt := by rw [ez2]
    refine ⟨(hV.mm hs_h (by decide) rfl), ?_⟩
    refine t_X11_granted hV h hs_h a2 b_a2 e_a2 hs_a2 z2  (fun z4 pz4 => ?_)
    have rg_z4 := i_range z4
    have hbd_ := hV.bud
    refine ⟨by omega, ?_⟩
    intro o5 hn_o5 κ6 eκ6
    have hpn_o5 : PO G E W κ6 o5 10 [1, 2, 13] := PO.new hV hn_o5 eκ6 rfl (by decide)
    have f1κ6 : CF [] W κ κ6 := CF.rf.uN hV.1 hn_o5 eκ6
    have hq0_o5 : o5 ∉ sL κ.1 := fun h => hn_o5 (hfr.sl o5 h)
    have hV := hV.newO hn_o5 (by omega) eκ6
    have hV : CV G E W (c - 27) κ6 := hV.dn (by omega)
    have tk1 : (sI κ6.1 bp1 2).toInt = (sI κ.1 bp1 2).toInt := by rw [(f1κ6.1 bp1 (by rw [wp1]; decide) 2 (by rw [wp1]; decide)).1]
    have pk2 := (f1κ6.1 b_a1 (by rw [hs_a1]; decide) 14 (by rw [hs_a1]; decide)).2.2.trans ep0
    have pk3 := (f1κ6.1 h (by rw [hs_h]; decide) 10 (by rw [hs_h]; decide)).2.2.trans ep1
    have hfr := hfr.trW hx f1κ6 (by decide)
    have hp_o5 := hpn_o5
    refine ⟨(hV.mm hs_h (by decide) rfl), ?_⟩
    refine t_X11_nextSerial hV h hs_h 2  (fun z8 κ7 hV fκ7 pz8 => ?_)
    have tk4 : (sI κ7.1 bp1 2).toInt = (sI κ6.1 bp1 2).toInt := by rw [(fκ7.1 bp1 (by rw [wp1]; decide) 2 (by rw [wp1]; decide)).1]
    have pk5 := (fκ7.1 b_a1 (by rw [hs_a1]; decide) 14 (by rw [hs_a1]; decide)).2.2.trans pk2
    have pk6 := (fκ7.1 h (by rw [hs_h]; decide) 10 (by rw [hs_h]; decide)).2.2.trans pk3
    have hfr := hfr.trW hx fκ7 (by decide)
    have hp_o5 := (hp_o5).fr fκ7 WX.rf
    have rg_z8 := l_range z8
    refine ⟨b_a1, e_a1, (hV.mm hs_a1 (by decide) rfl), ?_⟩
    intro z9 ez9
    have ebz9 : z9 = some bp0 := ez9.trans pk5
    have hq_ := (hp_o5).1
    refine t_X5_init hV o5 hp_o5 z8 z9 bp0 ebz9 wp0 a2 b_a2 e_a2 hs_a2  (by omega) (fun W κ10 x1_ hV fκ10 hp_o5 pκ10 => ?_)
    have hV : CV G E W (c - 51) κ10 := hV.dn (by omega)
    have pk7 := (fκ10.1 b_a1 (by rw [hs_a1]; decide) 14 (by rw [hs_a1]; decide)).2.2.trans pk5
    have pk8 := (fκ10.1 h (by rw [hs_h]; decide) 10 (by rw [hs_h]; decide)).2.2.trans pk6
    have tk9 : (sI κ10.1 bp1 2).toInt = (sI κ7.1 bp1 2).toInt := by rw [(fκ10.1 bp1 (by rw [wp1]; decide) 2 (by rw [wp1]; decide)).1]
    have hx2 := hx.tr x1_ hfr.sl
    have hfr := hfr.trX hx hq0_o5 hq_ fκ10 (by decide)
    obtain ⟨W, xa_, hV, hs_o5⟩ := hV.addO hp_o5 (by decide)
    have hx := hx2.add hq0_o5 xa_
    have hs_h := WLe.at (x1_.1.tr xa_.1) hs_h (by decide)
    have hs_a1 := WLe.at (x1_.1.tr xa_.1) hs_a1 (by decide)
    have hs_a2 := WLe.at (x1_.1.tr xa_.1) hs_a2 (by decide)
    have hs_a4 := WLe.at (x1_.1.tr xa_.1) hs_a4 (by decide)
    have wp0 := WLe.at (x1_.1.tr xa_.1) wp0 (by decide)
    have wp1 := WLe.at (x1_.1.tr xa_.1) wp1 (by decide)
    have hsn1 := WLe.at (x1_.1.tr xa_.1) hsn1 (by decide)
    refine ⟨bn1, ebn1, (hV.mm hsn1 (by decide) rfl), ?_⟩
    intro z12 ez12
    have vz12 := hV.1.iv hsn1 (by decide) rfl 1 (-2147483648) 2147483647 rfl ez12
    have wz12 : z12.toInt = (sI κ10.1 bn1 1).toInt := by rw [ez12]
    refine ⟨(hV.mm hs_o5 (by decide) rfl), ?_⟩
    intro κ13 eκ13
    have rv_κ13 := i_range z12
    have hV := hV.uI (k := 3) (v := z12) hs_o5 (Or.inl rfl) (Or.inl (by decide)) (Or.inl (by decide)) (fun _ => (by omega : (-2147483648 : Int) ≤ (z12 : Int32).toInt ∧ (z12 : Int32).toInt ≤ 2147483647)) eκ13
    have uκ13 : (sI κ13.1 o5 3).toInt = (z12 : Int32).toInt := by rw [eκ13]; exact congrArg Int32.toInt u2_same
    have f1κ13 : CF [(10, 3)] W κ10 κ13 := CF.rf.uI (k := 3) hs_o5 (by decide) (show ((10, 3) : Nat × Nat) ∈ ([(10, 3)] : List (Nat × Nat)) by simp) eκ13
    have tk10 : (sI κ13.1 bp1 2).toInt = (sI κ10.1 bp1 2).toInt := by rw [(f1κ13.1 bp1 (by rw [wp1]; decide) 2 (by rw [wp1]; decide)).1]
    have pk11 := (f1κ13.1 b_a1 (by rw [hs_a1]; decide) 14 (by rw [hs_a1]; decide)).2.2.trans pk7
    have pk12 := (f1κ13.1 h (by rw [hs_h]; decide) 10 (by rw [hs_h]; decide)).2.2.trans pk8
    have hfr := hfr.trW hx f1κ13 (by decide)
    refine ⟨bn1, ebn1, (hV.mm hsn1 (by decide) rfl), ?_⟩
    intro z14 ez14
    have vz14 := hV.1.iv hsn1 (by decide) rfl 3 (-2147483648) 2147483647 rfl ez14
    have wz14 : z14.toInt = (sI κ13.1 bn1 3).toInt := by rw [ez14]
    refine ⟨(hV.mm hs_o5 (by decide) rfl), ?_⟩
    intro κ15 eκ15
    have rv_κ15 := i_range z14
    have hV := hV.uI (k := 4) (v := z14) hs_o5 (Or.inl rfl) (Or.inl (by decide)) (Or.inl (by decide)) (fun _ => (by omega : (-2147483648 : Int) ≤ (z14 : Int32).toInt ∧ (z14 : Int32).toInt ≤ 2147483647)) eκ15
    have uκ15 : (sI κ15.1 o5 4).toInt = (z14 : Int32).toInt := by rw [eκ15]; exact congrArg Int32.toInt u2_same
    have f1κ15 : CF [(10, 4)] W κ13 κ15 := CF.rf.uI (k := 4) hs_o5 (by decide) (show ((10, 4) : Nat × Nat) ∈ ([(10, 4)] : List (Nat × Nat)) by simp) eκ15
    have tk13 : (sI κ15.1 bp1 2).toInt = (sI κ13.1 bp1 2).toInt := by rw [(f1κ15.1 bp1 (by rw [wp1]; decide) 2 (by rw [wp1]; decide)).1]
    have pk14 := (f1κ15.1 b_a1 (by rw [hs_a1]; decide) 14 (by rw [hs_a1]; decide)).2.2.trans pk11
    have pk15 := (f1κ15.1 h (by rw [hs_h]; decide) 10 (by rw [hs_h]; decide)).2.2.trans pk12
    have hfr := hfr.trW hx f1κ15 (by decide)
    refine ⟨bn1, ebn1, (hV.mm hsn1 (by decide) rfl), ?_⟩
    intro z16 ez16
    have vz16 := hV.1.iv hsn1 (by decide) rfl 7 0 1 rfl ez16
    have wz16 : z16.toInt = (sI κ15.1 bn1 7).toInt := by rw [ez16]
    refine ⟨by omega, (hV.mm hs_o5 (by decide) rfl), ?_⟩
    intro κ17 eκ17
    have rv_κ17 := i_range z16
    have hV := hV.uI (k := 5) (v := z16) hs_o5 (Or.inl rfl) (Or.inl (by decide)) (Or.inl (by decide)) (fun _ => (by omega : (0 : Int) ≤ (z16 : Int32).toInt ∧ (z16 : Int32).toInt ≤ 1)) eκ17
    have uκ17 : (sI κ17.1 o5 5).toInt = (z16 : Int32).toInt := by rw [eκ17]; exact congrArg Int32.toInt u2_same
    have f1κ17 : CF [(10, 5)] W κ15 κ17 := CF.rf.uI (k := 5) hs_o5 (by decide) (show ((10, 5) : Nat × Nat) ∈ ([(10, 5)] : List (Nat × Nat)) by simp) eκ17
    have tk16 : (sI κ17.1 bp1 2).toInt = (sI κ15.1 bp1 2).toInt := by rw [(f1κ17.1 bp1 (by rw [wp1]; decide) 2 (by rw [wp1]; decide)).1]
    have pk17 := (f1κ17.1 b_a1 (by rw [hs_a1]; decide) 14 (by rw [hs_a1]; decide)).2.2.trans pk14
    have pk18 := (f1κ17.1 h (by rw [hs_h]; decide) 10 (by rw [hs_h]; decide)).2.2.trans pk15
    have hfr := hfr.trW hx f1κ17 (by decide)
    refine ⟨(hV.mm hs_o5 (by decide) rfl), ?_⟩
    intro κ18 eκ18
    have rv_κ18 := i_range z4
    have hV := hV.uI (k := 7) (v := z4) hs_o5 (Or.inl rfl) (Or.inl (by decide)) (Or.inl (by decide)) (fun _ => (by omega : (-2147483648 : Int) ≤ (z4 : Int32).toInt ∧ (z4 : Int32).toInt ≤ 2147483647)) eκ18
    have uκ18 : (sI κ18.1 o5 7).toInt = (z4 : Int32).toInt := by rw [eκ18]; exact congrArg Int32.toInt u2_same
    have f1κ18 : CF [(10, 7)] W κ17 κ18 := CF.rf.uI (k := 7) hs_o5 (by decide) (show ((10, 7) : Nat × Nat) ∈ ([(10, 7)] : List (Nat × Nat)) by simp) eκ18
    have tk19 : (sI κ18.1 bp1 2).toInt = (sI κ17.1 bp1 2).toInt := by rw [(f1κ18.1 bp1 (by rw [wp1]; decide) 2 (by rw [wp1]; decide)).1]
    have pk20 := (f1κ18.1 b_a1 (by rw [hs_a1]; decide) 14 (by rw [hs_a1]; decide)).2.2.trans pk17
    have pk21 := (f1κ18.1 h (by rw [hs_h]; decide) 10 (by rw [hs_h]; decide)).2.2.trans pk18
    have hfr := hfr.trW hx f1κ18 (by decide)
    refine ⟨(hV.mm hs_h (by decide) rfl), ?_⟩
    intro z19 ez19
    have ebz19 : z19 = some bp1 := ez19.trans pk21
    refine ⟨bp1, ebz19, (hV.mm wp1 (by decide) rfl), ?_⟩
    refine t_Jx4a65c_add_9ea2d hV bp1 wp1 (by decide) (some o5) o5 rfl hs_o5 (by omega) 102 (by decide) (by omega) (fun z21 W κ20 x1_ hV fκ20 pz21 => ?_)
    have hV : CV G E W (c - 153) κ20 := hV.dn (by omega)
    have pk22 := (fκ20.1 b_a1 (by rw [hs_a1]; decide) 14 (by rw [hs_a1]; decide)).2.2.trans pk20
    have pk23 := (fκ20.1 h (by rw [hs_h]; decide) 10 (by rw [hs_h]; decide)).2.2.trans pk21
    have hx2 := hx.tr x1_ hfr.sl
    have hfr := hfr.trW hx fκ20 (by decide)
    have hs_h := WLe.at (x1_).1 hs_h (by decide)
    have hs_a1 := WLe.at (x1_).1 hs_a1 (by decide)
    have hs_a2 := WLe.at (x1_).1 hs_a2 (by decide)
    have hs_a4 := WLe.at (x1_).1 hs_a4 (by decide)
    have wp0 := WLe.at (x1_).1 wp0 (by decide)
    have wp1 := WLe.at (x1_).1 wp1 (by decide)
    have hsn1 := WLe.at (x1_).1 hsn1 (by decide)
    have hs_o5 := WLe.at (x1_).1 hs_o5 (by decide)
    have hx := hx2
    refine ⟨b_a1, e_a1, (hV.mm hs_a1 (by decide) rfl), ?_⟩
    intro κ22 eκ22
    have hV := hV.uP (k := 15) (v := (some o5)) hs_a1 rfl (Or.inl (by decide)) (by decide) (by decide) (fun _ => (Or.inr (Or.inr (Or.inr ⟨o5, rfl, hs_o5⟩)))) eκ22
    have f1κ22 : CF [(8, 15)] W κ20 κ22 := CF.rf.uP (k := 15) hs_a1 (by decide) (show ((8, 15) : Nat × Nat) ∈ ([(8, 15)] : List (Nat × Nat)) by simp) eκ22
    have tk24 : (sI κ22.1 bp1 2).toInt = (sI κ20.1 bp1 2).toInt := by rw [(f1κ22.1 bp1 (by rw [wp1]; decide) 2 (by rw [wp1]; decide)).1]
    have pk25 := (f1κ22.1 b_a1 (by rw [hs_a1]; decide) 14 (by rw [hs_a1]; decide)).2.2.trans pk22
    have pk26 := (f1κ22.1 h (by rw [hs_h]; decide) 10 (by rw [hs_h]; decide)).2.2.trans pk23
    have hfr := hfr.trW hx f1κ22 (by decide)
    refine ⟨b_a4, e_a4, (hV.mm hs_a4 (by decide) rfl), ?_⟩
    refine t_X6_begin hV b_a4 hs_a4 152 (by omega) (by omega) (fun W κ23 x1_ hV fκ23 pu4 => ?_)
    have hV : CV G E W (c - 153) κ23 := hV.dn (by omega)
    have tk27 : (sI κ23.1 bp1 2).toInt = (sI κ22.1 bp1 2).toInt := by rw [(fκ23.1 bp1 (by rw [wp1]; decide) 2 (by rw [wp1]; decide)).1]
    have pk28 := (fκ23.1 b_a1 (by rw [hs_a1]; decide) 14 (by rw [hs_a1]; decide)).2.2.trans pk25
    have pk29 := (fκ23.1 h (by rw [hs_h]; decide) 10 (by rw [hs_h]; decide)).2.2.trans pk26
    have hx2 := hx.tr x1_ hfr.sl
    have hfr := hfr.trW hx fκ23 (by decide)
    have hs_h := WLe.at (x1_).1 hs_h (by decide)
    have hs_a1 := WLe.at (x1_).1 hs_a1 (by decide)
    have hs_a2 := WLe.at (x1_).1 hs_a2 (by decide)
    have hs_a4 := WLe.at (x1_).1 hs_a4 (by decide)
    have wp0 := WLe.at (x1_).1 wp0 (by decide)
    have wp1 := WLe.at (x1_).1 wp1 (by decide)
    have hsn1 := WLe.at (x1_).1 hsn1 (by decide)
    have hs_o5 := WLe.at (x1_).1 hs_o5 (by decide)
    have hx := hx2
    refine ⟨b_a4, e_a4, (hV.mm hs_a4 (by decide) rfl), ?_⟩
    refine t_X6_put hV b_a4 hs_a4 rfl 64 2 89  (fun κ25 hV fκ25 pu5 => ?_)
    have tk30 : (sI κ25.1 bp1 2).toInt = (sI κ23.1 bp1 2).toInt := by rw [(fκ25.1 bp1 (by rw [wp1]; decide) 2 (by rw [wp1]; decide)).1]
    have pk31 := (fκ25.1 b_a1 (by rw [hs_a1]; decide) 14 (by rw [hs_a1]; decide)).2.2.trans pk28
    have pk32 := (fκ25.1 h (by rw [hs_h]; decide) 10 (by rw [hs_h]; decide)).2.2.trans pk29
    have hfr := hfr.trW hx fκ25 (by decide)
    intro z27 ez27
    have hz27 := i_tol ez27
    have rg_z27 := l_range z27
    refine ⟨b_a4, e_a4, (hV.mm hs_a4 (by decide) rfl), ?_⟩
    refine t_X6_put hV b_a4 hs_a4 rfl 66 1 z27  (fun κ28 hV fκ28 pu6 => ?_)
    have tk33 : (sI κ28.1 bp1 2).toInt = (sI κ25.1 bp1 2).toInt := by rw [(fκ28.1 bp1 (by rw [wp1]; decide) 2 (by rw [wp1]; decide)).1]
    have pk34 := (fκ28.1 b_a1 (by rw [hs_a1]; decide) 14 (by rw [hs_a1]; decide)).2.2.trans pk31
    have pk35 := (fκ28.1 h (by rw [hs_h]; decide) 10 (by rw [hs_h]; decide)).2.2.trans pk32
    have hfr := hfr.trW hx fκ28 (by decide)
    intro z30 ez30
    have hz30 := i_tol ez30
    have rg_z30 := l_range z30
    refine ⟨b_a4, e_a4, (hV.mm hs_a4 (by decide) rfl), ?_⟩
    refine t_X6_put hV b_a4 hs_a4 rfl 68 4 z30  (fun κ31 hV fκ31 pu7 => ?_)
    have tk36 : (sI κ31.1 bp1 2).toInt = (sI κ28.1 bp1 2).toInt := by rw [(fκ31.1 bp1 (by rw [wp1]; decide) 2 (by rw [wp1]; decide)).1]
    have pk37 := (fκ31.1 b_a1 (by rw [hs_a1]; decide) 14 (by rw [hs_a1]; decide)).2.2.trans pk34
    have pk38 := (fκ31.1 h (by rw [hs_h]; decide) 10 (by rw [hs_h]; decide)).2.2.trans pk35
    have hfr := hfr.trW hx fκ31 (by decide)
    refine ⟨b_a2, e_a2, (hV.mm hs_a2 (by decide) rfl), ?_⟩
    refine t_X4_tellAll hV b_a2 hs_a2 a4 b_a4 e_a4 hs_a4 rfl  (fun κ33 hV fκ33 pu8 => ?_)
    have tk39 : (sI κ33.1 bp1 2).toInt = (sI κ31.1 bp1 2).toInt := by rw [(fκ33.1 bp1 (by rw [wp1]; decide) 2 (by rw [wp1]; decide)).1]
    have pk40 := (fκ33.1 b_a1 (by rw [hs_a1]; decide) 14 (by rw [hs_a1]; decide)).2.2.trans pk37
    have pk41 := (fκ33.1 h (by rw [hs_h]; decide) 10 (by rw [hs_h]; decide)).2.2.trans pk38
    have hfr := hfr.trW hx fκ33 (by decide)
    refine ⟨(hV.mm hs_o5 (by decide) rfl), ?_⟩
    intro z35 ez35
    have vz35 := l_range z35
    have wz35 : z35.toInt = (sJ κ33.1 o5 0).toInt := by rw [ez35]
    refine ⟨b_a4, e_a4, (hV.mm hs_a4 (by decide) rfl), ?_⟩
    refine t_X6_put hV b_a4 hs_a4 rfl 128 8 z35  (fun κ36 hV fκ36 pu9 => ?_)
    have tk42 : (sI κ36.1 bp1 2).toInt = (sI κ33.1 bp1 2).toInt := by rw [(fκ36.1 bp1 (by rw [wp1]; decide) 2 (by rw [wp1]; decide)).1]
    have pk43 := (fκ36.1 b_a1 (by rw [hs_a1]; decide) 14 (by rw [hs_a1]; decide)).2.2.trans pk40
    have pk44 := (fκ36.1 h (by rw [hs_h]; decide) 10 (by rw [hs_h]; decide)).2.2.trans pk41
    have hfr := hfr.trW hx fκ36 (by decide)
    refine ⟨(hV.mm hs_o5 (by decide) rfl), ?_⟩
    intro z38 ez38
    have vz38 := l_range z38
    have wz38 : z38.toInt = (sJ κ36.1 o5 0).toInt := by rw [ez38]
    refine ⟨b_a4, e_a4, (hV.mm hs_a4 (by decide) rfl), ?_⟩
    refine t_X6_put hV b_a4 hs_a4 rfl 136 8 z38  (fun κ39 hV fκ39 pu10 => ?_)
    have tk45 : (sI κ39.1 bp1 2).toInt = (sI κ36.1 bp1 2).toInt := by rw [(fκ39.1 bp1 (by rw [wp1]; decide) 2 (by rw [wp1]; decide)).1]
    have pk46 := (fκ39.1 b_a1 (by rw [hs_a1]; decide) 14 (by rw [hs_a1]; decide)).2.2.trans pk43
    have pk47 := (fκ39.1 h (by rw [hs_h]; decide) 10 (by rw [hs_h]; decide)).2.2.trans pk44
    have hfr := hfr.trW hx fκ39 (by decide)
    exact kk W κ39 hx (hV.dn (by omega)) hfr trivial
  · exact kk W κ hx (hV.dn (by omega)) hfr trivial
set_option maxRecDepth 100000 in
set_option maxHeartbeats 4000000 in
theorem t_X11_openNew {G : GE} {E : CE} {W0 : CW} {c : Int} {κ : CS} (hV : CV G E W0 c κ) (h : Nat) (hs_h : W0.1 h = 1) (a1 : Option Nat) (b_a1 : Nat) (e_a1 : a1 = some b_a1) (hs_a1 : W0.1 b_a1 = 8) (a2 : Option Nat) (b_a2 : Nat) (e_a2 : a2 = some b_a2) (hs_a2 : W0.1 b_a2 = 13) (a3 : Option Nat) (b_a3 : Nat) (e_a3 : a3 = some b_a3) (hs_a3 : W0.1 b_a3 = 61) (hk0 : ∃ b, sP κ.1 b_a1 14 = some b ∧ W0.1 b = 12 ∧ (True)) (hk1 : ∃ b, sP κ.1 b_a2 10 = some b ∧ W0.1 b = 5 ∧ (True))  (hc : 153 ≤ c) {post : Int32 → CS → Prop} (kk : ∀ (r : Int32) (W' : CW) (κ' : CS), WX W0 W' κ → CV G E W' (c - 153) κ' → CF [(1, 6), (10, 3), (10, 4), (10, 5), (10, 7), (20, 0), (30, 0), (33, 0), (4, 0), (4, 1), (4, 10), (4, 11), (4, 12), (4, 13), (4, 2), (4, 3), (4, 5), (4, 6), (4, 7), (4, 8), (4, 9), (42, 0), (42, 1), (42, 2), (5, 1), (5, 10), (5, 11), (5, 12), (5, 13), (5, 2), (5, 3), (5, 4), (5, 6), (5, 7), (5, 8), (5, 9), (52, 0), (6, 1), (61, 0), (61, 1), (8, 15)] W0 κ κ' → (r.toInt ≠ 259) → post r κ') : F_X11_openNew G h a1 a2 a3 post κ := by
  have hs0_h := hs_h
  have hs0_a1 := hs_a1
  have hs0_a2 := hs_a2
  have hs0_a3 := hs_a3
  have hk00 := hk0
  have hk10 := hk1
  suffices H_ : ∀ W : CW, WX W0 W κ → CV G E W (c - 0) κ → (W.1 h = 1) → (W.1 b_a1 = 8) → (W.1 b_a2 = 13) → (W.1 b_a3 = 61) → (∃ b, sP κ.1 b_a1 14 = some b ∧ W.1 b = 12 ∧ (True)) → (∃ b, sP κ.1 b_a2 10 = some b ∧ W.1 b = 5 ∧ (True)) → F_X11_openNew G h a1 a2 a3 post κ from H_ W0 WX.rf (hV.dn (by omega)) hs_h hs_a1 hs_a2 hs_a3 hk0 hk1
  intro W hx hV hs_h hs_a1 hs_a2 hs_a3 hk0 hk1
  unfold F_X11_openNew
  have hfr : CF [(1, 6), (10, 3), (10, 4), (10, 5), (10, 7), (20, 0), (30, 0), (33, 0), (4, 0), (4, 1), (4, 10), (4, 11), (4, 12), (4, 13), (4, 2), (4, 3), (4, 5), (4, 6), (4, 7), (4, 8), (4, 9), (42, 0), (42, 1), (42, 2), (5, 1), (5, 10), (5, 11), (5, 12), (5, 13), (5, 2), (5, 3), (5, 4), (5, 6), (5, 7), (5, 8), (5, 9), (52, 0), (6, 1), (61, 0), (61, 1), (8, 15)] W0 κ κ := CF.rf
  have k_m1073741772 : ((-1073741772) : Int32).toInt = (-1073741772) := rfl
  have k_m1073741697 : ((-1073741697) : Int32).toInt = (-1073741697) := rfl
  have k_m1073741670 : ((-1073741670) : Int32).toInt = (-1073741670) := rfl
  have k_0 : (0 : Int32).toInt = 0 := rfl
  have k_1 : (1 : Int32).toInt = 1 := rfl
  have k_2 : (2 : Int32).toInt = 2 := rfl
  have k_4 : (4 : Int32).toInt = 4 := rfl
  have k_40 : (40 : Int32).toInt = 40 := rfl
  have kl_m1073741772 : ((-1073741772) : Int64).toInt = (-1073741772) := rfl
  have kl_m1073741697 : ((-1073741697) : Int64).toInt = (-1073741697) := rfl
  have kl_m1073741670 : ((-1073741670) : Int64).toInt = (-1073741670) := rfl
  have kl_0 : (0 : Int64).toInt = 0 := rfl
  have kl_2 : (2 : Int64).toInt = 2 := rfl
  obtain ⟨bp0, ep0, wp0, xp0⟩ := hk0
  obtain ⟨bp1, ep1, wp1, xp1⟩ := hk1
  refine ⟨b_a2, e_a2, (hV.mm hs_a2 (by decide) rfl), ?_⟩
  intro z1 ez1
  have vz1 := hV.1.iv hs_a2 (by decide) rfl 4 (-2147483648) 2147483647 rfl ez1
  have wz1 : z1.toInt = (sI κ.1 b_a2 4).toInt := by rw [ez1]
  refine jc_dup ?_
  refine ⟨fun c1 => ?_, fun c1 => ?_⟩
  · (try dsimp only)
    exact kk (-1073741772) W κ hx (hV.dn (by omega)) hfr (by omega)
  · refine ⟨b_a2, e_a2, (hV.mm hs_a2 (by decide) rfl), ?_⟩
    intro z7 ez7
    have vz7 := hV.1.iv hs_a2 (by decide) rfl 4 (-2147483648) 2147483647 rfl ez7
    have wz7 : z7.toInt = (sI κ.1 b_a2 4).toInt := by rw [ez7]
    refine ⟨fun c2 => ?_, fun c2 => ?_⟩
    · refine ⟨(hV.mm hs_h (by decide) rfl), ?_⟩
      intro z8 ez8
      obtain ⟨bz8, ebz8, hsz8⟩ := hV.1.nn hs_h (by decide) rfl 10 rfl (by decide)
      have pk_z8 := ebz8
      have ebz8 := ez8.trans ebz8
      refine ⟨bz8, ebz8, (hV.mm hsz8 (by decide) rfl), ?_⟩
      refine t_Jx4a65c_size_8abf5 hV bz8 hsz8 (by decide) (fun z10 pz10 => ?_)
      have rg_z10 := i_range z10
      refine ⟨fun c3 => ?_, fun c3 => ?_⟩
      · refine ⟨(hV.mm hs_h (by decide) rfl), ?_⟩
        intro z11 ez11
        obtain ⟨bz11, ebz11, hsz11⟩ := hV.1.nn hs_h (by decide) rfl 3 rfl (by decide)
        have ebz11 := ez11.trans ebz11
        refine ⟨bz11, ebz11, (hV.mm hsz11 (by decide) rfl), ?_⟩
        refine t_X9_free hV bz11 hsz11  (fun z13 pz13 => ?_)
        refine ⟨fun c4 => ?_, fun c4 => ?_⟩
        · obtain ⟨bn2, ebn2, hsn2⟩ := pz13.resolve_left c4
          refine ⟨(hV.mm hs_h (by decide) rfl), ?_⟩
          refine t_X11_nextChange hV h hs_h 0 z13 bn2 ebn2 hsn2  (by omega) (fun z15 W κ14 x1_ hV fκ14 pz15 => ?_)
          have hV : CV G E W (c - 0) κ14 := hV.dn (by omega)
          have tk1 : (sI κ14.1 bz8 2).toInt = (sI κ.1 bz8 2).toInt := by rw [(fκ14.1 bz8 (by rw [hsz8]; decide) 2 (by rw [hsz8]; decide)).1]
          have pk2 := (fκ14.1 b_a1 (by rw [hs_a1]; decide) 14 (by rw [hs_a1]; decide)).2.2.trans ep0
          have pk3 := (fκ14.1 b_a2 (by rw [hs_a2]; decide) 10 (by rw [hs_a2]; decide)).2.2.trans ep1
          have pk4 := (fκ14.1 h (by rw [hs_h]; decide) 10 (by rw [hs_h]; decide)).2.2.trans pk_z8
          have hx2 := hx.tr x1_ hfr.sl
          have hfr := hfr.trW hx fκ14 (by decide)
          have hs_h := WLe.at (x1_).1 hs_h (by decide)
          have hs_a1 := WLe.at (x1_).1 hs_a1 (by decide)
          have hs_a2 := WLe.at (x1_).1 hs_a2 (by decide)
          have hs_a3 := WLe.at (x1_).1 hs_a3 (by decide)
          have wp0 := WLe.at (x1_).1 wp0 (by decide)
          have wp1 := WLe.at (x1_).1 wp1 (by decide)
          have hsz8 := WLe.at (x1_).1 hsz8 (by decide)
          have hsz11 := WLe.at (x1_).1 hsz11 (by decide)
          have hsn2 := WLe.at (x1_).1 hsn2 (by decide)
          have hx := hx2
          obtain ⟨bz15, ebz15, hsz15⟩ := pz15
          refine ⟨b_a2, e_a2, (hV.mm hs_a2 (by decide) rfl), ?_⟩
          intro z16 ez16
          have ebz16 : z16 = some bp1 := ez16.trans pk3
          refine ⟨bp1, ebz16, (hV.mm wp1 (by decide) rfl), ?_⟩
          intro z17 ez17
          have vz17 := hV.1.iv wp1 (by decide) rfl 0 (-2147483648) 2147483647 rfl ez17
          have wz17 : z17.toInt = (sI κ14.1 bp1 0).toInt := by rw [ez17]
          refine ⟨b_a2, e_a2, (hV.mm hs_a2 (by decide) rfl), ?_⟩
          intro z18 ez18
          have vz18 := hV.1.iv hs_a2 (by decide) rfl 5 0 1 rfl ez18
          have wz18 : z18.toInt = (sI κ14.1 b_a2 5).toInt := by rw [ez18]
          have w0z18 : z18.toInt = (sI κ.1 b_a2 5).toInt := by rw [ez18, (hfr.1 b_a2 (by rw [hs0_a2]; decide) 5 (by rw [hs0_a2]; decide)).1]
          refine ⟨b_a2, e_a2, (hV.mm hs_a2 (by decide) rfl), ?_⟩
          refine t_X10_newAttributes hV b_a2 hs_a2  (fun z20 pz20 => ?_)
          have rg_z20 := i_range z20
          refine ⟨(hV.mm hs_h (by decide) rfl), ?_⟩
          intro z21 ez21
          have vz21 := l_range z21
          have wz21 : z21.toInt = (sJ κ14.1 h 7).toInt := by rw [ez21]
          refine ⟨bz15, ebz15, (hV.mm hsz15 (by decide) rfl), ?_⟩
          refine t_X1_beginNode hV bz15 hsz15 z17 z18 z20 z21 (by omega) (fun κ22 hV fκ22 pu5 => ?_)
          have tk5 : (sI κ22.1 bz8 2).toInt = (sI κ14.1 bz8 2).toInt := by rw [(fκ22.1 bz8 (by rw [hsz8]; decide) 2 (by rw [hsz8]; decide)).1]
          have pk6 := (fκ22.1 b_a1 (by rw [hs_a1]; decide) 14 (by rw [hs_a1]; decide)).2.2.trans pk2
          have pk7 := (fκ22.1 b_a2 (by rw [hs_a2]; decide) 10 (by rw [hs_a2]; decide)).2.2.trans pk3
          have pk8 := (fκ22.1 h (by rw [hs_h]; decide) 10 (by rw [hs_h]; decide)).2.2.trans pk4
          have hfr := hfr.trW hx fκ22 (by decide)
          refine ⟨b_a2, e_a2, (hV.mm hs_a2 (by decide) rfl), ?_⟩
          refine t_X10_nameTo hV b_a2 hs_a2 z15 bz15 ebz15 hsz15  (fun κ24 hV fκ24 pu6 => ?_)
          have tk9 : (sI κ24.1 bz8 2).toInt = (sI κ22.1 bz8 2).toInt := by rw [(fκ24.1 bz8 (by rw [hsz8]; decide) 2 (by rw [hsz8]; decide)).1]
          have pk10 := (fκ24.1 b_a1 (by rw [hs_a1]; decide) 14 (by rw [hs_a1]; decide)).2.2.trans pk6
          have pk11 := (fκ24.1 b_a2 (by rw [hs_a2]; decide) 10 (by rw [hs_a2]; decide)).2.2.trans pk7
          have pk12 := (fκ24.1 h (by rw [hs_h]; decide) 10 (by rw [hs_h]; decide)).2.2.trans pk8
          have hfr := hfr.trW hx fκ24 (by decide)
          refine ⟨(hV.mm hs_h (by decide) rfl), ?_⟩
          refine t_X11_done hV h hs_h z15 bz15 ebz15 hsz15  (by omega) (fun W κ26 x1_ hV fκ26 pu7 => ?_)
          have hV : CV G E W (c - 0) κ26 := hV.dn (by omega)
          have tk13 : (sI κ26.1 bz8 2).toInt = (sI κ24.1 bz8 2).toInt := by rw [(fκ26.1 bz8 (by rw [hsz8]; decide) 2 (by rw [hsz8]; decide)).1]
          have pk14 := (fκ26.1 b_a1 (by rw [hs_a1]; decide) 14 (by rw [hs_a1]; decide)).2.2.trans pk10
          have pk15 := (fκ26.1 b_a2 (by rw [hs_a2]; decide) 10 (by rw [hs_a2]; decide)).2.2.trans pk11
          have pk16 := (fκ26.1 h (by rw [hs_h]; decide) 10 (by rw [hs_h]; decide)).2.2.trans pk12
          have hx2 := hx.tr x1_ hfr.sl
          have hfr := hfr.trW hx fκ26 (by decide)
          have hs_h := WLe.at (x1_).1 hs_h (by decide)
          have hs_a1 := WLe.at (x1_).1 hs_a1 (by decide)
          have hs_a2 := WLe.at (x1_).1 hs_a2 (by decide)
          have hs_a3 := WLe.at (x1_).1 hs_a3 (by decide)
          have wp0 := WLe.at (x1_).1 wp0 (by decide)
          have wp1 := WLe.at (x1_).1 wp1 (by decide)
          have hsz8 := WLe.at (x1_).1 hsz8 (by decide)
          have hsz11 := WLe.at (x1_).1 hsz11 (by decide)
          have hsn2 := WLe.at (x1_).1 hsn2 (by decide)
          have hsz15 := WLe.at (x1_).1 hsz15 (by decide)
          have hx := hx2
          refine ⟨(hV.mm hs_h (by decide) rfl), ?_⟩
          refine t_X11_addOpen hV h hs_h a1 b_a1 e_a1 hs_a1 z13 bn2 ebn2 hsn2 2 a3 b_a3 e_a3 hs_a3 ⟨bp0, pk14, wp0, trivial⟩ ⟨bz8, pk16, hsz8, (by omega)⟩  (by omega) (fun W κ28 x1_ hV fκ28 pu8 => ?_)
          have hV : CV G E W (c - 153) κ28 := hV.dn (by omega)
          have pk17 := (fκ28.1 b_a1 (by rw [hs_a1]; decide) 14 (by rw [hs_a1]; decide)).2.2.trans pk14
          have pk18 := (fκ28.1 b_a2 (by rw [hs_a2]; decide) 10 (by rw [hs_a2]; decide)).2.2.trans pk15
          have pk19 := (fκ28.1 h (by rw [hs_h]; decide) 10 (by rw [hs_h]; decide)).2.2.trans pk16
          have hx2 := hx.tr x1_ hfr.sl
          have hfr := hfr.trW hx fκ28 (by decide)
          have hs_h := WLe.at (x1_).1 hs_h (by decide)
          have hs_a1 := WLe.at (x1_).1 hs_a1 (by decide)
          have hs_a2 := WLe.at (x1_).1 hs_a2 (by decide)
          have hs_a3 := WLe.at (x1_).1 hs_a3 (by decide)
          have wp0 := WLe.at (x1_).1 wp0 (by decide)
          have wp1 := WLe.at (x1_).1 wp1 (by decide)
          have hsz8 := WLe.at (x1_).1 hsz8 (by decide)
          have hsz11 := WLe.at (x1_).1 hsz11 (by decide)
          have hsn2 := WLe.at (x1_).1 hsn2 (by decide)
          have hsz15 := WLe.at (x1_).1 hsz15 (by decide)
          have hx := hx2
          exact kk 0 W κ28 hx (hV.dn (by omega)) hfr (by omega)
        · exact kk (-1073741697) W κ hx (hV.dn (by omega)) hfr (by omega)
      · exact kk (-1073741670) W κ hx (hV.dn (by omega)) hfr (by omega)
    · (try dsimp only)
      exact kk (-1073741772) W κ hx (hV.dn (by omega)) hfr (by omega)
set_option maxRecDepth 100000 in
set_option maxHeartbeats 4000000 in
theorem t_X11_openThere {G : GE} {E : CE} {W0 : CW} {c : Int} {κ : CS} (hV : CV G E W0 c κ) (h : Nat) (hs_h : W0.1 h = 1) (a1 : Option Nat) (b_a1 : Nat) (e_a1 : a1 = some b_a1) (hs_a1 : W0.1 b_a1 = 8) (a2 : Option Nat) (b_a2 : Nat) (e_a2 : a2 = some b_a2) (hs_a2 : W0.1 b_a2 = 13) (a3 : Option Nat) (b_a3 : Nat) (e_a3 : a3 = some b_a3) (hs_a3 : W0.1 b_a3 = 61) (hk0 : ∃ b, sP κ.1 b_a1 14 = some b ∧ W0.1 b = 12 ∧ (True)) (hk1 : ∃ b, sP κ.1 b_a2 11 = some b ∧ W0.1 b = 5 ∧ (True))  (hc : 153 ≤ c) {post : Int32 → CS → Prop} (kk : ∀ (r : Int32) (W' : CW) (κ' : CS), WX W0 W' κ → CV G E W' (c - 153) κ' → CF [(1, 6), (10, 10), (10, 3), (10, 4), (10, 5), (10, 7), (10, 8), (10, 9), (20, 0), (30, 0), (33, 0), (4, 0), (4, 1), (4, 10), (4, 11), (4, 12), (4, 13), (4, 2), (4, 3), (4, 5), (4, 6), (4, 7), (4, 8), (4, 9), (42, 0), (42, 1), (42, 2), (5, 1), (5, 10), (5, 11), (5, 12), (5, 13), (5, 2), (5, 3), (5, 4), (5, 6), (5, 7), (5, 8), (5, 9), (52, 0), (6, 1), (61, 0), (61, 1), (63, 0), (63, 1), (8, 15), (8, 18)] W0 κ κ' → (r.toInt = 259 → CV G E W' (c - 0) κ') → post r κ') : F_X11_openThere G h a1 a2 a3 post κ := by
  have hs0_h := hs_h
  have hs0_a1 := hs_a1
  have hs0_a2 := hs_a2
  have hs0_a3 := hs_a3
  have hk00 := hk0
  have hk10 := hk1
  suffices H_ : ∀ W : CW, WX W0 W κ → CV G E W (c - 0) κ → (W.1 h = 1) → (W.1 b_a1 = 8) → (W.1 b_a2 = 13) → (W.1 b_a3 = 61) → (∃ b, sP κ.1 b_a1 14 = some b ∧ W.1 b = 12 ∧ (True)) → (∃ b, sP κ.1 b_a2 11 = some b ∧ W.1 b = 5 ∧ (True)) → F_X11_openThere G h a1 a2 a3 post κ from H_ W0 WX.rf (hV.dn (by omega)) hs_h hs_a1 hs_a2 hs_a3 hk0 hk1
  intro W hx hV hs_h hs_a1 hs_a2 hs_a3 hk0 hk1
  unfold F_X11_openThere
  have hfr : CF [(1, 6), (10, 10), (10, 3), (10, 4), (10, 5), (10, 7), (10, 8), (10, 9), (20, 0), (30, 0), (33, 0), (4, 0), (4, 1), (4, 10), (4, 11), (4, 12), (4, 13), (4, 2), (4, 3), (4, 5), (4, 6), (4, 7), (4, 8), (4, 9), (42, 0), (42, 1), (42, 2), (5, 1), (5, 10), (5, 11), (5, 12), (5, 13), (5, 2), (5, 3), (5, 4), (5, 6), (5, 7), (5, 8), (5, 9), (52, 0), (6, 1), (61, 0), (61, 1), (63, 0), (63, 1), (8, 15), (8, 18)] W0 κ κ := CF.rf
  have k_m1073741757 : ((-1073741757) : Int32).toInt = (-1073741757) := rfl
  have k_0 : (0 : Int32).toInt = 0 := rfl
  have k_1 : (1 : Int32).toInt = 1 := rfl
  have k_2 : (2 : Int32).toInt = 2 := rfl
  have k_3 : (3 : Int32).toInt = 3 := rfl
  have k_9 : (9 : Int32).toInt = 9 := rfl
  have kl_m1073741757 : ((-1073741757) : Int64).toInt = (-1073741757) := rfl
  have kl_0 : (0 : Int64).toInt = 0 := rfl
  have kl_2 : (2 : Int64).toInt = 2 := rfl
  have kl_3 : (3 : Int64).toInt = 3 := rfl
  obtain ⟨bp0, ep0, wp0, xp0⟩ := hk0
  obtain ⟨bp1, ep1, wp1, xp1⟩ := hk1
  refine ⟨b_a2, e_a2, (hV.mm hs_a2 (by decide) rfl), ?_⟩
  intro z1 ez1
  have ebz1 : z1 = some bp1 := ez1.trans ep1
  refine ⟨(hV.mm hs_h (by decide) rfl), ?_⟩
  refine t2_X11_refusal hV h hs_h z1 bp1 ebz1 wp1 a2 b_a2 e_a2 hs_a2  (fun z3 pz3 => ?_)
  have rg_z3 := i_range z3
  refine ⟨fun c1 => ?_, fun c1 => ?_⟩
  · obtain ⟨brf, erf, wrf, xrf⟩ := pz3.1 (by omega)
    refine ⟨bp1, ebz1, (hV.mm wp1 (by decide) rfl), ?_⟩
    intro z4 ez4
    have vz4 := hV.1.iv wp1 (by decide) rfl 2 0 1 rfl ez4
    have wz4 : z4.toInt = (sI κ.1 bp1 2).toInt := by rw [ez4]
    refine jc_in (fun (x : Option Nat) (κ' : CS) => κ = κ' ∧ ((True) ∧ (x = none ∨ ∃ b, x = some b ∧ W.1 b = 10))) (fun x5 κ6 hJ => ?_) (fun K7 hK7 => ?_)
    · obtain ⟨hsg, hv⟩ := hJ
      subst hsg
      (try dsimp only at hv)
      obtain ⟨hv, nq41_0⟩ := hv
      (try dsimp only at hv)
      refine jc_in (fun (x : Unit) (κ' : CS) => κ = κ' ∧ ((True))) (fun x10 κ11 hJ => ?_) (fun K12 hK12 => ?_)
      · obtain ⟨hsg, hv⟩ := hJ
        subst hsg
        (try dsimp only at hv)
        refine ⟨(hV.mm hs_h (by decide) rfl), ?_⟩
        refine t_X11_sharesWithOthers hV h hs_h z1 bp1 ebz1 wp1 a2 b_a2 e_a2 hs_a2  (fun z16 pz16 => ?_)
        have rg_z16 := i_range z16
        refine ⟨fun c2 => ?_, fun c2 => ?_⟩
        · refine ⟨fun c3 => ?_, fun c3 => ?_⟩
          · refine ⟨b_a2, e_a2, (hV.mm hs_a2 (by decide) rfl), ?_⟩
            refine t_X10_empties hV b_a2 hs_a2  (fun z18 pz18 => ?_)
            have rg_z18 := i_range z18
            refine jc_dup ?_
            refine ⟨fun c4 => ?_, fun c4 => ?_⟩
            · (try dsimp only)
              refine ⟨(hV.mm hs_h (by decide) rfl), ?_⟩
              refine t_X11_addOpen hV h hs_h a1 b_a1 e_a1 hs_a1 z1 bp1 ebz1 wp1 1 a3 b_a3 e_a3 hs_a3 ⟨bp0, ep0, wp0, trivial⟩ ⟨brf, erf, wrf, (by omega)⟩  (by omega) (fun W κ24 x1_ hV fκ24 pu4 => ?_)
              have hV : CV G E W (c - 153) κ24 := hV.dn (by omega)
              have pk1 := (fκ24.1 b_a1 (by rw [hs_a1]; decide) 14 (by rw [hs_a1]; decide)).2.2.trans ep0
              have pk2 := (fκ24.1 b_a2 (by rw [hs_a2]; decide) 11 (by rw [hs_a2]; decide)).2.2.trans ep1
              have pk3 := (fκ24.1 h (by rw [hs_h]; decide) 10 (by rw [hs_h]; decide)).2.2.trans erf
              have hx2 := hx.tr x1_ hfr.sl
              have hfr := hfr.trW hx fκ24 (by decide)
              have hs_h := WLe.at (x1_).1 hs_h (by decide)
              have hs_a1 := WLe.at (x1_).1 hs_a1 (by decide)
              have hs_a2 := WLe.at (x1_).1 hs_a2 (by decide)
              have hs_a3 := WLe.at (x1_).1 hs_a3 (by decide)
              have wp0 := WLe.at (x1_).1 wp0 (by decide)
              have wp1 := WLe.at (x1_).1 wp1 (by decide)
              have wrf := WLe.at (x1_).1 wrf (by decide)
              have hx := hx2
              exact kk 0 W κ24 hx (hV.dn (by omega)) hfr (fun h => absurd h (by omega))
            · refine ⟨(hV.mm hs_h (by decide) rfl), ?_⟩
              refine t_X11_nextChange hV h hs_h 2 z1 bp1 ebz1 wp1  (by omega) (fun z27 W κ26 x1_ hV fκ26 pz27 => ?_)
              have hV : CV G E W (c - 0) κ26 := hV.dn (by omega)
              have tk4 : (sI κ26.1 brf 2).toInt = (sI κ.1 brf 2).toInt := by rw [(fκ26.1 brf (by rw [wrf]; decide) 2 (by rw [wrf]; decide)).1]
              have pk5 := (fκ26.1 b_a1 (by rw [hs_a1]; decide) 14 (by rw [hs_a1]; decide)).2.2.trans ep0
              have pk6 := (fκ26.1 b_a2 (by rw [hs_a2]; decide) 11 (by rw [hs_a2]; decide)).2.2.trans ep1
              have pk7 := (fκ26.1 h (by rw [hs_h]; decide) 10 (by rw [hs_h]; decide)).2.2.trans erf
              have hx2 := hx.tr x1_ hfr.sl
              have hfr := hfr.trW hx fκ26 (by decide)
              have hs_h := WLe.at (x1_).1 hs_h (by decide)
              have hs_a1 := WLe.at (x1_).1 hs_a1 (by decide)
              have hs_a2 := WLe.at (x1_).1 hs_a2 (by decide)
              have hs_a3 := WLe.at (x1_).1 hs_a3 (by decide)
              have wp0 := WLe.at (x1_).1 wp0 (by decide)
              have wp1 := WLe.at (x1_).1 wp1 (by decide)
              have wrf := WLe.at (x1_).1 wrf (by decide)
              have hx := hx2
              obtain ⟨bz27, ebz27, hsz27⟩ := pz27
              refine ⟨bz27, ebz27, (hV.mm hsz27 (by decide) rfl), ?_⟩
              intro κ28 eκ28
              have rv_κ28 := i_range 0
              have hV := hV.uI (k := 11) (v := 0) hsz27 (Or.inl rfl) (Or.inl (by decide)) (Or.inl (by decide)) (fun _ => (by omega : (-2147483648 : Int) ≤ (0 : Int32).toInt ∧ (0 : Int32).toInt ≤ 2147483647)) eκ28
              have uκ28 : (sI κ28.1 bz27 11).toInt = (0 : Int32).toInt := by rw [eκ28]; exact congrArg Int32.toInt u2_same
              have f1κ28 : CF [(4, 11)] W κ26 κ28 := CF.rf.uI (k := 11) hsz27 (by decide) (show ((4, 11) : Nat × Nat) ∈ ([(4, 11)] : List (Nat × Nat)) by simp) eκ28
              have tk8 : (sI κ28.1 brf 2).toInt = (sI κ26.1 brf 2).toInt := by rw [(f1κ28.1 brf (by rw [wrf]; decide) 2 (by rw [wrf]; decide)).1]
              have pk9 := (f1κ28.1 b_a1 (by rw [hs_a1]; decide) 14 (by rw [hs_a1]; decide)).2.2.trans pk5
              have pk10 := (f1κ28.1 b_a2 (by rw [hs_a2]; decide) 11 (by rw [hs_a2]; decide)).2.2.trans pk6
              have pk11 := (f1κ28.1 h (by rw [hs_h]; decide) 10 (by rw [hs_h]; decide)).2.2.trans pk7
              have hfr := hfr.trW hx f1κ28 (by decide)
              refine ⟨(hV.mm hs_h (by decide) rfl), ?_⟩
              intro z29 ez29
              have vz29 := l_range z29
              have wz29 : z29.toInt = (sJ κ28.1 h 7).toInt := by rw [ez29]
              refine ⟨bz27, ebz27, (hV.mm hsz27 (by decide) rfl), ?_⟩
              intro κ30 eκ30
              have hV := hV.uJ eκ30
              have f1κ30 : CF [(4, 9)] W κ28 κ30 := CF.rf.uJ (k := 9) hsz27 (by decide) (show ((4, 9) : Nat × Nat) ∈ ([(4, 9)] : List (Nat × Nat)) by simp) eκ30
              have tk12 : (sI κ30.1 brf 2).toInt = (sI κ28.1 brf 2).toInt := by rw [(f1κ30.1 brf (by rw [wrf]; decide) 2 (by rw [wrf]; decide)).1]
              have pk13 := (f1κ30.1 b_a1 (by rw [hs_a1]; decide) 14 (by rw [hs_a1]; decide)).2.2.trans pk9
              have pk14 := (f1κ30.1 b_a2 (by rw [hs_a2]; decide) 11 (by rw [hs_a2]; decide)).2.2.trans pk10
              have pk15 := (f1κ30.1 h (by rw [hs_h]; decide) 10 (by rw [hs_h]; decide)).2.2.trans pk11
              have hfr := hfr.trW hx f1κ30 (by decide)
              refine ⟨(hV.mm hs_h (by decide) rfl), ?_⟩
              intro z31 ez31
              have vz31 := l_range z31
              have wz31 : z31.toInt = (sJ κ30.1 h 7).toInt := by rw [ez31]
              refine ⟨bz27, ebz27, (hV.mm hsz27 (by decide) rfl), ?_⟩
              intro κ32 eκ32
              have hV := hV.uJ eκ32
              have f1κ32 : CF [(4, 10)] W κ30 κ32 := CF.rf.uJ (k := 10) hsz27 (by decide) (show ((4, 10) : Nat × Nat) ∈ ([(4, 10)] : List (Nat × Nat)) by simp) eκ32
              have tk16 : (sI κ32.1 brf 2).toInt = (sI κ30.1 brf 2).toInt := by rw [(f1κ32.1 brf (by rw [wrf]; decide) 2 (by rw [wrf]; decide)).1]
              have pk17 := (f1κ32.1 b_a1 (by rw [hs_a1]; decide) 14 (by rw [hs_a1]; decide)).2.2.trans pk13
              have pk18 := (f1κ32.1 b_a2 (by rw [hs_a2]; decide) 11 (by rw [hs_a2]; decide)).2.2.trans pk14
              have pk19 := (f1κ32.1 h (by rw [hs_h]; decide) 10 (by rw [hs_h]; decide)).2.2.trans pk15
              have hfr := hfr.trW hx f1κ32 (by decide)
              refine ⟨(hV.mm hs_h (by decide) rfl), ?_⟩
              refine t_X11_done hV h hs_h z27 bz27 ebz27 hsz27  (by omega) (fun W κ33 x1_ hV fκ33 pu6 => ?_)
              have hV : CV G E W (c - 0) κ33 := hV.dn (by omega)
              have tk20 : (sI κ33.1 brf 2).toInt = (sI κ32.1 brf 2).toInt := by rw [(fκ33.1 brf (by rw [wrf]; decide) 2 (by rw [wrf]; decide)).1]
              have pk21 := (fκ33.1 b_a1 (by rw [hs_a1]; decide) 14 (by rw [hs_a1]; decide)).2.2.trans pk17
              have pk22 := (fκ33.1 b_a2 (by rw [hs_a2]; decide) 11 (by rw [hs_a2]; decide)).2.2.trans pk18
              have pk23 := (fκ33.1 h (by rw [hs_h]; decide) 10 (by rw [hs_h]; decide)).2.2.trans pk19
              have hx2 := hx.tr x1_ hfr.sl
              have hfr := hfr.trW hx fκ33 (by decide)
              have hs_h := WLe.at (x1_).1 hs_h (by decide)
              have hs_a1 := WLe.at (x1_).1 hs_a1 (by decide)
              have hs_a2 := WLe.at (x1_).1 hs_a2 (by decide)
              have hs_a3 := WLe.at (x1_).1 hs_a3 (by decide)
              have wp0 := WLe.at (x1_).1 wp0 (by decide)
              have wp1 := WLe.at (x1_).1 wp1 (by decide)
              have wrf := WLe.at (x1_).1 wrf (by decide)
              have hsz27 := WLe.at (x1_).1 hsz27 (by decide)
              have hx := hx2
              refine ⟨(hV.mm hs_h (by decide) rfl), ?_⟩
              refine t_X11_nextChange hV h hs_h 3 z1 bp1 ebz1 wp1  (by omega) (fun z36 W κ35 x1_ hV fκ35 pz36 => ?_)
              have hV : CV G E W (c - 0) κ35 := hV.dn (by omega)
              have tk24 : (sI κ35.1 brf 2).toInt = (sI κ33.1 brf 2).toInt := by rw [(fκ35.1 brf (by rw [wrf]; decide) 2 (by rw [wrf]; decide)).1]
              have pk25 := (fκ35.1 b_a1 (by rw [hs_a1]; decide) 14 (by rw [hs_a1]; decide)).2.2.trans pk21
              have pk26 := (fκ35.1 b_a2 (by rw [hs_a2]; decide) 11 (by rw [hs_a2]; decide)).2.2.trans pk22
              have pk27 := (fκ35.1 h (by rw [hs_h]; decide) 10 (by rw [hs_h]; decide)).2.2.trans pk23
              have hx2 := hx.tr x1_ hfr.sl
              have hfr := hfr.trW hx fκ35 (by decide)
              have hs_h := WLe.at (x1_).1 hs_h (by decide)
              have hs_a1 := WLe.at (x1_).1 hs_a1 (by decide)
              have hs_a2 := WLe.at (x1_).1 hs_a2 (by decide)
              have hs_a3 := WLe.at (x1_).1 hs_a3 (by decide)
              have wp0 := WLe.at (x1_).1 wp0 (by decide)
              have wp1 := WLe.at (x1_).1 wp1 (by decide)
              have wrf := WLe.at (x1_).1 wrf (by decide)
              have hsz27 := WLe.at (x1_).1 hsz27 (by decide)
              have hx := hx2
              obtain ⟨bz36, ebz36, hsz36⟩ := pz36
              refine ⟨b_a2, e_a2, (hV.mm hs_a2 (by decide) rfl), ?_⟩
              intro z37 ez37
              have vz37 := hV.1.iv hs_a2 (by decide) rfl 4 (-2147483648) 2147483647 rfl ez37
              have wz37 : z37.toInt = (sI κ35.1 b_a2 4).toInt := by rw [ez37]
              have w0z37 : z37.toInt = (sI κ.1 b_a2 4).toInt := by rw [ez37, (hfr.1 b_a2 (by rw [hs0_a2]; decide) 4 (by rw [hs0_a2]; decide)).1]
              refine jc_in (fun (x : Int32) (κ' : CS) => κ35 = κ' ∧ ((True))) (fun x38 κ39 hJ => ?_) (fun K40 hK40 => ?_)
              · obtain ⟨hsg, hv⟩ := hJ
                subst hsg
                (try dsimp only at hv)
                have rg_x38 := i_range x38
                refine ⟨bz36, ebz36, (hV.mm hsz36 (by decide) rfl), ?_⟩
                intro κ43 eκ43
                have rv_κ43 := i_range x38
                have hV := hV.uI (k := 6) (v := x38) hsz36 (Or.inl rfl) (Or.inl (by decide)) (Or.inl (by decide)) (fun _ => (by omega : (-2147483648 : Int) ≤ (x38 : Int32).toInt ∧ (x38 : Int32).toInt ≤ 2147483647)) eκ43
                have uκ43 : (sI κ43.1 bz36 6).toInt = (x38 : Int32).toInt := by rw [eκ43]; exact congrArg Int32.toInt u2_same
                have f1κ43 : CF [(4, 6)] W κ35 κ43 := CF.rf.uI (k := 6) hsz36 (by decide) (show ((4, 6) : Nat × Nat) ∈ ([(4, 6)] : List (Nat × Nat)) by simp) eκ43
                have tk28 : (sI κ43.1 brf 2).toInt = (sI κ35.1 brf 2).toInt := by rw [(f1κ43.1 brf (by rw [wrf]; decide) 2 (by rw [wrf]; decide)).1]
                have pk29 := (f1κ43.1 b_a1 (by rw [hs_a1]; decide) 14 (by rw [hs_a1]; decide)).2.2.trans pk25
                have pk30 := (f1κ43.1 b_a2 (by rw [hs_a2]; decide) 11 (by rw [hs_a2]; decide)).2.2.trans pk26
                have pk31 := (f1κ43.1 h (by rw [hs_h]; decide) 10 (by rw [hs_h]; decide)).2.2.trans pk27
                have hfr := hfr.trW hx f1κ43 (by decide)
                refine ⟨(hV.mm hs_h (by decide) rfl), ?_⟩
                intro z44 ez44
                have vz44 := l_range z44
                have wz44 : z44.toInt = (sJ κ43.1 h 7).toInt := by rw [ez44]
                refine ⟨bz36, ebz36, (hV.mm hsz36 (by decide) rfl), ?_⟩
                intro κ45 eκ45
                have hV := hV.uJ eκ45
                have f1κ45 : CF [(4, 10)] W κ43 κ45 := CF.rf.uJ (k := 10) hsz36 (by decide) (show ((4, 10) : Nat × Nat) ∈ ([(4, 10)] : List (Nat × Nat)) by simp) eκ45
                have tk32 : (sI κ45.1 brf 2).toInt = (sI κ43.1 brf 2).toInt := by rw [(f1κ45.1 brf (by rw [wrf]; decide) 2 (by rw [wrf]; decide)).1]
                have pk33 := (f1κ45.1 b_a1 (by rw [hs_a1]; decide) 14 (by rw [hs_a1]; decide)).2.2.trans pk29
                have pk34 := (f1κ45.1 b_a2 (by rw [hs_a2]; decide) 11 (by rw [hs_a2]; decide)).2.2.trans pk30
                have pk35 := (f1κ45.1 h (by rw [hs_h]; decide) 10 (by rw [hs_h]; decide)).2.2.trans pk31
                have hfr := hfr.trW hx f1κ45 (by decide)
                refine ⟨(hV.mm hs_h (by decide) rfl), ?_⟩
                refine t_X11_done hV h hs_h z36 bz36 ebz36 hsz36  (by omega) (fun W κ46 x1_ hV fκ46 pu8 => ?_)
                have hV : CV G E W (c - 0) κ46 := hV.dn (by omega)
                have tk36 : (sI κ46.1 brf 2).toInt = (sI κ45.1 brf 2).toInt := by rw [(fκ46.1 brf (by rw [wrf]; decide) 2 (by rw [wrf]; decide)).1]
                have pk37 := (fκ46.1 b_a1 (by rw [hs_a1]; decide) 14 (by rw [hs_a1]; decide)).2.2.trans pk33
                have pk38 := (fκ46.1 b_a2 (by rw [hs_a2]; decide) 11 (by rw [hs_a2]; decide)).2.2.trans pk34
                have pk39 := (fκ46.1 h (by rw [hs_h]; decide) 10 (by rw [hs_h]; decide)).2.2.trans pk35
                have hx2 := hx.tr x1_ hfr.sl
                have hfr := hfr.trW hx fκ46 (by decide)
                have hs_h := WLe.at (x1_).1 hs_h (by decide)
                have hs_a1 := WLe.at (x1_).1 hs_a1 (by decide)
                have hs_a2 := WLe.at (x1_).1 hs_a2 (by decide)
                have hs_a3 := WLe.at (x1_).1 hs_a3 (by decide)
                have wp0 := WLe.at (x1_).1 wp0 (by decide)
                have wp1 := WLe.at (x1_).1 wp1 (by decide)
                have wrf := WLe.at (x1_).1 wrf (by decide)
                have hsz27 := WLe.at (x1_).1 hsz27 (by decide)
                have hsz36 := WLe.at (x1_).1 hsz36 (by decide)
                have hx := hx2
                refine ⟨(hV.mm hs_h (by decide) rfl), ?_⟩
                refine t_X11_breakLevelTwo hV h hs_h z1 bp1 ebz1 wp1 (none : Option Nat) (Or.inl rfl)  (by omega) (fun W κ48 x1_ hV fκ48 pu9 => ?_)
                have hV : CV G E W (c - 0) κ48 := hV.dn (by omega)
                have tk40 : (sI κ48.1 brf 2).toInt = (sI κ46.1 brf 2).toInt := by rw [(fκ48.1 brf (by rw [wrf]; decide) 2 (by rw [wrf]; decide)).1]
                have pk41 := (fκ48.1 b_a1 (by rw [hs_a1]; decide) 14 (by rw [hs_a1]; decide)).2.2.trans pk37
                have pk42 := (fκ48.1 b_a2 (by rw [hs_a2]; decide) 11 (by rw [hs_a2]; decide)).2.2.trans pk38
                have pk43 := (fκ48.1 h (by rw [hs_h]; decide) 10 (by rw [hs_h]; decide)).2.2.trans pk39
                have hx2 := hx.tr x1_ hfr.sl
                have hfr := hfr.trW hx fκ48 (by decide)
                have hs_h := WLe.at (x1_).1 hs_h (by decide)
                have hs_a1 := WLe.at (x1_).1 hs_a1 (by decide)
                have hs_a2 := WLe.at (x1_).1 hs_a2 (by decide)
                have hs_a3 := WLe.at (x1_).1 hs_a3 (by decide)
                have wp0 := WLe.at (x1_).1 wp0 (by decide)
                have wp1 := WLe.at (x1_).1 wp1 (by decide)
                have wrf := WLe.at (x1_).1 wrf (by decide)
                have hsz27 := WLe.at (x1_).1 hsz27 (by decide)
                have hsz36 := WLe.at (x1_).1 hsz36 (by decide)
                have hx := hx2
                refine ⟨b_a2, e_a2, (hV.mm hs_a2 (by decide) rfl), ?_⟩
                intro z50 ez50
                have vz50 := hV.1.iv hs_a2 (by decide) rfl 4 (-2147483648) 2147483647 rfl ez50
                have wz50 : z50.toInt = (sI κ48.1 b_a2 4).toInt := by rw [ez50]
                have w0z50 : z50.toInt = (sI κ.1 b_a2 4).toInt := by rw [ez50, (hfr.1 b_a2 (by rw [hs0_a2]; decide) 4 (by rw [hs0_a2]; decide)).1]
                refine jc_dup ?_
                refine ⟨fun c5 => ?_, fun c5 => ?_⟩
                · (try dsimp only)
                  (try dsimp only)
                  refine ⟨(hV.mm hs_h (by decide) rfl), ?_⟩
                  refine t_X11_addOpen hV h hs_h a1 b_a1 e_a1 hs_a1 z1 bp1 ebz1 wp1 3 a3 b_a3 e_a3 hs_a3 ⟨bp0, pk41, wp0, trivial⟩ ⟨brf, pk43, wrf, (by omega)⟩  (by omega) (fun W κ24 x1_ hV fκ24 pu10 => ?_)
                  have hV : CV G E W (c - 153) κ24 := hV.dn (by omega)
                  have pk44 := (fκ24.1 b_a1 (by rw [hs_a1]; decide) 14 (by rw [hs_a1]; decide)).2.2.trans pk41
                  have pk45 := (fκ24.1 b_a2 (by rw [hs_a2]; decide) 11 (by rw [hs_a2]; decide)).2.2.trans pk42
                  have pk46 := (fκ24.1 h (by rw [hs_h]; decide) 10 (by rw [hs_h]; decide)).2.2.trans pk43
                  have hx2 := hx.tr x1_ hfr.sl
                  have hfr := hfr.trW hx fκ24 (by decide)
                  have hs_h := WLe.at (x1_).1 hs_h (by decide)
                  have hs_a1 := WLe.at (x1_).1 hs_a1 (by decide)
                  have hs_a2 := WLe.at (x1_).1 hs_a2 (by decide)
                  have hs_a3 := WLe.at (x1_).1 hs_a3 (by decide)
                  have wp0 := WLe.at (x1_).1 wp0 (by decide)
                  have wp1 := WLe.at (x1_).1 wp1 (by decide)
                  have wrf := WLe.at (x1_).1 wrf (by decide)
                  have hsz27 := WLe.at (x1_).1 hsz27 (by decide)
                  have hsz36 := WLe.at (x1_).1 hsz36 (by decide)
                  have hx := hx2
                  exact kk 0 W κ24 hx (hV.dn (by omega)) hfr (fun h => absurd h (by omega))
                · (try dsimp only)
                  (try dsimp only)
                  refine ⟨(hV.mm hs_h (by decide) rfl), ?_⟩
                  refine t_X11_addOpen hV h hs_h a1 b_a1 e_a1 hs_a1 z1 bp1 ebz1 wp1 0 a3 b_a3 e_a3 hs_a3 ⟨bp0, pk41, wp0, trivial⟩ ⟨brf, pk43, wrf, (by omega)⟩  (by omega) (fun W κ24 x1_ hV fκ24 pu11 => ?_)
                  have hV : CV G E W (c - 153) κ24 := hV.dn (by omega)
                  have pk47 := (fκ24.1 b_a1 (by rw [hs_a1]; decide) 14 (by rw [hs_a1]; decide)).2.2.trans pk41
                  have pk48 := (fκ24.1 b_a2 (by rw [hs_a2]; decide) 11 (by rw [hs_a2]; decide)).2.2.trans pk42
                  have pk49 := (fκ24.1 h (by rw [hs_h]; decide) 10 (by rw [hs_h]; decide)).2.2.trans pk43
                  have hx2 := hx.tr x1_ hfr.sl
                  have hfr := hfr.trW hx fκ24 (by decide)
                  have hs_h := WLe.at (x1_).1 hs_h (by decide)
                  have hs_a1 := WLe.at (x1_).1 hs_a1 (by decide)
                  have hs_a2 := WLe.at (x1_).1 hs_a2 (by decide)
                  have hs_a3 := WLe.at (x1_).1 hs_a3 (by decide)
                  have wp0 := WLe.at (x1_).1 wp0 (by decide)
                  have wp1 := WLe.at (x1_).1 wp1 (by decide)
                  have wrf := WLe.at (x1_).1 wrf (by decide)
                  have hsz27 := WLe.at (x1_).1 hsz27 (by decide)
                  have hsz36 := WLe.at (x1_).1 hsz36 (by decide)
                  have hx := hx2
                  exact kk 0 W κ24 hx (hV.dn (by omega)) hfr (fun h => absurd h (by omega))
              · skip
                refine ⟨fun c6 => ?_, fun c6 => ?_⟩
                · refine ⟨bp1, ebz1, (hV.mm wp1 (by decide) rfl), ?_⟩
                  intro z56 ez56
                  have vz56 := hV.1.iv wp1 (by decide) rfl 7 (-2147483648) 2147483647 rfl ez56
                  have wz56 : z56.toInt = (sI κ35.1 bp1 7).toInt := by rw [ez56]
                  refine ⟨b_a2, e_a2, (hV.mm hs_a2 (by decide) rfl), ?_⟩
                  refine t_X10_newAttributes hV b_a2 hs_a2  (fun z58 pz58 => ?_)
                  have rg_z58 := i_range z58
                  intro z59 ez59
                  try have hz59 := i_orm ez59 (by omega) (by omega)
                  try have h2z59 := i_or ez59 (by omega) (by omega)
                  have rg_z59 := i_range z59
                  exact hK40 z59 κ35 ⟨rfl, trivial⟩
                · refine ⟨b_a2, e_a2, (hV.mm hs_a2 (by decide) rfl), ?_⟩
                  refine t_X10_newAttributes hV b_a2 hs_a2  (fun z61 pz61 => ?_)
                  have rg_z61 := i_range z61
                  exact hK40 z61 κ35 ⟨rfl, trivial⟩
          · obtain ⟨bn14, ebn14, hsn14⟩ := nq41_0.resolve_left c3
            refine ⟨(hV.mm hs_h (by decide) rfl), ?_⟩
            refine t_X11_waitFor hV h hs_h a1 b_a1 e_a1 hs_a1 x5 bn14 ebn14 hsn14  (by omega) (fun z63 W κ62 x1_ hV fκ62 pz63 => ?_)
            have hV : CV G E W (c - 0) κ62 := hV.dn (by omega)
            have tk50 : (sI κ62.1 brf 2).toInt = (sI κ.1 brf 2).toInt := by rw [(fκ62.1 brf (by rw [wrf]; decide) 2 (by rw [wrf]; decide)).1]
            have pk51 := (fκ62.1 b_a1 (by rw [hs_a1]; decide) 14 (by rw [hs_a1]; decide)).2.2.trans ep0
            have pk52 := (fκ62.1 b_a2 (by rw [hs_a2]; decide) 11 (by rw [hs_a2]; decide)).2.2.trans ep1
            have pk53 := (fκ62.1 h (by rw [hs_h]; decide) 10 (by rw [hs_h]; decide)).2.2.trans erf
            have hx2 := hx.tr x1_ hfr.sl
            have hfr := hfr.trW hx fκ62 (by decide)
            have hs_h := WLe.at (x1_).1 hs_h (by decide)
            have hs_a1 := WLe.at (x1_).1 hs_a1 (by decide)
            have hs_a2 := WLe.at (x1_).1 hs_a2 (by decide)
            have hs_a3 := WLe.at (x1_).1 hs_a3 (by decide)
            have wp0 := WLe.at (x1_).1 wp0 (by decide)
            have wp1 := WLe.at (x1_).1 wp1 (by decide)
            have wrf := WLe.at (x1_).1 wrf (by decide)
            have hsn14 := WLe.at (x1_).1 hsn14 (by decide)
            have hx := hx2
            have rg_z63 := i_range z63
            exact kk z63 W κ62 hx (hV.dn (by omega)) hfr (fun _ => hV.dn (by omega))
        · exact kk (-1073741757) W κ hx (hV.dn (by omega)) hfr (fun h => absurd h (by omega))
      · skip
        refine ⟨fun c7 => ?_, fun c7 => ?_⟩
        · exact hK12 () κ ⟨rfl, trivial⟩
        · obtain ⟨bn16, ebn16, hsn16⟩ := nq41_0.resolve_left c7
          refine ⟨bn16, ebn16, (hV.mm hsn16 (by decide) rfl), ?_⟩
          intro z64 ez64
          have vz64 := hV.1.iv hsn16 (by decide) rfl 8 0 1 rfl ez64
          have wz64 : z64.toInt = (sI κ.1 bn16 8).toInt := by rw [ez64]
          refine jc_dup ?_
          refine ⟨fun c8 => ?_, fun c8 => ?_⟩
          · (try dsimp only)
            refine ⟨(hV.mm hs_h (by decide) rfl), ?_⟩
            refine t_X11_waitFor hV h hs_h a1 b_a1 e_a1 hs_a1 x5 bn16 ebn16 hsn16  (by omega) (fun z71 W κ70 x1_ hV fκ70 pz71 => ?_)
            have hV : CV G E W (c - 0) κ70 := hV.dn (by omega)
            have tk54 : (sI κ70.1 brf 2).toInt = (sI κ.1 brf 2).toInt := by rw [(fκ70.1 brf (by rw [wrf]; decide) 2 (by rw [wrf]; decide)).1]
            have pk55 := (fκ70.1 b_a1 (by rw [hs_a1]; decide) 14 (by rw [hs_a1]; decide)).2.2.trans ep0
            have pk56 := (fκ70.1 b_a2 (by rw [hs_a2]; decide) 11 (by rw [hs_a2]; decide)).2.2.trans ep1
            have pk57 := (fκ70.1 h (by rw [hs_h]; decide) 10 (by rw [hs_h]; decide)).2.2.trans erf
            have hx2 := hx.tr x1_ hfr.sl
            have hfr := hfr.trW hx fκ70 (by decide)
            have hs_h := WLe.at (x1_).1 hs_h (by decide)
            have hs_a1 := WLe.at (x1_).1 hs_a1 (by decide)
            have hs_a2 := WLe.at (x1_).1 hs_a2 (by decide)
            have hs_a3 := WLe.at (x1_).1 hs_a3 (by decide)
            have wp0 := WLe.at (x1_).1 wp0 (by decide)
            have wp1 := WLe.at (x1_).1 wp1 (by decide)
            have wrf := WLe.at (x1_).1 wrf (by decide)
            have hsn16 := WLe.at (x1_).1 hsn16 (by decide)
            have hx := hx2
            have rg_z71 := i_range z71
            exact kk z71 W κ70 hx (hV.dn (by omega)) hfr (fun _ => hV.dn (by omega))
          · refine ⟨bn16, ebn16, (hV.mm hsn16 (by decide) rfl), ?_⟩
            intro z72 ez72
            have vz72 := hV.1.iv hsn16 (by decide) rfl 7 (-2147483648) 2147483647 rfl ez72
            have wz72 : z72.toInt = (sI κ.1 bn16 7).toInt := by rw [ez72]
            refine ⟨fun c9 => ?_, fun c9 => ?_⟩
            · exact hK12 () κ ⟨rfl, trivial⟩
            · (try dsimp only)
              refine ⟨(hV.mm hs_h (by decide) rfl), ?_⟩
              refine t_X11_waitFor hV h hs_h a1 b_a1 e_a1 hs_a1 x5 bn16 ebn16 hsn16  (by omega) (fun z71 W κ70 x1_ hV fκ70 pz71 => ?_)
              have hV : CV G E W (c - 0) κ70 := hV.dn (by omega)
              have tk58 : (sI κ70.1 brf 2).toInt = (sI κ.1 brf 2).toInt := by rw [(fκ70.1 brf (by rw [wrf]; decide) 2 (by rw [wrf]; decide)).1]
              have pk59 := (fκ70.1 b_a1 (by rw [hs_a1]; decide) 14 (by rw [hs_a1]; decide)).2.2.trans ep0
              have pk60 := (fκ70.1 b_a2 (by rw [hs_a2]; decide) 11 (by rw [hs_a2]; decide)).2.2.trans ep1
              have pk61 := (fκ70.1 h (by rw [hs_h]; decide) 10 (by rw [hs_h]; decide)).2.2.trans erf
              have hx2 := hx.tr x1_ hfr.sl
              have hfr := hfr.trW hx fκ70 (by decide)
              have hs_h := WLe.at (x1_).1 hs_h (by decide)
              have hs_a1 := WLe.at (x1_).1 hs_a1 (by decide)
              have hs_a2 := WLe.at (x1_).1 hs_a2 (by decide)
              have hs_a3 := WLe.at (x1_).1 hs_a3 (by decide)
              have wp0 := WLe.at (x1_).1 wp0 (by decide)
              have wp1 := WLe.at (x1_).1 wp1 (by decide)
              have wrf := WLe.at (x1_).1 wrf (by decide)
              have hsn16 := WLe.at (x1_).1 hsn16 (by decide)
              have hx := hx2
              have rg_z71 := i_range z71
              exact kk z71 W κ70 hx (hV.dn (by omega)) hfr (fun _ => hV.dn (by omega))
    · skip
      refine ⟨fun c10 => ?_, fun c10 => ?_⟩
      · refine ⟨(hV.mm hs_h (by decide) rfl), ?_⟩
        refine t_X11_holder hV h hs_h z1 bp1 ebz1 wp1  (fun z74 pz74 => ?_)
        exact hK7 z74 κ ⟨rfl, ⟨trivial, pz74⟩⟩
      · exact hK7 (none : Option Nat) κ ⟨rfl, ⟨trivial, (Or.inl rfl)⟩⟩
  · exact kk z3 W κ hx (hV.dn (by omega)) hfr (fun h => absurd h pz3.2)
set_option maxRecDepth 100000 in
set_option maxHeartbeats 4000000 in
theorem t_X11_tryOpen {G : GE} {E : CE} {W0 : CW} {c : Int} {κ : CS} (hV : CV G E W0 c κ) (h : Nat) (hs_h : W0.1 h = 1) (a1 : Option Nat) (b_a1 : Nat) (e_a1 : a1 = some b_a1) (hs_a1 : W0.1 b_a1 = 8) (a2 : Option Nat) (b_a2 : Nat) (e_a2 : a2 = some b_a2) (hs_a2 : W0.1 b_a2 = 61)  (hc : 153 ≤ c) {post : Int32 → CS → Prop} (kk : ∀ (r : Int32) (W' : CW) (κ' : CS), WX W0 W' κ → CV G E W' (c - 153) κ' → CF [(1, 6), (10, 10), (10, 3), (10, 4), (10, 5), (10, 7), (10, 8), (10, 9), (13, 10), (13, 11), (13, 12), (20, 0), (30, 0), (33, 0), (4, 0), (4, 1), (4, 10), (4, 11), (4, 12), (4, 13), (4, 2), (4, 3), (4, 5), (4, 6), (4, 7), (4, 8), (4, 9), (42, 0), (42, 1), (42, 2), (5, 1), (5, 10), (5, 11), (5, 12), (5, 13), (5, 2), (5, 3), (5, 4), (5, 6), (5, 7), (5, 8), (5, 9), (52, 0), (6, 1), (61, 0), (61, 1), (63, 0), (63, 1), (8, 15), (8, 18)] W0 κ κ' → (r.toInt = 259 → CV G E W' (c - 0) κ') → post r κ') : F_X11_tryOpen G h a1 a2 post κ := by
  have hs0_h := hs_h
  have hs0_a1 := hs_a1
  have hs0_a2 := hs_a2
  suffices H_ : ∀ W : CW, WX W0 W κ → CV G E W (c - 0) κ → (W.1 h = 1) → (W.1 b_a1 = 8) → (W.1 b_a2 = 61) → F_X11_tryOpen G h a1 a2 post κ from H_ W0 WX.rf (hV.dn (by omega)) hs_h hs_a1 hs_a2
  intro W hx hV hs_h hs_a1 hs_a2
  unfold F_X11_tryOpen
  have hfr : CF [(1, 6), (10, 10), (10, 3), (10, 4), (10, 5), (10, 7), (10, 8), (10, 9), (13, 10), (13, 11), (13, 12), (20, 0), (30, 0), (33, 0), (4, 0), (4, 1), (4, 10), (4, 11), (4, 12), (4, 13), (4, 2), (4, 3), (4, 5), (4, 6), (4, 7), (4, 8), (4, 9), (42, 0), (42, 1), (42, 2), (5, 1), (5, 10), (5, 11), (5, 12), (5, 13), (5, 2), (5, 3), (5, 4), (5, 6), (5, 7), (5, 8), (5, 9), (52, 0), (6, 1), (61, 0), (61, 1), (63, 0), (63, 1), (8, 15), (8, 18)] W0 κ κ := CF.rf
  have k_m1073741811 : ((-1073741811) : Int32).toInt = (-1073741811) := rfl
  have k_m1073741766 : ((-1073741766) : Int32).toInt = (-1073741766) := rfl
  have k_0 : (0 : Int32).toInt = 0 := rfl
  have kl_m1073741811 : ((-1073741811) : Int64).toInt = (-1073741811) := rfl
  have kl_m1073741766 : ((-1073741766) : Int64).toInt = (-1073741766) := rfl
  refine ⟨b_a1, e_a1, (hV.mm hs_a1 (by decide) rfl), ?_⟩
  intro z1 ez1
  have nz1 := hV.1.nl hs_a1 (by decide) rfl 17 rfl (by decide)
  rw [← ez1] at nz1
  refine jc_dup ?_
  refine ⟨fun c1 => ?_, fun c1 => ?_⟩
  · (try dsimp only)
    exact kk (-1073741811) W κ hx (hV.dn (by omega)) hfr (fun h => absurd h (by omega))
  · obtain ⟨bn1, ebn1, hsn1⟩ := nz1.resolve_left c1
    refine ⟨b_a1, e_a1, (hV.mm hs_a1 (by decide) rfl), ?_⟩
    intro z7 ez7
    have nz7 := hV.1.nl hs_a1 (by decide) rfl 14 rfl (by decide)
    rw [← ez7] at nz7
    refine ⟨fun c2 => ?_, fun c2 => ?_⟩
    · obtain ⟨bn2, ebn2, hsn2⟩ := nz7.resolve_left c2
      have pk_z7 : sP κ.1 b_a1 14 = some bn2 := ez7.symm.trans ebn2
      refine ⟨b_a1, e_a1, (hV.mm hs_a1 (by decide) rfl), ?_⟩
      intro z8 ez8
      have ebz8 : z8 = some bn2 := (ez8.trans ez7.symm).trans ebn2
      refine ⟨bn2, ebz8, (hV.mm hsn2 (by decide) rfl), ?_⟩
      intro z9 ez9
      obtain ⟨bz9, ebz9, hsz9⟩ := hV.1.nn hsn2 (by decide) rfl 2 rfl (by decide)
      have ebz9 := ez9.trans ebz9
      refine ⟨(hV.mm hs_h (by decide) rfl), ?_⟩
      refine t_X11_walk hV h hs_h z1 bn1 ebn1 hsn1 z9 bz9 ebz9 hsz9  (fun z11 κ10 hV fκ10 pz11 => ?_)
      have pk1 := (fκ10.1 b_a1 (by rw [hs_a1]; decide) 14 (by rw [hs_a1]; decide)).2.2.trans pk_z7
      have hfr := hfr.trW hx fκ10 (by decide)
      have rg_z11 := i_range z11
      refine ⟨fun c3 => ?_, fun c3 => ?_⟩
      · obtain ⟨bpl, epl, wpl⟩ := pz11.2 (by omega)
        refine ⟨bn1, ebn1, (hV.mm hsn1 (by decide) rfl), ?_⟩
        intro z12 ez12
        have nz12 := hV.1.nl hsn1 (by decide) rfl 11 rfl (by decide)
        rw [← ez12] at nz12
        refine jc_dup ?_
        refine ⟨fun c4 => ?_, fun c4 => ?_⟩
        · obtain ⟨bn4, ebn4, hsn4⟩ := nz12.resolve_left c4
          have pk_z12 : sP κ10.1 bn1 11 = some bn4 := ez12.symm.trans ebn4
          refine ⟨(hV.mm hs_h (by decide) rfl), ?_⟩
          refine t_X11_openThere hV h hs_h a1 b_a1 e_a1 hs_a1 z1 bn1 ebn1 hsn1 a2 b_a2 e_a2 hs_a2 ⟨bn2, pk1, hsn2, trivial⟩ ⟨bn4, pk_z12, hsn4, trivial⟩  (by omega) (fun z19 W κ18 x1_ hV fκ18 pz19 => ?_)
          have hV : CV G E W (c - 153) κ18 := hV.dn (by omega)
          have pk2 := (fκ18.1 b_a1 (by rw [hs_a1]; decide) 14 (by rw [hs_a1]; decide)).2.2.trans pk1
          have pk3 := (fκ18.1 bn1 (by rw [hsn1]; decide) 10 (by rw [hsn1]; decide)).2.2.trans epl
          have pk4 := (fκ18.1 bn1 (by rw [hsn1]; decide) 11 (by rw [hsn1]; decide)).2.2.trans pk_z12
          have hx2 := hx.tr x1_ hfr.sl
          have hfr := hfr.trW hx fκ18 (by decide)
          have hs_h := WLe.at (x1_).1 hs_h (by decide)
          have hs_a1 := WLe.at (x1_).1 hs_a1 (by decide)
          have hs_a2 := WLe.at (x1_).1 hs_a2 (by decide)
          have hsn1 := WLe.at (x1_).1 hsn1 (by decide)
          have hsn2 := WLe.at (x1_).1 hsn2 (by decide)
          have hsz9 := WLe.at (x1_).1 hsz9 (by decide)
          have wpl := WLe.at (x1_).1 wpl (by decide)
          have hsn4 := WLe.at (x1_).1 hsn4 (by decide)
          have hx := hx2
          have rg_z19 := i_range z19
          (try dsimp only)
          exact kk z19 W κ18 hx (hV.dn (by omega)) hfr (fun h => (pz19 h).dn (by omega))
        · refine ⟨(hV.mm hs_h (by decide) rfl), ?_⟩
          refine t_X11_openNew hV h hs_h a1 b_a1 e_a1 hs_a1 z1 bn1 ebn1 hsn1 a2 b_a2 e_a2 hs_a2 ⟨bn2, pk1, hsn2, trivial⟩ ⟨bpl, epl, wpl, trivial⟩  (by omega) (fun z21 W κ20 x1_ hV fκ20 pz21 => ?_)
          have hV : CV G E W (c - 153) κ20 := hV.dn (by omega)
          have pk5 := (fκ20.1 b_a1 (by rw [hs_a1]; decide) 14 (by rw [hs_a1]; decide)).2.2.trans pk1
          have pk6 := (fκ20.1 bn1 (by rw [hsn1]; decide) 10 (by rw [hsn1]; decide)).2.2.trans epl
          have hx2 := hx.tr x1_ hfr.sl
          have hfr := hfr.trW hx fκ20 (by decide)
          have hs_h := WLe.at (x1_).1 hs_h (by decide)
          have hs_a1 := WLe.at (x1_).1 hs_a1 (by decide)
          have hs_a2 := WLe.at (x1_).1 hs_a2 (by decide)
          have hsn1 := WLe.at (x1_).1 hsn1 (by decide)
          have hsn2 := WLe.at (x1_).1 hsn2 (by decide)
          have hsz9 := WLe.at (x1_).1 hsz9 (by decide)
          have wpl := WLe.at (x1_).1 wpl (by decide)
          have hx := hx2
          have rg_z21 := i_range z21
          (try dsimp only)
          exact kk z21 W κ20 hx (hV.dn (by omega)) hfr (fun h => absurd h pz21)
      · exact kk (-1073741766) W κ10 hx (hV.dn (by omega)) hfr (fun h => absurd h (by omega))
    · (try dsimp only)
      exact kk (-1073741811) W κ hx (hV.dn (by omega)) hfr (fun h => absurd h (by omega))
set_option maxRecDepth 100000 in
set_option maxHeartbeats 4000000 in
theorem t_X11_beginWaiting {G : GE} {E : CE} {W0 : CW} {c : Int} {κ : CS} (hV : CV G E W0 c κ) (h : Nat) (hs_h : W0.1 h = 1) (a1 : Option Nat) (b_a1 : Nat) (e_a1 : a1 = some b_a1) (hs_a1 : W0.1 b_a1 = 8)  (hc : 502 ≤ c) {post : Int32 → CS → Prop} (kk : ∀ (r : Int32) (W' : CW) (κ' : CS), WX W0 W' κ → CV G E W' (c - 502) κ' → CF [(33, 0), (44, 0), (44, 1), (44, 2), (54, 0), (8, 16)] W0 κ κ' → (True) → post r κ') : F_X11_beginWaiting G h a1 post κ := by
  have hs0_h := hs_h
  have hs0_a1 := hs_a1
  suffices H_ : ∀ W : CW, WX W0 W κ → CV G E W (c - 0) κ → (W.1 h = 1) → (W.1 b_a1 = 8) → F_X11_beginWaiting G h a1 post κ from H_ W0 WX.rf (hV.dn (by omega)) hs_h hs_a1
  intro W hx hV hs_h hs_a1
  unfold F_X11_beginWaiting
  have hfr : CF [(33, 0), (44, 0), (44, 1), (44, 2), (54, 0), (8, 16)] W0 κ κ := CF.rf
  have k_m1073741670 : ((-1073741670) : Int32).toInt = (-1073741670) := rfl
  have k_0 : (0 : Int32).toInt = 0 := rfl
  have k_3 : (3 : Int32).toInt = 3 := rfl
  have k_16 : (16 : Int32).toInt = 16 := rfl
  have k_259 : (259 : Int32).toInt = 259 := rfl
  have kl_m1073741670 : ((-1073741670) : Int64).toInt = (-1073741670) := rfl
  have kl_3 : (3 : Int64).toInt = 3 := rfl
  have kl_259 : (259 : Int64).toInt = 259 := rfl
  refine ⟨(hV.mm hs_h (by decide) rfl), ?_⟩
  intro z1 ez1
  obtain ⟨bz1, ebz1, hsz1⟩ := hV.1.nn hs_h (by decide) rfl 12 rfl (by decide)
  have ebz1 := ez1.trans ebz1
  refine ⟨bz1, ebz1, (hV.mm hsz1 (by decide) rfl), ?_⟩
  refine t_Jx4a65c_size_8abf5 hV bz1 hsz1 (by decide) (fun z3 pz3 => ?_)
  have rg_z3 := i_range z3
  refine ⟨fun c1 => ?_, fun c1 => ?_⟩
  · refine ⟨(hV.mm hs_h (by decide) rfl), ?_⟩
    refine t_X11_nextSerial hV h hs_h 3  (fun z5 κ4 hV fκ4 pz5 => ?_)
    have tk1 : (sI κ4.1 bz1 2).toInt = (sI κ.1 bz1 2).toInt := by rw [(fκ4.1 bz1 (by rw [hsz1]; decide) 2 (by rw [hsz1]; decide)).1]
    have hfr := hfr.trW hx fκ4 (by decide)
    have rg_z5 := l_range z5
    refine ⟨b_a1, e_a1, (hV.mm hs_a1 (by decide) rfl), ?_⟩
    intro κ6 eκ6
    have hV := hV.uJ eκ6
    have f1κ6 : CF [(8, 16)] W κ4 κ6 := CF.rf.uJ (k := 16) hs_a1 (by decide) (show ((8, 16) : Nat × Nat) ∈ ([(8, 16)] : List (Nat × Nat)) by simp) eκ6
    have tk2 : (sI κ6.1 bz1 2).toInt = (sI κ4.1 bz1 2).toInt := by rw [(f1κ6.1 bz1 (by rw [hsz1]; decide) 2 (by rw [hsz1]; decide)).1]
    have hfr := hfr.trW hx f1κ6 (by decide)
    refine ⟨(hV.mm hs_h (by decide) rfl), ?_⟩
    intro z7 ez7
    have ebz7 : z7 = some bz1 := (ez7.trans (hfr.1 h (by rw [hs0_h]; decide) 12 (by rw [hs0_h]; decide)).2.2).trans (ez1.symm.trans ebz1)
    refine ⟨bz1, ebz7, (hV.mm hsz1 (by decide) rfl), ?_⟩
    refine t_Jx4a65c_add_9ea2d hV bz1 hsz1 (by decide) a1 b_a1 e_a1 hs_a1 (by omega) 502 (by decide) (by omega) (fun z9 W κ8 x1_ hV fκ8 pz9 => ?_)
    have hV : CV G E W (c - 502) κ8 := hV.dn (by omega)
    have hx2 := hx.tr x1_ hfr.sl
    have hfr := hfr.trW hx fκ8 (by decide)
    have hs_h := WLe.at (x1_).1 hs_h (by decide)
    have hs_a1 := WLe.at (x1_).1 hs_a1 (by decide)
    have hsz1 := WLe.at (x1_).1 hsz1 (by decide)
    have hx := hx2
    exact kk 259 W κ8 hx (hV.dn (by omega)) hfr trivial
  · exact kk (-1073741670) W κ hx (hV.dn (by omega)) hfr trivial
set_option maxRecDepth 100000 in
set_option maxHeartbeats 4000000 in
theorem t_X11_openOrWait {G : GE} {E : CE} {W0 : CW} {c : Int} {κ : CS} (hV : CV G E W0 c κ) (h : Nat) (hs_h : W0.1 h = 1) (a1 : Option Nat) (b_a1 : Nat) (e_a1 : a1 = some b_a1) (hs_a1 : W0.1 b_a1 = 8)  (hc : 655 ≤ c) {post : Int32 → CS → Prop} (kk : ∀ (r : Int32) (W' : CW) (κ' : CS), WX W0 W' κ → CV G E W' (c - 655) κ' → CF [(1, 6), (10, 10), (10, 3), (10, 4), (10, 5), (10, 7), (10, 8), (10, 9), (13, 10), (13, 11), (13, 12), (20, 0), (30, 0), (33, 0), (4, 0), (4, 1), (4, 10), (4, 11), (4, 12), (4, 13), (4, 2), (4, 3), (4, 5), (4, 6), (4, 7), (4, 8), (4, 9), (42, 0), (42, 1), (42, 2), (44, 0), (44, 1), (44, 2), (5, 1), (5, 10), (5, 11), (5, 12), (5, 13), (5, 2), (5, 3), (5, 4), (5, 6), (5, 7), (5, 8), (5, 9), (52, 0), (54, 0), (6, 1), (61, 0), (61, 1), (63, 0), (63, 1), (8, 15), (8, 16), (8, 18)] W0 κ κ' → (True) → post r κ') : F_X11_openOrWait G h a1 post κ := by
  have hs0_h := hs_h
  have hs0_a1 := hs_a1
  suffices H_ : ∀ W : CW, WX W0 W κ → CV G E W (c - 0) κ → (W.1 h = 1) → (W.1 b_a1 = 8) → F_X11_openOrWait G h a1 post κ from H_ W0 WX.rf (hV.dn (by omega)) hs_h hs_a1
  intro W hx hV hs_h hs_a1
  unfold F_X11_openOrWait
  have hfr : CF [(1, 6), (10, 10), (10, 3), (10, 4), (10, 5), (10, 7), (10, 8), (10, 9), (13, 10), (13, 11), (13, 12), (20, 0), (30, 0), (33, 0), (4, 0), (4, 1), (4, 10), (4, 11), (4, 12), (4, 13), (4, 2), (4, 3), (4, 5), (4, 6), (4, 7), (4, 8), (4, 9), (42, 0), (42, 1), (42, 2), (44, 0), (44, 1), (44, 2), (5, 1), (5, 10), (5, 11), (5, 12), (5, 13), (5, 2), (5, 3), (5, 4), (5, 6), (5, 7), (5, 8), (5, 9), (52, 0), (54, 0), (6, 1), (61, 0), (61, 1), (63, 0), (63, 1), (8, 15), (8, 16), (8, 18)] W0 κ κ := CF.rf
  have k_m1073741757 : ((-1073741757) : Int32).toInt = (-1073741757) := rfl
  have k_0 : (0 : Int32).toInt = 0 := rfl
  have k_259 : (259 : Int32).toInt = 259 := rfl
  refine ⟨(hV.mm hs_h (by decide) rfl), ?_⟩
  intro z1 ez1
  obtain ⟨bz1, ebz1, hsz1⟩ := hV.1.nn hs_h (by decide) rfl 15 rfl (by decide)
  have ebz1 := ez1.trans ebz1
  refine ⟨(hV.mm hs_h (by decide) rfl), ?_⟩
  refine t_X11_tryOpen hV h hs_h a1 b_a1 e_a1 hs_a1 z1 bz1 ebz1 hsz1  (by omega) (fun z3 W κ2 x1_ hV fκ2 pz3 => ?_)
  have hV : CV G E W (c - 153) κ2 := hV.dn (by omega)
  have hx2 := hx.tr x1_ hfr.sl
  have hfr := hfr.trW hx fκ2 (by decide)
  have hs_h := WLe.at (x1_).1 hs_h (by decide)
  have hs_a1 := WLe.at (x1_).1 hs_a1 (by decide)
  have hsz1 := WLe.at (x1_).1 hsz1 (by decide)
  have hx := hx2
  have rg_z3 := i_range z3
  refine ⟨fun c1 => ?_, fun c1 => ?_⟩
  · refine ⟨b_a1, e_a1, (hV.mm hs_a1 (by decide) rfl), ?_⟩
    refine t_X0_last hV b_a1 hs_a1  (fun z5 pz5 => ?_)
    have rg_z5 := i_range z5
    refine jc_dup ?_
    refine ⟨fun c2 => ?_, fun c2 => ?_⟩
    · (try dsimp only)
      exact kk (-1073741757) W κ2 hx (hV.dn (by omega)) hfr trivial
    · refine ⟨(hV.mm hs_h (by decide) rfl), ?_⟩
      refine t_X11_beginWaiting hV h hs_h a1 b_a1 e_a1 hs_a1  (by omega) (fun z12 W κ11 x1_ hV fκ11 pz12 => ?_)
      have hV : CV G E W (c - 655) κ11 := hV.dn (by omega)
      have hx2 := hx.tr x1_ hfr.sl
      have hfr := hfr.trW hx fκ11 (by decide)
      have hs_h := WLe.at (x1_).1 hs_h (by decide)
      have hs_a1 := WLe.at (x1_).1 hs_a1 (by decide)
      have hsz1 := WLe.at (x1_).1 hsz1 (by decide)
      have hx := hx2
      have rg_z12 := i_range z12
      (try dsimp only)
      exact kk z12 W κ11 hx (hV.dn (by omega)) hfr trivial
  · exact kk z3 W κ2 hx (hV.dn (by omega)) hfr trivial

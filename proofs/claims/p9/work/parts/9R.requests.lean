/-! the class: requests, one by one -/
set_option maxRecDepth 100000 in
set_option maxHeartbeats 4000000 in
theorem t_X11_readWish {G : GE} {E : CE} {W0 : CW} {c : Int} {κ : CS} (hV : CV G E W0 c κ) (h : Nat) (hs_h : W0.1 h = 1) (a1 : Option Nat) (b_a1 : Nat) (e_a1 : a1 = some b_a1) (hs_a1 : W0.1 b_a1 = 8)  (hc : 169 ≤ c) {post : Int32 → CS → Prop} (kk : ∀ (r : Int32) (W' : CW) (κ' : CS), WX W0 W' κ → CV G E W' (c - 169) κ' → CF [(13, 0), (13, 1), (13, 2), (13, 3), (13, 4), (13, 5), (13, 6), (13, 7), (13, 8), (13, 9), (21, 0), (8, 17)] W0 κ κ' → (True) → post r κ') : F_X11_readWish G h a1 post κ := by
  have hs0_h := hs_h
  have hs0_a1 := hs_a1
  suffices H_ : ∀ W : CW, WX W0 W κ → CV G E W (c - 0) κ → (W.1 h = 1) → (W.1 b_a1 = 8) → F_X11_readWish G h a1 post κ from H_ W0 WX.rf (hV.dn (by omega)) hs_h hs_a1
  intro W hx hV hs_h hs_a1
  unfold F_X11_readWish
  have hfr : CF [(13, 0), (13, 1), (13, 2), (13, 3), (13, 4), (13, 5), (13, 6), (13, 7), (13, 8), (13, 9), (21, 0), (8, 17)] W0 κ κ := CF.rf
  have k_m1073741811 : ((-1073741811) : Int32).toInt = (-1073741811) := rfl
  have k_m1073741790 : ((-1073741790) : Int32).toInt = (-1073741790) := rfl
  have k_m1073741773 : ((-1073741773) : Int32).toInt = (-1073741773) := rfl
  have k_0 : (0 : Int32).toInt = 0 := rfl
  have k_1 : (1 : Int32).toInt = 1 := rfl
  have k_2 : (2 : Int32).toInt = 2 := rfl
  have k_4 : (4 : Int32).toInt = 4 := rfl
  have k_8 : (8 : Int32).toInt = 8 := rfl
  have k_9 : (9 : Int32).toInt = 9 := rfl
  have k_67 : (67 : Int32).toInt = 67 := rfl
  have k_88 : (88 : Int32).toInt = 88 := rfl
  have k_92 : (92 : Int32).toInt = 92 := rfl
  have k_96 : (96 : Int32).toInt = 96 := rfl
  have k_100 : (100 : Int32).toInt = 100 := rfl
  have k_104 : (104 : Int32).toInt = 104 := rfl
  have k_108 : (108 : Int32).toInt = 108 := rfl
  have k_110 : (110 : Int32).toInt = 110 := rfl
  have k_65536 : (65536 : Int32).toInt = 65536 := rfl
  have kl_m1073741811 : ((-1073741811) : Int64).toInt = (-1073741811) := rfl
  have kl_m1073741790 : ((-1073741790) : Int64).toInt = (-1073741790) := rfl
  have kl_1 : (1 : Int64).toInt = 1 := rfl
  have kl_2 : (2 : Int64).toInt = 2 := rfl
  have kl_4 : (4 : Int64).toInt = 4 := rfl
  have kl_5 : (5 : Int64).toInt = 5 := rfl
  have kl_7 : (7 : Int64).toInt = 7 := rfl
  have kl_67 : (67 : Int64).toInt = 67 := rfl
  have kl_88 : (88 : Int64).toInt = 88 := rfl
  have kl_92 : (92 : Int64).toInt = 92 := rfl
  have kl_96 : (96 : Int64).toInt = 96 := rfl
  have kl_100 : (100 : Int64).toInt = 100 := rfl
  have kl_104 : (104 : Int64).toInt = 104 := rfl
  have kl_108 : (108 : Int64).toInt = 108 := rfl
  have kl_110 : (110 : Int64).toInt = 110 := rfl
  have kl_65536 : (65536 : Int64).toInt = 65536 := rfl
  refine ⟨b_a1, e_a1, (hV.mm hs_a1 (by decide) rfl), ?_⟩
  refine t2_X0_number hV b_a1 hs_a1 96 4  (by decide) (fun z2 pz2 => ?_)
  have rg_z2 := l_range z2
  refine ⟨b_a1, e_a1, (hV.mm hs_a1 (by decide) rfl), ?_⟩
  refine t2_X0_number hV b_a1 hs_a1 100 4  (by decide) (fun z4 pz4 => ?_)
  have rg_z4 := l_range z4
  refine jc_dup ?_
  refine ⟨fun c1 => ?_, fun c1 => ?_⟩
  · (try dsimp only)
    exact kk (-1073741811) W κ hx (hV.dn (by omega)) hfr trivial
  · refine ⟨fun c2 => ?_, fun c2 => ?_⟩
    · have hbd_ := hV.bud
      refine ⟨by omega, ?_⟩
      intro o10 hn_o10 κ11 eκ11
      have hpn_o10 : PO G E W κ11 o10 13 [8] := PO.new hV hn_o10 eκ11 rfl (by decide)
      have f1κ11 : CF [] W κ κ11 := CF.rf.uN hV.1 hn_o10 eκ11
      have hq0_o10 : o10 ∉ sL κ.1 := fun h => hn_o10 (hfr.sl o10 h)
      have hV := hV.newO hn_o10 (by omega) eκ11
      have hV : CV G E W (c - 25) κ11 := hV.dn (by omega)
      have hfr := hfr.trW hx f1κ11 (by decide)
      have hp_o10 := hpn_o10
      have hq_ := (hp_o10).1
      refine t_X10_init hV o10 hp_o10  (by omega) (fun W κ12 x1_ hV fκ12 hp_o10 pκ12 => ?_)
      have hV : CV G E W (c - 37) κ12 := hV.dn (by omega)
      have hx2 := hx.tr x1_ hfr.sl
      have hfr := hfr.trX hx hq0_o10 hq_ fκ12 (by decide)
      obtain ⟨W, xa_, hV, hs_o10⟩ := hV.addO hp_o10 (by decide)
      have hx := hx2.add hq0_o10 xa_
      have hs_h := WLe.at (x1_.1.tr xa_.1) hs_h (by decide)
      have hs_a1 := WLe.at (x1_.1.tr xa_.1) hs_a1 (by decide)
      intro z14 ez14
      try have hz14 := l_toi ez14 (by omega) (by omega)
      have rg_z14 := i_range z14
      refine ⟨(hV.mm hs_o10 (by decide) rfl), ?_⟩
      intro κ15 eκ15
      have rv_κ15 := i_range z14
      have hV := hV.uI (k := 3) (v := z14) hs_o10 (Or.inl rfl) (Or.inl (by decide)) (Or.inl (by decide)) (fun _ => (by omega : (-2147483648 : Int) ≤ (z14 : Int32).toInt ∧ (z14 : Int32).toInt ≤ 2147483647)) eκ15
      have uκ15 : (sI κ15.1 o10 3).toInt = (z14 : Int32).toInt := by rw [eκ15]; exact congrArg Int32.toInt u2_same
      have f1κ15 : CF [(13, 3)] W κ12 κ15 := CF.rf.uI (k := 3) hs_o10 (by decide) (show ((13, 3) : Nat × Nat) ∈ ([(13, 3)] : List (Nat × Nat)) by simp) eκ15
      have hfr := hfr.trW hx f1κ15 (by decide)
      intro z16 ez16
      try have hz16 := l_toi ez16 (by omega) (by omega)
      have rg_z16 := i_range z16
      refine ⟨(hV.mm hs_o10 (by decide) rfl), ?_⟩
      intro κ17 eκ17
      have rv_κ17 := i_range z16
      have hV := hV.uI (k := 4) (v := z16) hs_o10 (Or.inl rfl) (Or.inl (by decide)) (Or.inl (by decide)) (fun _ => (by omega : (-2147483648 : Int) ≤ (z16 : Int32).toInt ∧ (z16 : Int32).toInt ≤ 2147483647)) eκ17
      have uκ17 : (sI κ17.1 o10 4).toInt = (z16 : Int32).toInt := by rw [eκ17]; exact congrArg Int32.toInt u2_same
      have f1κ17 : CF [(13, 4)] W κ15 κ17 := CF.rf.uI (k := 4) hs_o10 (by decide) (show ((13, 4) : Nat × Nat) ∈ ([(13, 4)] : List (Nat × Nat)) by simp) eκ17
      have hfr := hfr.trW hx f1κ17 (by decide)
      refine ⟨b_a1, e_a1, (hV.mm hs_a1 (by decide) rfl), ?_⟩
      refine t2_X0_number hV b_a1 hs_a1 104 4  (by decide) (fun z19 pz19 => ?_)
      have rg_z19 := l_range z19
      intro z20 ez20
      try have hz20 := l_toi ez20 (by omega) (by omega)
      have rg_z20 := i_range z20
      refine ⟨(hV.mm hs_o10 (by decide) rfl), ?_⟩
      refine t_X10_takeOptions hV o10 hs_o10 z20  (fun κ21 hV fκ21 pu4 => ?_)
      have hfr := hfr.trW hx fκ21 (by decide)
      refine ⟨(hV.mm hs_o10 (by decide) rfl), ?_⟩
      intro z23 ez23
      have vz23 := hV.1.iv hs_o10 (by decide) rfl 5 0 1 rfl ez23
      have wz23 : z23.toInt = (sI κ21.1 o10 5).toInt := by rw [ez23]
      refine jc_in (fun (x : Unit) (κ' : CS) => κ21 = κ' ∧ ((True))) (fun x24 κ25 hJ => ?_) (fun K26 hK26 => ?_)
      · obtain ⟨hsg, hv⟩ := hJ
        subst hsg
        (try dsimp only at hv)
        refine ⟨b_a1, e_a1, (hV.mm hs_a1 (by decide) rfl), ?_⟩
        refine t2_X0_number hV b_a1 hs_a1 88 4  (by decide) (fun z30 pz30 => ?_)
        have rg_z30 := l_range z30
        intro z31 ez31
        try have hz31 := l_toi ez31 (by omega) (by omega)
        have rg_z31 := i_range z31
        refine ⟨(hV.mm hs_o10 (by decide) rfl), ?_⟩
        refine t_X10_takeAccess hV o10 hs_o10 z31  (fun κ32 hV fκ32 pu6 => ?_)
        have hfr := hfr.trW hx fκ32 (by decide)
        refine ⟨(hV.mm hs_o10 (by decide) rfl), ?_⟩
        intro z34 ez34
        have vz34 := hV.1.iv hs_o10 (by decide) rfl 1 (-2147483648) 2147483647 rfl ez34
        have wz34 : z34.toInt = (sI κ32.1 o10 1).toInt := by rw [ez34]
        refine jc_dup ?_
        refine ⟨fun c3 => ?_, fun c3 => ?_⟩
        · (try dsimp only)
          exact kk (-1073741790) W κ32 hx (hV.dn (by omega)) hfr trivial
        · refine ⟨(hV.mm hs_o10 (by decide) rfl), ?_⟩
          intro z40 ez40
          have vz40 := hV.1.iv hs_o10 (by decide) rfl 7 0 1 rfl ez40
          have wz40 : z40.toInt = (sI κ32.1 o10 7).toInt := by rw [ez40]
          refine jc_in (fun (x : Unit) (κ' : CS) => κ32 = κ' ∧ ((True))) (fun x41 κ42 hJ => ?_) (fun K43 hK43 => ?_)
          · obtain ⟨hsg, hv⟩ := hJ
            subst hsg
            (try dsimp only at hv)
            refine ⟨b_a1, e_a1, (hV.mm hs_a1 (by decide) rfl), ?_⟩
            refine t2_X0_number hV b_a1 hs_a1 67 1  (by decide) (fun z47 pz47 => ?_)
            have rg_z47 := l_range z47
            intro z48 ez48
            try have hz48 := l_toi ez48 (by omega) (by omega)
            have rg_z48 := i_range z48
            refine jc_in (fun (x : Int32) (κ' : CS) => κ32 = κ' ∧ ((True))) (fun x49 κ50 hJ => ?_) (fun K51 hK51 => ?_)
            · obtain ⟨hsg, hv⟩ := hJ
              subst hsg
              (try dsimp only at hv)
              have rg_x49 := i_range x49
              refine ⟨(hV.mm hs_o10 (by decide) rfl), ?_⟩
              intro κ54 eκ54
              have rv_κ54 := i_range x49
              have hV := hV.uI (k := 0) (v := x49) hs_o10 (Or.inl rfl) (Or.inl (by decide)) (Or.inl (by decide)) (fun _ => (by omega : (-2147483648 : Int) ≤ (x49 : Int32).toInt ∧ (x49 : Int32).toInt ≤ 2147483647)) eκ54
              have uκ54 : (sI κ54.1 o10 0).toInt = (x49 : Int32).toInt := by rw [eκ54]; exact congrArg Int32.toInt u2_same
              have f1κ54 : CF [(13, 0)] W κ32 κ54 := CF.rf.uI (k := 0) hs_o10 (by decide) (show ((13, 0) : Nat × Nat) ∈ ([(13, 0)] : List (Nat × Nat)) by simp) eκ54
              have hfr := hfr.trW hx f1κ54 (by decide)
              refine ⟨b_a1, e_a1, (hV.mm hs_a1 (by decide) rfl), ?_⟩
              refine t2_X0_number hV b_a1 hs_a1 92 4  (by decide) (fun z56 pz56 => ?_)
              have rg_z56 := l_range z56
              intro z57 ez57
              try have hz57 := l_toi ez57 (by omega) (by omega)
              have rg_z57 := i_range z57
              refine ⟨(hV.mm hs_o10 (by decide) rfl), ?_⟩
              intro κ58 eκ58
              have rv_κ58 := i_range z57
              have hV := hV.uI (k := 2) (v := z57) hs_o10 (Or.inl rfl) (Or.inl (by decide)) (Or.inl (by decide)) (fun _ => (by omega : (-2147483648 : Int) ≤ (z57 : Int32).toInt ∧ (z57 : Int32).toInt ≤ 2147483647)) eκ58
              have uκ58 : (sI κ58.1 o10 2).toInt = (z57 : Int32).toInt := by rw [eκ58]; exact congrArg Int32.toInt u2_same
              have f1κ58 : CF [(13, 2)] W κ54 κ58 := CF.rf.uI (k := 2) hs_o10 (by decide) (show ((13, 2) : Nat × Nat) ∈ ([(13, 2)] : List (Nat × Nat)) by simp) eκ58
              have hfr := hfr.trW hx f1κ58 (by decide)
              refine ⟨b_a1, e_a1, (hV.mm hs_a1 (by decide) rfl), ?_⟩
              intro κ59 eκ59
              have hV := hV.uP (k := 17) (v := (some o10)) hs_a1 rfl (Or.inl (by decide)) (by decide) (by decide) (fun _ => (Or.inr (Or.inr (Or.inr ⟨o10, rfl, hs_o10⟩)))) eκ59
              have f1κ59 : CF [(8, 17)] W κ58 κ59 := CF.rf.uP (k := 17) hs_a1 (by decide) (show ((8, 17) : Nat × Nat) ∈ ([(8, 17)] : List (Nat × Nat)) by simp) eκ59
              have hfr := hfr.trW hx f1κ59 (by decide)
              refine ⟨b_a1, e_a1, (hV.mm hs_a1 (by decide) rfl), ?_⟩
              refine t2_X0_number hV b_a1 hs_a1 108 2  (by decide) (fun z61 pz61 => ?_)
              have rg_z61 := l_range z61
              intro z62 ez62
              try have hz62 := l_toi ez62 (by omega) (by omega)
              have rg_z62 := i_range z62
              refine ⟨b_a1, e_a1, (hV.mm hs_a1 (by decide) rfl), ?_⟩
              refine t2_X0_number hV b_a1 hs_a1 110 2  (by decide) (fun z64 pz64 => ?_)
              have rg_z64 := l_range z64
              refine ⟨(hV.mm hs_o10 (by decide) rfl), ?_⟩
              refine t_X10_takePath hV o10 hs_o10 a1 b_a1 e_a1 hs_a1 z62 z64  (by omega) (fun z66 W κ65 x1_ hV fκ65 pz66 => ?_)
              have hV : CV G E W (c - 169) κ65 := hV.dn (by omega)
              have hx2 := hx.tr x1_ hfr.sl
              have hfr := hfr.trW hx fκ65 (by decide)
              have hs_h := WLe.at (x1_).1 hs_h (by decide)
              have hs_a1 := WLe.at (x1_).1 hs_a1 (by decide)
              have hs_o10 := WLe.at (x1_).1 hs_o10 (by decide)
              have hx := hx2
              have rg_z66 := i_range z66
              refine jc_dup ?_
              refine ⟨fun c4 => ?_, fun c4 => ?_⟩
              · (try dsimp only)
                exact kk (-1073741773) W κ65 hx (hV.dn (by omega)) hfr trivial
              · (try dsimp only)
                exact kk 0 W κ65 hx (hV.dn (by omega)) hfr trivial
            · skip
              refine jc_dup ?_
              refine ⟨fun c5 => ?_, fun c5 => ?_⟩
              · (try dsimp only)
                exact hK51 z48 κ32 ⟨rfl, trivial⟩
              · refine ⟨fun c6 => ?_, fun c6 => ?_⟩
                · (try dsimp only)
                  exact hK51 z48 κ32 ⟨rfl, trivial⟩
                · refine ⟨fun c7 => ?_, fun c7 => ?_⟩
                  · exact hK51 0 κ32 ⟨rfl, trivial⟩
                  · (try dsimp only)
                    exact hK51 z48 κ32 ⟨rfl, trivial⟩
          · skip
            refine ⟨fun c8 => ?_, fun c8 => ?_⟩
            · exact hK43 () κ32 ⟨rfl, trivial⟩
            · refine ⟨(hV.mm hs_o10 (by decide) rfl), ?_⟩
              intro z77 ez77
              have vz77 := hV.1.iv hs_o10 (by decide) rfl 1 (-2147483648) 2147483647 rfl ez77
              have wz77 : z77.toInt = (sI κ32.1 o10 1).toInt := by rw [ez77]
              intro z78 ez78
              try have hz78 := i_and ez78 (by omega)
              have rg_z78 := i_range z78
              refine ⟨fun c9 => ?_, fun c9 => ?_⟩
              · exact hK43 () κ32 ⟨rfl, trivial⟩
              · (try dsimp only)
                exact kk (-1073741790) W κ32 hx (hV.dn (by omega)) hfr trivial
      · skip
        refine ⟨fun c10 => ?_, fun c10 => ?_⟩
        · exact hK26 () κ21 ⟨rfl, trivial⟩
        · refine ⟨(hV.mm hs_o10 (by decide) rfl), ?_⟩
          intro z79 ez79
          have vz79 := hV.1.iv hs_o10 (by decide) rfl 6 0 1 rfl ez79
          have wz79 : z79.toInt = (sI κ21.1 o10 6).toInt := by rw [ez79]
          refine jc_dup ?_
          refine ⟨fun c11 => ?_, fun c11 => ?_⟩
          · (try dsimp only)
            exact kk (-1073741811) W κ21 hx (hV.dn (by omega)) hfr trivial
          · refine ⟨(hV.mm hs_o10 (by decide) rfl), ?_⟩
            refine t_X10_empties hV o10 hs_o10  (fun z86 pz86 => ?_)
            have rg_z86 := i_range z86
            refine ⟨fun c12 => ?_, fun c12 => ?_⟩
            · exact hK26 () κ21 ⟨rfl, trivial⟩
            · (try dsimp only)
              exact kk (-1073741811) W κ21 hx (hV.dn (by omega)) hfr trivial
    · (try dsimp only)
      exact kk (-1073741811) W κ hx (hV.dn (by omega)) hfr trivial
set_option maxRecDepth 100000 in
set_option maxHeartbeats 4000000 in
theorem t_X11_prepare {G : GE} {E : CE} {W0 : CW} {c : Int} {κ : CS} (hV : CV G E W0 c κ) (h : Nat) (hs_h : W0.1 h = 1) (a1 : Option Nat) (b_a1 : Nat) (e_a1 : a1 = some b_a1) (hs_a1 : W0.1 b_a1 = 8)  (hc : 169 ≤ c) {post : Int32 → CS → Prop} (kk : ∀ (r : Int32) (W' : CW) (κ' : CS), WX W0 W' κ → CV G E W' (c - 169) κ' → CF [(11, 4), (13, 0), (13, 1), (13, 2), (13, 3), (13, 4), (13, 5), (13, 6), (13, 7), (13, 8), (13, 9), (21, 0), (44, 0), (44, 2), (54, 0), (8, 17)] W0 κ κ' → (True) → post r κ') : F_X11_prepare G h a1 post κ := by
  have hs0_h := hs_h
  have hs0_a1 := hs_a1
  suffices H_ : ∀ W : CW, WX W0 W κ → CV G E W (c - 0) κ → (W.1 h = 1) → (W.1 b_a1 = 8) → F_X11_prepare G h a1 post κ from H_ W0 WX.rf (hV.dn (by omega)) hs_h hs_a1
  intro W hx hV hs_h hs_a1
  unfold F_X11_prepare
  have hfr : CF [(11, 4), (13, 0), (13, 1), (13, 2), (13, 3), (13, 4), (13, 5), (13, 6), (13, 7), (13, 8), (13, 9), (21, 0), (44, 0), (44, 2), (54, 0), (8, 17)] W0 κ κ := CF.rf
  have k_0 : (0 : Int32).toInt = 0 := rfl
  have k_1 : (1 : Int32).toInt = 1 := rfl
  have k_5 : (5 : Int32).toInt = 5 := rfl
  refine ⟨b_a1, e_a1, (hV.mm hs_a1 (by decide) rfl), ?_⟩
  intro z1 ez1
  have vz1 := hV.1.iv hs_a1 (by decide) rfl 5 (-2147483648) 2147483647 rfl ez1
  have wz1 : z1.toInt = (sI κ.1 b_a1 5).toInt := by rw [ez1]
  refine ⟨fun c1 => ?_, fun c1 => ?_⟩
  · refine ⟨b_a1, e_a1, (hV.mm hs_a1 (by decide) rfl), ?_⟩
    intro z2 ez2
    have vz2 := hV.1.iv hs_a1 (by decide) rfl 5 (-2147483648) 2147483647 rfl ez2
    have wz2 : z2.toInt = (sI κ.1 b_a1 5).toInt := by rw [ez2]
    refine jc_dup ?_
    refine ⟨fun c2 => ?_, fun c2 => ?_⟩
    · (try dsimp only)
      exact kk 0 W κ hx (hV.dn (by omega)) hfr trivial
    · refine ⟨(hV.mm hs_h (by decide) rfl), ?_⟩
      refine t_X11_readWish hV h hs_h a1 b_a1 e_a1 hs_a1  (by omega) (fun z9 W κ8 x1_ hV fκ8 pz9 => ?_)
      have hV : CV G E W (c - 169) κ8 := hV.dn (by omega)
      have hx2 := hx.tr x1_ hfr.sl
      have hfr := hfr.trW hx fκ8 (by decide)
      have hs_h := WLe.at (x1_).1 hs_h (by decide)
      have hs_a1 := WLe.at (x1_).1 hs_a1 (by decide)
      have hx := hx2
      have rg_z9 := i_range z9
      (try dsimp only)
      exact kk z9 W κ8 hx (hV.dn (by omega)) hfr trivial
  · refine ⟨(hV.mm hs_h (by decide) rfl), ?_⟩
    refine t_X11_endFormer hV h hs_h a1 b_a1 e_a1 hs_a1  (fun z11 κ10 hV fκ10 pz11 => ?_)
    have hfr := hfr.trW hx fκ10 (by decide)
    have rg_z11 := i_range z11
    exact kk z11 W κ10 hx (hV.dn (by omega)) hfr trivial
set_option maxRecDepth 100000 in
set_option maxHeartbeats 4000000 in
theorem t_X11_close {G : GE} {E : CE} {W0 : CW} {c : Int} {κ : CS} (hV : CV G E W0 c κ) (h : Nat) (hs_h : W0.1 h = 1) (a1 : Option Nat) (b_a1 : Nat) (e_a1 : a1 = some b_a1) (hs_a1 : W0.1 b_a1 = 8) (a2 : Option Nat) (b_a2 : Nat) (e_a2 : a2 = some b_a2) (hs_a2 : W0.1 b_a2 = 10)  (hc : 0 ≤ c) {post : Int32 → CS → Prop} (kk : ∀ (r : Int32) (W' : CW) (κ' : CS), WX W0 W' κ → CV G E W' (c - 0) κ' → CF [(10, 6), (20, 0), (61, 0), (61, 1)] W0 κ κ' → (True) → post r κ') : F_X11_close G h a1 a2 post κ := by
  have hs0_h := hs_h
  have hs0_a1 := hs_a1
  have hs0_a2 := hs_a2
  suffices H_ : ∀ W : CW, WX W0 W κ → CV G E W (c - 0) κ → (W.1 h = 1) → (W.1 b_a1 = 8) → (W.1 b_a2 = 10) → F_X11_close G h a1 a2 post κ from H_ W0 WX.rf (hV.dn (by omega)) hs_h hs_a1 hs_a2
  intro W hx hV hs_h hs_a1 hs_a2
  unfold F_X11_close
  have hfr : CF [(10, 6), (20, 0), (61, 0), (61, 1)] W0 κ κ := CF.rf
  have k_0 : (0 : Int32).toInt = 0 := rfl
  have k_1 : (1 : Int32).toInt = 1 := rfl
  have k_2 : (2 : Int32).toInt = 2 := rfl
  have k_60 : (60 : Int32).toInt = 60 := rfl
  have k_64 : (64 : Int32).toInt = 64 := rfl
  have k_66 : (66 : Int32).toInt = 66 := rfl
  have k_124 : (124 : Int32).toInt = 124 := rfl
  have kl_0 : (0 : Int64).toInt = 0 := rfl
  have kl_1 : (1 : Int64).toInt = 1 := rfl
  have kl_2 : (2 : Int64).toInt = 2 := rfl
  have kl_60 : (60 : Int64).toInt = 60 := rfl
  have kl_64 : (64 : Int64).toInt = 64 := rfl
  have kl_66 : (66 : Int64).toInt = 66 := rfl
  have kl_124 : (124 : Int64).toInt = 124 := rfl
  refine ⟨b_a1, e_a1, (hV.mm hs_a1 (by decide) rfl), ?_⟩
  refine t2_X0_number hV b_a1 hs_a1 66 2  (by decide) (fun z2 pz2 => ?_)
  have rg_z2 := l_range z2
  intro z3 ez3
  try have hz3 := l_toi ez3 (by omega) (by omega)
  have rg_z3 := i_range z3
  intro z4 ez4
  try have hz4 := i_and1 ez4 (by omega)
  have rg_z4 := i_range z4
  refine ⟨(hV.mm hs_h (by decide) rfl), ?_⟩
  intro z5 ez5
  obtain ⟨bz5, ebz5, hsz5⟩ := hV.1.nn hs_h (by decide) rfl 15 rfl (by decide)
  have ebz5 := ez5.trans ebz5
  refine ⟨bz5, ebz5, (hV.mm hsz5 (by decide) rfl), ?_⟩
  refine t_X6_begin hV bz5 hsz5 124 (by omega) (by omega) (fun W κ6 x1_ hV fκ6 pu2 => ?_)
  have hV : CV G E W (c - 0) κ6 := hV.dn (by omega)
  have hx2 := hx.tr x1_ hfr.sl
  have hfr := hfr.trW hx fκ6 (by decide)
  have hs_h := WLe.at (x1_).1 hs_h (by decide)
  have hs_a1 := WLe.at (x1_).1 hs_a1 (by decide)
  have hs_a2 := WLe.at (x1_).1 hs_a2 (by decide)
  have hsz5 := WLe.at (x1_).1 hsz5 (by decide)
  have hx := hx2
  refine jc_in (fun (x : Unit) (κ' : CS) => ∃ W' : CW, WLe W W' ∧ WX W0 W' κ ∧ CV G E W' (c - 0) κ' ∧ CF [(10, 6), (20, 0), (61, 0), (61, 1)] W0 κ κ' ∧ ((True))) (fun x8 κ9 hJ => ?_) (fun K10 hK10 => ?_)
  · obtain ⟨W, le35, hx, hV, hfr, hv⟩ := hJ
    have hs_h := WLe.at le35 hs_h (by decide)
    have hs_a1 := WLe.at le35 hs_a1 (by decide)
    have hs_a2 := WLe.at le35 hs_a2 (by decide)
    have hsz5 := WLe.at le35 hsz5 (by decide)
    (try dsimp only at hv)
    refine ⟨(hV.mm hs_h (by decide) rfl), ?_⟩
    intro z13 ez13
    have ebz13 : z13 = some bz5 := (ez13.trans (hfr.1 h (by rw [hs0_h]; decide) 15 (by rw [hs0_h]; decide)).2.2).trans (ez5.symm.trans ebz5)
    refine ⟨bz5, ebz13, (hV.mm hsz5 (by decide) rfl), ?_⟩
    refine t_X6_put hV bz5 hsz5 rfl 64 2 60  (fun κ14 hV fκ14 pu3 => ?_)
    have hfr := hfr.trW hx fκ14 (by decide)
    refine ⟨(hV.mm hs_h (by decide) rfl), ?_⟩
    intro z16 ez16
    have ebz16 : z16 = some bz5 := (ez16.trans (hfr.1 h (by rw [hs0_h]; decide) 15 (by rw [hs0_h]; decide)).2.2).trans (ez5.symm.trans ebz5)
    intro z17 ez17
    have hz17 := i_tol ez17
    have rg_z17 := l_range z17
    refine ⟨bz5, ebz16, (hV.mm hsz5 (by decide) rfl), ?_⟩
    refine t_X6_put hV bz5 hsz5 rfl 66 2 z17  (fun κ18 hV fκ18 pu4 => ?_)
    have hfr := hfr.trW hx fκ18 (by decide)
    refine ⟨by omega, b_a2, e_a2, (hV.mm hs_a2 (by decide) rfl), ?_⟩
    intro κ20 eκ20
    have rv_κ20 := i_range 1
    have hV := hV.uI (k := 6) (v := 1) hs_a2 (Or.inl rfl) (Or.inl (by decide)) (Or.inl (by decide)) (fun _ => (by omega : (0 : Int) ≤ (1 : Int32).toInt ∧ (1 : Int32).toInt ≤ 1)) eκ20
    have uκ20 : (sI κ20.1 b_a2 6).toInt = (1 : Int32).toInt := by rw [eκ20]; exact congrArg Int32.toInt u2_same
    have f1κ20 : CF [(10, 6)] W κ18 κ20 := CF.rf.uI (k := 6) hs_a2 (by decide) (show ((10, 6) : Nat × Nat) ∈ ([(10, 6)] : List (Nat × Nat)) by simp) eκ20
    have hfr := hfr.trW hx f1κ20 (by decide)
    exact kk 0 W κ20 hx (hV.dn (by omega)) hfr trivial
  · skip
    have le35 : WLe W W := WLe.rf
    refine ⟨fun c1 => ?_, fun c1 => ?_⟩
    · exact hK10 () κ6 ⟨W, le35, hx, hV.dn (by (try dsimp only); omega), hfr, trivial⟩
    · refine ⟨b_a2, e_a2, (hV.mm hs_a2 (by decide) rfl), ?_⟩
      intro z21 ez21
      obtain ⟨bz21, ebz21, hsz21⟩ := hV.1.nn hs_a2 (by decide) rfl 2 rfl (by decide)
      have ebz21 := ez21.trans ebz21
      refine ⟨(hV.mm hs_h (by decide) rfl), ?_⟩
      intro z22 ez22
      have ebz22 : z22 = some bz5 := (ez22.trans (hfr.1 h (by rw [hs0_h]; decide) 15 (by rw [hs0_h]; decide)).2.2).trans (ez5.symm.trans ebz5)
      refine ⟨bz21, ebz21, (hV.mm hsz21 (by decide) rfl), ?_⟩
      refine t_X4_tellAll hV bz21 hsz21 z22 bz5 ebz22 hsz5 rfl  (fun κ23 hV fκ23 pu5 => ?_)
      have hfr := hfr.trW hx fκ23 (by decide)
      exact hK10 () κ23 ⟨W, le35, hx, hV.dn (by (try dsimp only); omega), hfr, trivial⟩
set_option maxRecDepth 100000 in
set_option maxHeartbeats 4000000 in
theorem t_X11_flush {G : GE} {E : CE} {W0 : CW} {c : Int} {κ : CS} (hV : CV G E W0 c κ) (h : Nat) (hs_h : W0.1 h = 1) (a1 : Option Nat) (b_a1 : Nat) (e_a1 : a1 = some b_a1) (hs_a1 : W0.1 b_a1 = 10)  (hc : 0 ≤ c) {post : Int32 → CS → Prop} (kk : ∀ (r : Int32) (W' : CW) (κ' : CS), WX W0 W' κ → CV G E W' (c - 0) κ' → CF [(1, 6), (20, 0), (30, 0), (5, 1), (5, 10), (5, 11), (5, 12), (5, 13), (5, 2), (5, 3), (5, 4), (5, 6), (5, 7), (5, 8), (5, 9), (6, 1), (61, 0), (61, 1)] W0 κ κ' → (True) → post r κ') : F_X11_flush G h a1 post κ := by
  have hs0_h := hs_h
  have hs0_a1 := hs_a1
  suffices H_ : ∀ W : CW, WX W0 W κ → CV G E W (c - 0) κ → (W.1 h = 1) → (W.1 b_a1 = 10) → F_X11_flush G h a1 post κ from H_ W0 WX.rf (hV.dn (by omega)) hs_h hs_a1
  intro W hx hV hs_h hs_a1
  unfold F_X11_flush
  have hfr : CF [(1, 6), (20, 0), (30, 0), (5, 1), (5, 10), (5, 11), (5, 12), (5, 13), (5, 2), (5, 3), (5, 4), (5, 6), (5, 7), (5, 8), (5, 9), (6, 1), (61, 0), (61, 1)] W0 κ κ := CF.rf
  have k_m1073741790 : ((-1073741790) : Int32).toInt = (-1073741790) := rfl
  have k_0 : (0 : Int32).toInt = 0 := rfl
  have k_6 : (6 : Int32).toInt = 6 := rfl
  have kl_m1073741790 : ((-1073741790) : Int64).toInt = (-1073741790) := rfl
  have kl_6 : (6 : Int64).toInt = 6 := rfl
  refine ⟨b_a1, e_a1, (hV.mm hs_a1 (by decide) rfl), ?_⟩
  intro z1 ez1
  have vz1 := hV.1.iv hs_a1 (by decide) rfl 3 (-2147483648) 2147483647 rfl ez1
  have wz1 : z1.toInt = (sI κ.1 b_a1 3).toInt := by rw [ez1]
  intro z2 ez2
  try have hz2 := i_and ez2 (by omega)
  have rg_z2 := i_range z2
  refine ⟨fun c1 => ?_, fun c1 => ?_⟩
  · refine ⟨(hV.mm hs_h (by decide) rfl), ?_⟩
    refine t_X11_comeToDisk hV h hs_h  (by omega) (fun W κ3 x1_ hV fκ3 pu1 => ?_)
    have hV : CV G E W (c - 0) κ3 := hV.dn (by omega)
    have hx2 := hx.tr x1_ hfr.sl
    have hfr := hfr.trW hx fκ3 (by decide)
    have hs_h := WLe.at (x1_).1 hs_h (by decide)
    have hs_a1 := WLe.at (x1_).1 hs_a1 (by decide)
    have hx := hx2
    refine ⟨(hV.mm hs_h (by decide) rfl), ?_⟩
    refine t_X11_plainAnswer hV h hs_h  (by omega) (fun z6 W κ5 x1_ hV fκ5 pz6 => ?_)
    have hV : CV G E W (c - 0) κ5 := hV.dn (by omega)
    have hx2 := hx.tr x1_ hfr.sl
    have hfr := hfr.trW hx fκ5 (by decide)
    have hs_h := WLe.at (x1_).1 hs_h (by decide)
    have hs_a1 := WLe.at (x1_).1 hs_a1 (by decide)
    have hx := hx2
    have rg_z6 := i_range z6
    exact kk z6 W κ5 hx (hV.dn (by omega)) hfr trivial
  · exact kk (-1073741790) W κ hx (hV.dn (by omega)) hfr trivial
set_option maxRecDepth 100000 in
set_option maxHeartbeats 4000000 in
theorem t_X11_read {G : GE} {E : CE} {W0 : CW} {c : Int} {κ : CS} (hV : CV G E W0 c κ) (h : Nat) (hs_h : W0.1 h = 1) (a1 : Option Nat) (b_a1 : Nat) (e_a1 : a1 = some b_a1) (hs_a1 : W0.1 b_a1 = 8) (a2 : Option Nat) (b_a2 : Nat) (e_a2 : a2 = some b_a2) (hs_a2 : W0.1 b_a2 = 10)  (hc : 0 ≤ c) {post : Int32 → CS → Prop} (kk : ∀ (r : Int32) (W' : CW) (κ' : CS), WX W0 W' κ → CV G E W' (c - 0) κ' → CF [(20, 0), (61, 0), (61, 1)] W0 κ κ' → (True) → post r κ') : F_X11_read G h a1 a2 post κ := by
  have hs0_h := hs_h
  have hs0_a1 := hs_a1
  have hs0_a2 := hs_a2
  suffices H_ : ∀ W : CW, WX W0 W κ → CV G E W (c - 0) κ → (W.1 h = 1) → (W.1 b_a1 = 8) → (W.1 b_a2 = 10) → F_X11_read G h a1 a2 post κ from H_ W0 WX.rf (hV.dn (by omega)) hs_h hs_a1 hs_a2
  intro W hx hV hs_h hs_a1 hs_a2
  unfold F_X11_read
  have hfr : CF [(20, 0), (61, 0), (61, 1)] W0 κ κ := CF.rf
  have k_m1073741811 : ((-1073741811) : Int32).toInt = (-1073741811) := rfl
  have k_m1073741807 : ((-1073741807) : Int32).toInt = (-1073741807) := rfl
  have k_m1073741790 : ((-1073741790) : Int32).toInt = (-1073741790) := rfl
  have k_m1073741740 : ((-1073741740) : Int32).toInt = (-1073741740) := rfl
  have k_m1073741638 : ((-1073741638) : Int32).toInt = (-1073741638) := rfl
  have k_0 : (0 : Int32).toInt = 0 := rfl
  have k_1 : (1 : Int32).toInt = 1 := rfl
  have k_2 : (2 : Int32).toInt = 2 := rfl
  have k_4 : (4 : Int32).toInt = 4 := rfl
  have k_8 : (8 : Int32).toInt = 8 := rfl
  have k_17 : (17 : Int32).toInt = 17 := rfl
  have k_64 : (64 : Int32).toInt = 64 := rfl
  have k_66 : (66 : Int32).toInt = 66 := rfl
  have k_68 : (68 : Int32).toInt = 68 := rfl
  have k_72 : (72 : Int32).toInt = 72 := rfl
  have k_80 : (80 : Int32).toInt = 80 := rfl
  have k_96 : (96 : Int32).toInt = 96 := rfl
  have kl_m1073741811 : ((-1073741811) : Int64).toInt = (-1073741811) := rfl
  have kl_m1073741807 : ((-1073741807) : Int64).toInt = (-1073741807) := rfl
  have kl_m1073741790 : ((-1073741790) : Int64).toInt = (-1073741790) := rfl
  have kl_m1073741740 : ((-1073741740) : Int64).toInt = (-1073741740) := rfl
  have kl_m1073741638 : ((-1073741638) : Int64).toInt = (-1073741638) := rfl
  have kl_0 : (0 : Int64).toInt = 0 := rfl
  have kl_1 : (1 : Int64).toInt = 1 := rfl
  have kl_2 : (2 : Int64).toInt = 2 := rfl
  have kl_4 : (4 : Int64).toInt = 4 := rfl
  have kl_8 : (8 : Int64).toInt = 8 := rfl
  have kl_17 : (17 : Int64).toInt = 17 := rfl
  have kl_64 : (64 : Int64).toInt = 64 := rfl
  have kl_66 : (66 : Int64).toInt = 66 := rfl
  have kl_68 : (68 : Int64).toInt = 68 := rfl
  have kl_72 : (72 : Int64).toInt = 72 := rfl
  have kl_80 : (80 : Int64).toInt = 80 := rfl
  have kl_96 : (96 : Int64).toInt = 96 := rfl
  have kl_1024 : (1024 : Int64).toInt = 1024 := rfl
  refine ⟨b_a2, e_a2, (hV.mm hs_a2 (by decide) rfl), ?_⟩
  intro z1 ez1
  obtain ⟨bz1, ebz1, hsz1⟩ := hV.1.nn hs_a2 (by decide) rfl 2 rfl (by decide)
  have ebz1 := ez1.trans ebz1
  refine ⟨b_a1, e_a1, (hV.mm hs_a1 (by decide) rfl), ?_⟩
  refine t2_X0_number hV b_a1 hs_a1 68 4  (by decide) (fun z3 pz3 => ?_)
  have rg_z3 := l_range z3
  refine ⟨b_a1, e_a1, (hV.mm hs_a1 (by decide) rfl), ?_⟩
  refine t_X0_number hV b_a1 hs_a1 72 8  (fun z5 pz5 => ?_)
  have rg_z5 := l_range z5
  refine ⟨fun c1 => ?_, fun c1 => ?_⟩
  · refine ⟨bz1, ebz1, (hV.mm hsz1 (by decide) rfl), ?_⟩
    intro z6 ez6
    have vz6 := hV.1.iv hsz1 (by decide) rfl 2 0 1 rfl ez6
    have wz6 : z6.toInt = (sI κ.1 bz1 2).toInt := by rw [ez6]
    refine ⟨fun c2 => ?_, fun c2 => ?_⟩
    · refine ⟨b_a2, e_a2, (hV.mm hs_a2 (by decide) rfl), ?_⟩
      intro z7 ez7
      have vz7 := hV.1.iv hs_a2 (by decide) rfl 3 (-2147483648) 2147483647 rfl ez7
      have wz7 : z7.toInt = (sI κ.1 b_a2 3).toInt := by rw [ez7]
      intro z8 ez8
      try have hz8 := i_and1 ez8 (by omega)
      have rg_z8 := i_range z8
      refine ⟨fun c3 => ?_, fun c3 => ?_⟩
      · refine ⟨(hV.mm hs_h (by decide) rfl), ?_⟩
        refine t_X11_othersLock hV h hs_h a2 b_a2 e_a2 hs_a2 z5 z3 0  (fun z10 pz10 => ?_)
        have rg_z10 := i_range z10
        refine ⟨fun c4 => ?_, fun c4 => ?_⟩
        · refine ⟨bz1, ebz1, (hV.mm hsz1 (by decide) rfl), ?_⟩
          intro z11 ez11
          have vz11 := hV.1.iv hsz1 (by decide) rfl 12 0 4096 rfl ez11
          have wz11 : z11.toInt = (sI κ.1 bz1 12).toInt := by rw [ez11]
          intro z12 ez12
          have hz12 := i_tol ez12
          have rg_z12 := l_range z12
          refine t_X11_below hV z5 z12  (fun z14 pz14 => ?_)
          have rg_z14 := i_range z14
          refine jc_in (fun (x : Int32) (κ' : CS) => κ = κ' ∧ (((0 ≤ x.toInt ∧ x.toInt ≤ 1) ∧ (x.toInt = 1 ∨ (0 ≤ z5.toInt ∧ z5.toInt < z12.toInt))))) (fun x15 κ16 hJ => ?_) (fun K17 hK17 => ?_)
          · obtain ⟨hsg, hv⟩ := hJ
            subst hsg
            (try dsimp only at hv)
            have rg_x15 := i_range x15
            refine jc_in (fun (x : Int32) (κ' : CS) => κ = κ' ∧ (((0 ≤ x.toInt) ∧ (x.toInt ≤ 1024)))) (fun x20 κ21 hJ => ?_) (fun K22 hK22 => ?_)
            · obtain ⟨hsg, hv⟩ := hJ
              subst hsg
              (try dsimp only at hv)
              have rg_x20 := i_range x20
              refine jc_dup ?_
              refine jc_in (fun (x : Unit) (κ' : CS) => κ = κ' ∧ ((True))) (fun x30 κ31 hJ => ?_) (fun K32 hK32 => ?_)
              · obtain ⟨hsg, hv⟩ := hJ
                subst hsg
                (try dsimp only at hv)
                intro z35 ez35
                have hz35 := i_tol ez35
                have rg_z35 := l_range z35
                refine ⟨b_a1, e_a1, (hV.mm hs_a1 (by decide) rfl), ?_⟩
                refine t2_X0_number hV b_a1 hs_a1 96 4  (by decide) (fun z37 pz37 => ?_)
                have rg_z37 := l_range z37
                refine ⟨fun c5 => ?_, fun c5 => ?_⟩
                · refine ⟨(hV.mm hs_h (by decide) rfl), ?_⟩
                  intro z38 ez38
                  obtain ⟨bz38, ebz38, hsz38⟩ := hV.1.nn hs_h (by decide) rfl 15 rfl (by decide)
                  have ebz38 := ez38.trans ebz38
                  intro z40 mz40
                  have rg_z40 := i_range z40
                  intro z41 ez41
                  try have hz41 := i_add ez41 (by omega) (by omega)
                  have rg_z41 := i_range z41
                  refine ⟨bz38, ebz38, (hV.mm hsz38 (by decide) rfl), ?_⟩
                  refine t_X6_begin hV bz38 hsz38 z41 (by omega) (by omega) (fun W κ42 x1_ hV fκ42 pu6 => ?_)
                  have hV : CV G E W (c - 0) κ42 := hV.dn (by omega)
                  have hx2 := hx.tr x1_ hfr.sl
                  have hfr := hfr.trW hx fκ42 (by decide)
                  have hs_h := WLe.at (x1_).1 hs_h (by decide)
                  have hs_a1 := WLe.at (x1_).1 hs_a1 (by decide)
                  have hs_a2 := WLe.at (x1_).1 hs_a2 (by decide)
                  have hsz1 := WLe.at (x1_).1 hsz1 (by decide)
                  have hsz38 := WLe.at (x1_).1 hsz38 (by decide)
                  have hx := hx2
                  refine ⟨(hV.mm hs_h (by decide) rfl), ?_⟩
                  intro z44 ez44
                  have ebz44 : z44 = some bz38 := (ez44.trans (hfr.1 h (by rw [hs0_h]; decide) 15 (by rw [hs0_h]; decide)).2.2).trans (ez38.symm.trans ebz38)
                  refine ⟨bz38, ebz44, (hV.mm hsz38 (by decide) rfl), ?_⟩
                  refine t_X6_put hV bz38 hsz38 rfl 64 2 17  (fun κ45 hV fκ45 pu7 => ?_)
                  have hfr := hfr.trW hx fκ45 (by decide)
                  refine ⟨(hV.mm hs_h (by decide) rfl), ?_⟩
                  intro z47 ez47
                  have ebz47 : z47 = some bz38 := (ez47.trans (hfr.1 h (by rw [hs0_h]; decide) 15 (by rw [hs0_h]; decide)).2.2).trans (ez38.symm.trans ebz38)
                  refine ⟨bz38, ebz47, (hV.mm hsz38 (by decide) rfl), ?_⟩
                  refine t_X6_put hV bz38 hsz38 rfl 66 1 80  (fun κ48 hV fκ48 pu8 => ?_)
                  have hfr := hfr.trW hx fκ48 (by decide)
                  refine ⟨(hV.mm hs_h (by decide) rfl), ?_⟩
                  intro z50 ez50
                  have ebz50 : z50 = some bz38 := (ez50.trans (hfr.1 h (by rw [hs0_h]; decide) 15 (by rw [hs0_h]; decide)).2.2).trans (ez38.symm.trans ebz38)
                  intro z51 ez51
                  have hz51 := i_tol ez51
                  have rg_z51 := l_range z51
                  refine ⟨bz38, ebz50, (hV.mm hsz38 (by decide) rfl), ?_⟩
                  refine t_X6_put hV bz38 hsz38 rfl 68 4 z51  (fun κ52 hV fκ52 pu9 => ?_)
                  have hfr := hfr.trW hx fκ52 (by decide)
                  refine lc_in (fun (x : Int32) (κ' : CS) => ∃ W' : CW, WLe W W' ∧ WX W0 W' κ ∧ CV G E W' (c - 0) κ' ∧ CF [(20, 0), (61, 0), (61, 1)] W0 κ κ' ∧ (((0 ≤ x.toInt)))) (fun (x : Int32) (κ' : CS) => (2147483647 - x.toInt).toNat) ⟨W, WLe.rf, hx, hV.dn (by (try dsimp only); omega), hfr, (by (try dsimp only); omega)⟩ (fun x54 κ55 hJ K56 hK56 => ?_)
                  obtain ⟨W, le211, hx, hV, hfr, hv⟩ := hJ
                  have hs_h := WLe.at le211 hs_h (by decide)
                  have hs_a1 := WLe.at le211 hs_a1 (by decide)
                  have hs_a2 := WLe.at le211 hs_a2 (by decide)
                  have hsz1 := WLe.at le211 hsz1 (by decide)
                  have hsz38 := WLe.at le211 hsz38 (by decide)
                  (try dsimp only at hv)
                  have rg_x54 := i_range x54
                  refine ⟨fun c6 => ?_, fun c6 => ?_⟩
                  · exact kk 0 W κ55 hx (hV.dn (by omega)) hfr trivial
                  · refine ⟨(hV.mm hs_h (by decide) rfl), ?_⟩
                    intro z58 ez58
                    have ebz58 : z58 = some bz38 := (ez58.trans (hfr.1 h (by rw [hs0_h]; decide) 15 (by rw [hs0_h]; decide)).2.2).trans (ez38.symm.trans ebz38)
                    intro z59 ez59
                    try have hz59 := i_add ez59 (by omega) (by omega)
                    have rg_z59 := i_range z59
                    intro z60 ez60
                    try have hz60 := l_toi ez60 (by omega) (by omega)
                    have rg_z60 := i_range z60
                    intro z61 ez61
                    try have hz61 := i_add ez61 (by omega) (by omega)
                    have rg_z61 := i_range z61
                    refine ⟨bz1, ebz1, (hV.mm hsz1 (by decide) rfl), ?_⟩
                    refine t_X4_byteAt hV bz1 hsz1 z61  (fun z63 pz63 => ?_)
                    have rg_z63 := i_range z63
                    intro z64 ez64
                    have hz64 := i_tol ez64
                    have rg_z64 := l_range z64
                    refine ⟨bz38, ebz58, (hV.mm hsz38 (by decide) rfl), ?_⟩
                    refine t_X6_put hV bz38 hsz38 rfl z59 1 z64  (fun κ65 hV fκ65 pu11 => ?_)
                    have hfr := hfr.trW hx fκ65 (by decide)
                    intro z67 ez67
                    try have hz67 := i_add ez67 (by omega) (by omega)
                    have rg_z67 := i_range z67
                    exact hK56 z67 κ65 ⟨W, le211, hx, hV.dn (by (try dsimp only); omega), hfr, (by (try dsimp only); omega)⟩ (by (try dsimp only); omega)
                · (try dsimp only)
                  exact kk (-1073741807) W κ hx (hV.dn (by omega)) hfr trivial
              · skip
                refine ⟨fun c7 => ?_, fun c7 => ?_⟩
                · exact hK32 () κ ⟨rfl, trivial⟩
                · refine ⟨fun c8 => ?_, fun c8 => ?_⟩
                  · (try dsimp only)
                    exact kk (-1073741807) W κ hx (hV.dn (by omega)) hfr trivial
                  · exact hK32 () κ ⟨rfl, trivial⟩
            · skip
              refine ⟨fun c9 => ?_, fun c9 => ?_⟩
              · refine ⟨bz1, ebz1, (hV.mm hsz1 (by decide) rfl), ?_⟩
                intro z68 ez68
                have vz68 := hV.1.iv hsz1 (by decide) rfl 12 0 4096 rfl ez68
                have wz68 : z68.toInt = (sI κ.1 bz1 12).toInt := by rw [ez68]
                intro z69 ez69
                have hz69 := i_tol ez69
                have rg_z69 := l_range z69
                intro z70 ez70
                try have hz70 := l_sub ez70 (by omega) (by omega)
                have rg_z70 := l_range z70
                intro z72 mz72
                have rg_z72 := l_range z72
                intro z73 ez73
                try have hz73 := l_toi ez73 (by omega) (by omega)
                have rg_z73 := i_range z73
                exact hK22 z73 κ ⟨rfl, (by (try dsimp only); omega)⟩
              · exact hK22 0 κ ⟨rfl, (by (try dsimp only); omega)⟩
          · skip
            refine ⟨fun c10 => ?_, fun c10 => ?_⟩
            · exact hK17 0 κ ⟨rfl, (by (try dsimp only); omega)⟩
            · exact hK17 1 κ ⟨rfl, (by (try dsimp only); omega)⟩
        · exact kk (-1073741740) W κ hx (hV.dn (by omega)) hfr trivial
      · exact kk (-1073741790) W κ hx (hV.dn (by omega)) hfr trivial
    · exact kk (-1073741638) W κ hx (hV.dn (by omega)) hfr trivial
  · exact kk (-1073741811) W κ hx (hV.dn (by omega)) hfr trivial
set_option maxRecDepth 100000 in
set_option maxHeartbeats 4000000 in
theorem t_X11_write {G : GE} {E : CE} {W0 : CW} {c : Int} {κ : CS} (hV : CV G E W0 c κ) (h : Nat) (hs_h : W0.1 h = 1) (a1 : Option Nat) (b_a1 : Nat) (e_a1 : a1 = some b_a1) (hs_a1 : W0.1 b_a1 = 8) (a2 : Option Nat) (b_a2 : Nat) (e_a2 : a2 = some b_a2) (hs_a2 : W0.1 b_a2 = 10)  (hc : 1036 ≤ c) {post : Int32 → CS → Prop} (kk : ∀ (r : Int32) (W' : CW) (κ' : CS), WX W0 W' κ → CV G E W' (c - 1036) κ' → CF [(1, 6), (10, 7), (20, 0), (30, 0), (4, 0), (4, 1), (4, 10), (4, 11), (4, 12), (4, 13), (4, 14), (4, 2), (4, 3), (4, 5), (4, 6), (4, 7), (4, 8), (4, 9), (5, 1), (5, 10), (5, 11), (5, 12), (5, 13), (5, 2), (5, 3), (5, 4), (5, 6), (5, 7), (5, 8), (5, 9), (6, 1), (61, 0), (61, 1), (63, 0), (63, 1)] W0 κ κ' → (True) → post r κ') : F_X11_write G h a1 a2 post κ := by
  have hs0_h := hs_h
  have hs0_a1 := hs_a1
  have hs0_a2 := hs_a2
  suffices H_ : ∀ W : CW, WX W0 W κ → CV G E W (c - 0) κ → (W.1 h = 1) → (W.1 b_a1 = 8) → (W.1 b_a2 = 10) → F_X11_write G h a1 a2 post κ from H_ W0 WX.rf (hV.dn (by omega)) hs_h hs_a1 hs_a2
  intro W hx hV hs_h hs_a1 hs_a2
  unfold F_X11_write
  have hfr : CF [(1, 6), (10, 7), (20, 0), (30, 0), (4, 0), (4, 1), (4, 10), (4, 11), (4, 12), (4, 13), (4, 14), (4, 2), (4, 3), (4, 5), (4, 6), (4, 7), (4, 8), (4, 9), (5, 1), (5, 10), (5, 11), (5, 12), (5, 13), (5, 2), (5, 3), (5, 4), (5, 6), (5, 7), (5, 8), (5, 9), (6, 1), (61, 0), (61, 1), (63, 0), (63, 1)] W0 κ κ := CF.rf
  have k_m1073741790 : ((-1073741790) : Int32).toInt = (-1073741790) := rfl
  have k_m1073741740 : ((-1073741740) : Int32).toInt = (-1073741740) := rfl
  have k_m1073741697 : ((-1073741697) : Int32).toInt = (-1073741697) := rfl
  have k_m1073741638 : ((-1073741638) : Int32).toInt = (-1073741638) := rfl
  have k_0 : (0 : Int32).toInt = 0 := rfl
  have k_1 : (1 : Int32).toInt = 1 := rfl
  have k_2 : (2 : Int32).toInt = 2 := rfl
  have k_4 : (4 : Int32).toInt = 4 := rfl
  have k_6 : (6 : Int32).toInt = 6 := rfl
  have k_8 : (8 : Int32).toInt = 8 := rfl
  have k_17 : (17 : Int32).toInt = 17 := rfl
  have k_64 : (64 : Int32).toInt = 64 := rfl
  have k_66 : (66 : Int32).toInt = 66 := rfl
  have k_68 : (68 : Int32).toInt = 68 := rfl
  have k_72 : (72 : Int32).toInt = 72 := rfl
  have k_81 : (81 : Int32).toInt = 81 := rfl
  have k_4097 : (4097 : Int32).toInt = 4097 := rfl
  have kl_m1073741790 : ((-1073741790) : Int64).toInt = (-1073741790) := rfl
  have kl_m1073741740 : ((-1073741740) : Int64).toInt = (-1073741740) := rfl
  have kl_m1073741697 : ((-1073741697) : Int64).toInt = (-1073741697) := rfl
  have kl_m1073741638 : ((-1073741638) : Int64).toInt = (-1073741638) := rfl
  have kl_0 : (0 : Int64).toInt = 0 := rfl
  have kl_1 : (1 : Int64).toInt = 1 := rfl
  have kl_2 : (2 : Int64).toInt = 2 := rfl
  have kl_4 : (4 : Int64).toInt = 4 := rfl
  have kl_6 : (6 : Int64).toInt = 6 := rfl
  have kl_8 : (8 : Int64).toInt = 8 := rfl
  have kl_17 : (17 : Int64).toInt = 17 := rfl
  have kl_64 : (64 : Int64).toInt = 64 := rfl
  have kl_66 : (66 : Int64).toInt = 66 := rfl
  have kl_68 : (68 : Int64).toInt = 68 := rfl
  have kl_72 : (72 : Int64).toInt = 72 := rfl
  have kl_81 : (81 : Int64).toInt = 81 := rfl
  have kl_4096 : (4096 : Int64).toInt = 4096 := rfl
  have kl_4097 : (4097 : Int64).toInt = 4097 := rfl
  refine ⟨b_a2, e_a2, (hV.mm hs_a2 (by decide) rfl), ?_⟩
  intro z1 ez1
  obtain ⟨bz1, ebz1, hsz1⟩ := hV.1.nn hs_a2 (by decide) rfl 2 rfl (by decide)
  have ebz1 := ez1.trans ebz1
  refine ⟨b_a1, e_a1, (hV.mm hs_a1 (by decide) rfl), ?_⟩
  refine t2_X0_number hV b_a1 hs_a1 66 2  (by decide) (fun z3 pz3 => ?_)
  have rg_z3 := l_range z3
  intro z4 ez4
  try have hz4 := l_toi ez4 (by omega) (by omega)
  have rg_z4 := i_range z4
  refine ⟨b_a1, e_a1, (hV.mm hs_a1 (by decide) rfl), ?_⟩
  refine t2_X0_number hV b_a1 hs_a1 68 4  (by decide) (fun z6 pz6 => ?_)
  have rg_z6 := l_range z6
  intro z7 ez7
  try have hz7 := l_toi ez7 (by omega) (by omega)
  have rg_z7 := i_range z7
  refine ⟨b_a1, e_a1, (hV.mm hs_a1 (by decide) rfl), ?_⟩
  refine t_X0_number hV b_a1 hs_a1 72 8  (fun z9 pz9 => ?_)
  have rg_z9 := l_range z9
  refine ⟨bz1, ebz1, (hV.mm hsz1 (by decide) rfl), ?_⟩
  intro z10 ez10
  have vz10 := hV.1.iv hsz1 (by decide) rfl 2 0 1 rfl ez10
  have wz10 : z10.toInt = (sI κ.1 bz1 2).toInt := by rw [ez10]
  refine ⟨fun c1 => ?_, fun c1 => ?_⟩
  · refine ⟨b_a2, e_a2, (hV.mm hs_a2 (by decide) rfl), ?_⟩
    intro z11 ez11
    have vz11 := hV.1.iv hs_a2 (by decide) rfl 3 (-2147483648) 2147483647 rfl ez11
    have wz11 : z11.toInt = (sI κ.1 b_a2 3).toInt := by rw [ez11]
    intro z12 ez12
    try have hz12 := i_and ez12 (by omega)
    have rg_z12 := i_range z12
    refine jc_dup ?_
    refine ⟨fun c2 => ?_, fun c2 => ?_⟩
    · (try dsimp only)
      exact kk (-1073741790) W κ hx (hV.dn (by omega)) hfr trivial
    · refine jc_in (fun (x : Unit) (κ' : CS) => κ = κ' ∧ ((True))) (fun x18 κ19 hJ => ?_) (fun K20 hK20 => ?_)
      · obtain ⟨hsg, hv⟩ := hJ
        subst hsg
        (try dsimp only at hv)
        intro z23 ez23
        have hz23 := i_tol ez23
        have rg_z23 := l_range z23
        refine ⟨(hV.mm hs_h (by decide) rfl), ?_⟩
        refine t_X11_othersLock hV h hs_h a2 b_a2 e_a2 hs_a2 z9 z23 1  (fun z25 pz25 => ?_)
        have rg_z25 := i_range z25
        refine jc_dup ?_
        refine ⟨fun c3 => ?_, fun c3 => ?_⟩
        · (try dsimp only)
          exact kk (-1073741740) W κ hx (hV.dn (by omega)) hfr trivial
        · intro z31 ez31
          have hz31 := i_tol ez31
          have rg_z31 := l_range z31
          refine ⟨(hV.mm hs_h (by decide) rfl), ?_⟩
          refine t_X11_ownSharedLock hV h hs_h a2 b_a2 e_a2 hs_a2 z9 z31  (fun z33 pz33 => ?_)
          have rg_z33 := i_range z33
          refine ⟨fun c4 => ?_, fun c4 => ?_⟩
          · refine t_X11_below hV z9 4097  (fun z35 pz35 => ?_)
            have rg_z35 := i_range z35
            refine jc_dup ?_
            refine ⟨fun c5 => ?_, fun c5 => ?_⟩
            · (try dsimp only)
              exact kk (-1073741697) W κ hx (hV.dn (by omega)) hfr trivial
            · intro z41 ez41
              have hz41 := i_tol ez41
              have rg_z41 := l_range z41
              intro z42 ez42
              try have hz42 := l_add ez42 (by omega) (by omega)
              have rg_z42 := l_range z42
              refine ⟨fun c6 => ?_, fun c6 => ?_⟩
              · refine jc_in (fun (x : Unit) (κ' : CS) => ∃ W' : CW, WLe W W' ∧ WX W0 W' κ ∧ CV G E W' (c - 1036) κ' ∧ CF [(1, 6), (10, 7), (20, 0), (30, 0), (4, 0), (4, 1), (4, 10), (4, 11), (4, 12), (4, 13), (4, 14), (4, 2), (4, 3), (4, 5), (4, 6), (4, 7), (4, 8), (4, 9), (5, 1), (5, 10), (5, 11), (5, 12), (5, 13), (5, 2), (5, 3), (5, 4), (5, 6), (5, 7), (5, 8), (5, 9), (6, 1), (61, 0), (61, 1), (63, 0), (63, 1)] W0 κ κ' ∧ ((True))) (fun x43 κ44 hJ => ?_) (fun K45 hK45 => ?_)
                · obtain ⟨W, le196, hx, hV, hfr, hv⟩ := hJ
                  have hs_h := WLe.at le196 hs_h (by decide)
                  have hs_a1 := WLe.at le196 hs_a1 (by decide)
                  have hs_a2 := WLe.at le196 hs_a2 (by decide)
                  have hsz1 := WLe.at le196 hsz1 (by decide)
                  (try dsimp only at hv)
                  refine ⟨(hV.mm hs_h (by decide) rfl), ?_⟩
                  intro z48 ez48
                  obtain ⟨bz48, ebz48, hsz48⟩ := hV.1.nn hs_h (by decide) rfl 15 rfl (by decide)
                  have ebz48 := ez48.trans ebz48
                  refine ⟨bz48, ebz48, (hV.mm hsz48 (by decide) rfl), ?_⟩
                  refine t_X6_begin hV bz48 hsz48 81 (by omega) (by omega) (fun W κ49 x1_ hV fκ49 pu7 => ?_)
                  have hV : CV G E W (c - 1036) κ49 := hV.dn (by omega)
                  have hx2 := hx.tr x1_ hfr.sl
                  have hfr := hfr.trW hx fκ49 (by decide)
                  have hs_h := WLe.at (x1_).1 hs_h (by decide)
                  have hs_a1 := WLe.at (x1_).1 hs_a1 (by decide)
                  have hs_a2 := WLe.at (x1_).1 hs_a2 (by decide)
                  have hsz1 := WLe.at (x1_).1 hsz1 (by decide)
                  have hsz48 := WLe.at (x1_).1 hsz48 (by decide)
                  have hx := hx2
                  refine ⟨(hV.mm hs_h (by decide) rfl), ?_⟩
                  intro z51 ez51
                  obtain ⟨bz51, ebz51, hsz51⟩ := hV.1.nn hs_h (by decide) rfl 15 rfl (by decide)
                  have ebz51 := ez51.trans ebz51
                  refine ⟨bz51, ebz51, (hV.mm hsz51 (by decide) rfl), ?_⟩
                  refine t_X6_put hV bz51 hsz51 rfl 64 2 17  (fun κ52 hV fκ52 pu8 => ?_)
                  have hfr := hfr.trW hx fκ52 (by decide)
                  refine ⟨(hV.mm hs_h (by decide) rfl), ?_⟩
                  intro z54 ez54
                  obtain ⟨bz54, ebz54, hsz54⟩ := hV.1.nn hs_h (by decide) rfl 15 rfl (by decide)
                  have ebz54 := ez54.trans ebz54
                  intro z55 ez55
                  have hz55 := i_tol ez55
                  have rg_z55 := l_range z55
                  refine ⟨bz54, ebz54, (hV.mm hsz54 (by decide) rfl), ?_⟩
                  refine t_X6_put hV bz54 hsz54 rfl 68 4 z55  (fun κ56 hV fκ56 pu9 => ?_)
                  have hfr := hfr.trW hx fκ56 (by decide)
                  exact kk 0 W κ56 hx (hV.dn (by omega)) hfr trivial
                · skip
                  have le196 : WLe W W := WLe.rf
                  refine ⟨fun c7 => ?_, fun c7 => ?_⟩
                  · exact hK45 () κ ⟨W, le196, hx, hV.dn (by (try dsimp only); omega), hfr, trivial⟩
                  · refine ⟨(hV.mm hs_h (by decide) rfl), ?_⟩
                    refine t_X11_nextChange hV h hs_h 1 z1 bz1 ebz1 hsz1  (by omega) (fun z59 W κ58 x1_ hV fκ58 pz59 => ?_)
                    have hV : CV G E W (c - 0) κ58 := hV.dn (by omega)
                    have hx2 := hx.tr x1_ hfr.sl
                    have hfr := hfr.trW hx fκ58 (by decide)
                    have hs_h := WLe.at (x1_).1 hs_h (by decide)
                    have hs_a1 := WLe.at (x1_).1 hs_a1 (by decide)
                    have hs_a2 := WLe.at (x1_).1 hs_a2 (by decide)
                    have hsz1 := WLe.at (x1_).1 hsz1 (by decide)
                    have le196 := WLe.tr le196 (x1_).1
                    have hx := hx2
                    obtain ⟨bz59, ebz59, hsz59⟩ := pz59
                    intro z60 ez60
                    try have hz60 := l_toi ez60 (by omega) (by omega)
                    have rg_z60 := i_range z60
                    refine ⟨bz59, ebz59, (hV.mm hsz59 (by decide) rfl), ?_⟩
                    refine t_X1_takeBytes hV bz59 hsz59 a1 b_a1 e_a1 hs_a1 z4 z7 z60 (by omega) (by omega) (fun W κ61 x1_ hV fκ61 pu11 => ?_)
                    have hV : CV G E W (c - 1036) κ61 := hV.dn (by omega)
                    have hx2 := hx.tr x1_ hfr.sl
                    have hfr := hfr.trW hx fκ61 (by decide)
                    have hs_h := WLe.at (x1_).1 hs_h (by decide)
                    have hs_a1 := WLe.at (x1_).1 hs_a1 (by decide)
                    have hs_a2 := WLe.at (x1_).1 hs_a2 (by decide)
                    have hsz1 := WLe.at (x1_).1 hsz1 (by decide)
                    have hsz59 := WLe.at (x1_).1 hsz59 (by decide)
                    have le196 := WLe.tr le196 (x1_).1
                    have hx := hx2
                    refine ⟨(hV.mm hs_h (by decide) rfl), ?_⟩
                    intro z63 ez63
                    have vz63 := l_range z63
                    have wz63 : z63.toInt = (sJ κ61.1 h 7).toInt := by rw [ez63]
                    refine ⟨bz59, ebz59, (hV.mm hsz59 (by decide) rfl), ?_⟩
                    intro κ64 eκ64
                    have hV := hV.uJ eκ64
                    have f1κ64 : CF [(4, 9)] W κ61 κ64 := CF.rf.uJ (k := 9) hsz59 (by decide) (show ((4, 9) : Nat × Nat) ∈ ([(4, 9)] : List (Nat × Nat)) by simp) eκ64
                    have hfr := hfr.trW hx f1κ64 (by decide)
                    refine ⟨(hV.mm hs_h (by decide) rfl), ?_⟩
                    intro z65 ez65
                    have vz65 := l_range z65
                    have wz65 : z65.toInt = (sJ κ64.1 h 7).toInt := by rw [ez65]
                    refine ⟨bz59, ebz59, (hV.mm hsz59 (by decide) rfl), ?_⟩
                    intro κ66 eκ66
                    have hV := hV.uJ eκ66
                    have f1κ66 : CF [(4, 10)] W κ64 κ66 := CF.rf.uJ (k := 10) hsz59 (by decide) (show ((4, 10) : Nat × Nat) ∈ ([(4, 10)] : List (Nat × Nat)) by simp) eκ66
                    have hfr := hfr.trW hx f1κ66 (by decide)
                    refine ⟨(hV.mm hs_h (by decide) rfl), ?_⟩
                    refine t_X11_done hV h hs_h z59 bz59 ebz59 hsz59  (by omega) (fun W κ67 x1_ hV fκ67 pu12 => ?_)
                    have hV : CV G E W (c - 1036) κ67 := hV.dn (by omega)
                    have hx2 := hx.tr x1_ hfr.sl
                    have hfr := hfr.trW hx fκ67 (by decide)
                    have hs_h := WLe.at (x1_).1 hs_h (by decide)
                    have hs_a1 := WLe.at (x1_).1 hs_a1 (by decide)
                    have hs_a2 := WLe.at (x1_).1 hs_a2 (by decide)
                    have hsz1 := WLe.at (x1_).1 hsz1 (by decide)
                    have hsz59 := WLe.at (x1_).1 hsz59 (by decide)
                    have le196 := WLe.tr le196 (x1_).1
                    have hx := hx2
                    refine ⟨(hV.mm hs_h (by decide) rfl), ?_⟩
                    refine t_X11_breakLevelTwo hV h hs_h z1 bz1 ebz1 hsz1 a2 (Or.inr ⟨b_a2, e_a2, hs_a2⟩)  (by omega) (fun W κ69 x1_ hV fκ69 pu13 => ?_)
                    have hV : CV G E W (c - 1036) κ69 := hV.dn (by omega)
                    have hx2 := hx.tr x1_ hfr.sl
                    have hfr := hfr.trW hx fκ69 (by decide)
                    have hs_h := WLe.at (x1_).1 hs_h (by decide)
                    have hs_a1 := WLe.at (x1_).1 hs_a1 (by decide)
                    have hs_a2 := WLe.at (x1_).1 hs_a2 (by decide)
                    have hsz1 := WLe.at (x1_).1 hsz1 (by decide)
                    have hsz59 := WLe.at (x1_).1 hsz59 (by decide)
                    have le196 := WLe.tr le196 (x1_).1
                    have hx := hx2
                    exact hK45 () κ69 ⟨W, le196, hx, hV.dn (by (try dsimp only); omega), hfr, trivial⟩
              · (try dsimp only)
                exact kk (-1073741697) W κ hx (hV.dn (by omega)) hfr trivial
          · (try dsimp only)
            exact kk (-1073741740) W κ hx (hV.dn (by omega)) hfr trivial
      · skip
        refine ⟨fun c8 => ?_, fun c8 => ?_⟩
        · exact hK20 () κ ⟨rfl, trivial⟩
        · refine ⟨bz1, ebz1, (hV.mm hsz1 (by decide) rfl), ?_⟩
          intro z71 ez71
          have vz71 := hV.1.iv hsz1 (by decide) rfl 12 0 4096 rfl ez71
          have wz71 : z71.toInt = (sI κ.1 bz1 12).toInt := by rw [ez71]
          intro z72 ez72
          have hz72 := i_tol ez72
          have rg_z72 := l_range z72
          refine ⟨fun c9 => ?_, fun c9 => ?_⟩
          · exact hK20 () κ ⟨rfl, trivial⟩
          · (try dsimp only)
            exact kk (-1073741790) W κ hx (hV.dn (by omega)) hfr trivial
  · exact kk (-1073741638) W κ hx (hV.dn (by omega)) hfr trivial
set_option maxRecDepth 100000 in
set_option maxHeartbeats 4000000 in
theorem t_X11_unlockEach {G : GE} {E : CE} {W0 : CW} {c : Int} {κ : CS} (hV : CV G E W0 c κ) (h : Nat) (hs_h : W0.1 h = 1) (a1 : Option Nat) (b_a1 : Nat) (e_a1 : a1 = some b_a1) (hs_a1 : W0.1 b_a1 = 8) (a2 : Option Nat) (b_a2 : Nat) (e_a2 : a2 = some b_a2) (hs_a2 : W0.1 b_a2 = 10) (a3 : Int32)  (hc : 0 ≤ c) {post : Int32 → CS → Prop} (kk : ∀ (r : Int32) (W' : CW) (κ' : CS), WX W0 W' κ → CV G E W' (c - 0) κ' → CF [(20, 0), (43, 0), (43, 2), (53, 0), (61, 0), (61, 1)] W0 κ κ' → (True) → post r κ') : F_X11_unlockEach G h a1 a2 a3 post κ := by
  have hs0_h := hs_h
  have hs0_a1 := hs_a1
  have hs0_a2 := hs_a2
  suffices H_ : ∀ W : CW, WX W0 W κ → CV G E W (c - 0) κ → (W.1 h = 1) → (W.1 b_a1 = 8) → (W.1 b_a2 = 10) → F_X11_unlockEach G h a1 a2 a3 post κ from H_ W0 WX.rf (hV.dn (by omega)) hs_h hs_a1 hs_a2
  intro W hx hV hs_h hs_a1 hs_a2
  unfold F_X11_unlockEach
  have hfr : CF [(20, 0), (43, 0), (43, 2), (53, 0), (61, 0), (61, 1)] W0 κ κ := CF.rf
  have k_m1073741698 : ((-1073741698) : Int32).toInt = (-1073741698) := rfl
  have k_m1 : ((-1) : Int32).toInt = (-1) := rfl
  have k_0 : (0 : Int32).toInt = 0 := rfl
  have k_1 : (1 : Int32).toInt = 1 := rfl
  have k_8 : (8 : Int32).toInt = 8 := rfl
  have k_24 : (24 : Int32).toInt = 24 := rfl
  have k_88 : (88 : Int32).toInt = 88 := rfl
  have kl_m1073741698 : ((-1073741698) : Int64).toInt = (-1073741698) := rfl
  have kl_1 : (1 : Int64).toInt = 1 := rfl
  have kl_8 : (8 : Int64).toInt = 8 := rfl
  have kl_24 : (24 : Int64).toInt = 24 := rfl
  have kl_88 : (88 : Int64).toInt = 88 := rfl
  have rg_a3 := i_range a3
  refine lc_in (fun (x : Int32) (κ' : CS) => ∃ W' : CW, WLe W W' ∧ WX W0 W' κ ∧ CV G E W' (c - 0) κ' ∧ CF [(20, 0), (43, 0), (43, 2), (53, 0), (61, 0), (61, 1)] W0 κ κ' ∧ (((0 ≤ x.toInt)))) (fun (x : Int32) (κ' : CS) => (2147483647 - x.toInt).toNat) ⟨W, WLe.rf, hx, hV.dn (by (try dsimp only); omega), hfr, (by (try dsimp only); omega)⟩ (fun x1 κ2 hJ K3 hK3 => ?_)
  obtain ⟨W, le3, hx, hV, hfr, hv⟩ := hJ
  have hs_h := WLe.at le3 hs_h (by decide)
  have hs_a1 := WLe.at le3 hs_a1 (by decide)
  have hs_a2 := WLe.at le3 hs_a2 (by decide)
  (try dsimp only at hv)
  have rg_x1 := i_range x1
  refine ⟨fun c1 => ?_, fun c1 => ?_⟩
  · refine ⟨(hV.mm hs_h (by decide) rfl), ?_⟩
    refine t_X11_plainAnswer hV h hs_h  (by omega) (fun z6 W κ5 x1_ hV fκ5 pz6 => ?_)
    have hV : CV G E W (c - 0) κ5 := hV.dn (by omega)
    have hx2 := hx.tr x1_ hfr.sl
    have hfr := hfr.trW hx fκ5 (by decide)
    have hs_h := WLe.at (x1_).1 hs_h (by decide)
    have hs_a1 := WLe.at (x1_).1 hs_a1 (by decide)
    have hs_a2 := WLe.at (x1_).1 hs_a2 (by decide)
    have le3 := WLe.tr le3 (x1_).1
    have hx := hx2
    have rg_z6 := i_range z6
    exact kk z6 W κ5 hx (hV.dn (by omega)) hfr trivial
  · intro z7 ez7
    try have hz7 := i_mulk 24 rfl ez7 (by omega) (by omega)
    have rg_z7 := i_range z7
    intro z8 ez8
    try have hz8 := i_add ez8 (by omega) (by omega)
    have rg_z8 := i_range z8
    refine ⟨b_a1, e_a1, (hV.mm hs_a1 (by decide) rfl), ?_⟩
    refine t_X0_number hV b_a1 hs_a1 z8 8  (fun z10 pz10 => ?_)
    have rg_z10 := l_range z10
    intro z11 ez11
    try have hz11 := i_add ez11 (by omega) (by omega)
    have rg_z11 := i_range z11
    refine ⟨b_a1, e_a1, (hV.mm hs_a1 (by decide) rfl), ?_⟩
    refine t_X0_number hV b_a1 hs_a1 z11 8  (fun z13 pz13 => ?_)
    have rg_z13 := l_range z13
    refine ⟨(hV.mm hs_h (by decide) rfl), ?_⟩
    refine t_X11_eldestLock hV h hs_h a2 b_a2 e_a2 hs_a2 z10 z13  (fun z15 pz15 => ?_)
    have rg_z15 := i_range z15
    refine ⟨fun c2 => ?_, fun c2 => ?_⟩
    · refine ⟨(hV.mm hs_h (by decide) rfl), ?_⟩
      intro z16 ez16
      obtain ⟨bz16, ebz16, hsz16⟩ := hV.1.nn hs_h (by decide) rfl 11 rfl (by decide)
      have ebz16 := ez16.trans ebz16
      have ix_ := pz15.2 (by omega) bz16 (ez16.symm.trans ebz16)
      refine ⟨bz16, ebz16, (hV.mm hsz16 (by decide) rfl), ?_⟩
      refine t_Jx4a65c_remove_915e3 hV bz16 hsz16 (by decide) z15 (by omega) (fun z18 κ17 hV fκ17 pz18 => ?_)
      have hfr := hfr.trW hx fκ17 (by decide)
      intro z19 ez19
      try have hz19 := i_add ez19 (by omega) (by omega)
      have rg_z19 := i_range z19
      exact hK3 z19 κ17 ⟨W, le3, hx, hV.dn (by (try dsimp only); omega), hfr, (by (try dsimp only); omega)⟩ (by (try dsimp only); omega)
    · exact kk (-1073741698) W κ2 hx (hV.dn (by omega)) hfr trivial
set_option maxRecDepth 100000 in
set_option maxHeartbeats 4000000 in
theorem t_X11_lockAll {G : GE} {E : CE} {W0 : CW} {c : Int} {κ : CS} (hV : CV G E W0 c κ) (h : Nat) (hs_h : W0.1 h = 1) (a1 : Option Nat) (b_a1 : Nat) (e_a1 : a1 = some b_a1) (hs_a1 : W0.1 b_a1 = 8) (a2 : Option Nat) (b_a2 : Nat) (e_a2 : a2 = some b_a2) (hs_a2 : W0.1 b_a2 = 10) (a3 : Int32) (hz : 1 ≤ a3.toInt ∧ a3.toInt ≤ 8) (hc : 1462 ≤ c) {post : Int32 → CS → Prop} (kk : ∀ (r : Int32) (W' : CW) (κ' : CS), WX W0 W' κ → CV G E W' (c - 1462) κ' → CF [(10, 7), (20, 0), (33, 0), (43, 0), (43, 1), (43, 2), (44, 0), (44, 1), (44, 2), (53, 0), (54, 0), (61, 0), (61, 1), (63, 0), (63, 1), (8, 16), (8, 20)] W0 κ κ' → (True) → post r κ') : F_X11_lockAll G h a1 a2 a3 post κ := by
  have hs0_h := hs_h
  have hs0_a1 := hs_a1
  have hs0_a2 := hs_a2
  suffices H_ : ∀ W : CW, WX W0 W κ → CV G E W (c - 0) κ → (W.1 h = 1) → (W.1 b_a1 = 8) → (W.1 b_a2 = 10) → F_X11_lockAll G h a1 a2 a3 post κ from H_ W0 WX.rf (hV.dn (by omega)) hs_h hs_a1 hs_a2
  intro W hx hV hs_h hs_a1 hs_a2
  unfold F_X11_lockAll
  have hfr : CF [(10, 7), (20, 0), (33, 0), (43, 0), (43, 1), (43, 2), (44, 0), (44, 1), (44, 2), (53, 0), (54, 0), (61, 0), (61, 1), (63, 0), (63, 1), (8, 16), (8, 20)] W0 κ κ := CF.rf
  have k_m1073741739 : ((-1073741739) : Int32).toInt = (-1073741739) := rfl
  have k_m1073741670 : ((-1073741670) : Int32).toInt = (-1073741670) := rfl
  have k_0 : (0 : Int32).toInt = 0 := rfl
  have k_1 : (1 : Int32).toInt = 1 := rfl
  have k_4 : (4 : Int32).toInt = 4 := rfl
  have k_8 : (8 : Int32).toInt = 8 := rfl
  have k_16 : (16 : Int32).toInt = 16 := rfl
  have k_24 : (24 : Int32).toInt = 24 := rfl
  have k_60 : (60 : Int32).toInt = 60 := rfl
  have k_88 : (88 : Int32).toInt = 88 := rfl
  have kl_m1073741670 : ((-1073741670) : Int64).toInt = (-1073741670) := rfl
  have kl_0 : (0 : Int64).toInt = 0 := rfl
  have kl_1 : (1 : Int64).toInt = 1 := rfl
  have kl_4 : (4 : Int64).toInt = 4 := rfl
  have kl_8 : (8 : Int64).toInt = 8 := rfl
  have kl_16 : (16 : Int64).toInt = 16 := rfl
  have kl_24 : (24 : Int64).toInt = 24 := rfl
  have kl_88 : (88 : Int64).toInt = 88 := rfl
  have rg_a3 := i_range a3
  refine ⟨(hV.mm hs_h (by decide) rfl), ?_⟩
  intro z1 ez1
  obtain ⟨bz1, ebz1, hsz1⟩ := hV.1.nn hs_h (by decide) rfl 11 rfl (by decide)
  have ebz1 := ez1.trans ebz1
  refine ⟨bz1, ebz1, (hV.mm hsz1 (by decide) rfl), ?_⟩
  refine t_Jx4a65c_size_8abf5 hV bz1 hsz1 (by decide) (fun z3 pz3 => ?_)
  have rg_z3 := i_range z3
  intro z4 ez4
  try have hz4 := i_add ez4 (by omega) (by omega)
  have rg_z4 := i_range z4
  refine ⟨fun c1 => ?_, fun c1 => ?_⟩
  · refine ⟨b_a2, e_a2, (hV.mm hs_a2 (by decide) rfl), ?_⟩
    intro z5 ez5
    obtain ⟨bz5, ebz5, hsz5⟩ := hV.1.nn hs_a2 (by decide) rfl 2 rfl (by decide)
    have ebz5 := ez5.trans ebz5
    refine ⟨(hV.mm hs_h (by decide) rfl), ?_⟩
    refine t_X11_breakLevelTwo hV h hs_h z5 bz5 ebz5 hsz5 (none : Option Nat) (Or.inl rfl)  (by omega) (fun W κ6 x1_ hV fκ6 pu1 => ?_)
    have hV : CV G E W (c - 0) κ6 := hV.dn (by omega)
    have tk1 : (sI κ6.1 bz1 2).toInt = (sI κ.1 bz1 2).toInt := by rw [(fκ6.1 bz1 (by rw [hsz1]; decide) 2 (by rw [hsz1]; decide)).1]
    have hx2 := hx.tr x1_ hfr.sl
    have hfr := hfr.trW hx fκ6 (by decide)
    have hs_h := WLe.at (x1_).1 hs_h (by decide)
    have hs_a1 := WLe.at (x1_).1 hs_a1 (by decide)
    have hs_a2 := WLe.at (x1_).1 hs_a2 (by decide)
    have hsz1 := WLe.at (x1_).1 hsz1 (by decide)
    have hsz5 := WLe.at (x1_).1 hsz5 (by decide)
    have hx := hx2
    refine lc_in (fun (x : Int32) (κ' : CS) => ∃ W' : CW, WLe W W' ∧ WX W0 W' κ ∧ CV G E W' (c - (118 * x.toInt)) κ' ∧ CF [(10, 7), (20, 0), (33, 0), (43, 0), (43, 1), (43, 2), (44, 0), (44, 1), (44, 2), (53, 0), (54, 0), (61, 0), (61, 1), (63, 0), (63, 1), (8, 16), (8, 20)] W0 κ κ' ∧ (((0 ≤ x.toInt) ∧ ((sI κ'.1 bz1 2).toInt = z3.toInt + x.toInt) ∧ (x.toInt ≤ a3.toInt)))) (fun (x : Int32) (κ' : CS) => (2147483647 - x.toInt).toNat) ⟨W, WLe.rf, hx, hV.dn (by (try dsimp only); omega), hfr, (by (try dsimp only); omega)⟩ (fun x8 κ9 hJ K10 hK10 => ?_)
    obtain ⟨W, le34, hx, hV, hfr, hv⟩ := hJ
    have hs_h := WLe.at le34 hs_h (by decide)
    have hs_a1 := WLe.at le34 hs_a1 (by decide)
    have hs_a2 := WLe.at le34 hs_a2 (by decide)
    have hsz1 := WLe.at le34 hsz1 (by decide)
    have hsz5 := WLe.at le34 hsz5 (by decide)
    (try dsimp only at hv)
    have rg_x8 := i_range x8
    refine ⟨fun c2 => ?_, fun c2 => ?_⟩
    · refine ⟨(hV.mm hs_h (by decide) rfl), ?_⟩
      refine t_X11_plainAnswer hV h hs_h  (by omega) (fun z13 W κ12 x1_ hV fκ12 pz13 => ?_)
      have hV : CV G E W (c - ((118 * x8.toInt) + 0)) κ12 := hV.dn (by omega)
      have tk2 : (sI κ12.1 bz1 2).toInt = (sI κ9.1 bz1 2).toInt := by rw [(fκ12.1 bz1 (by rw [hsz1]; decide) 2 (by rw [hsz1]; decide)).1]
      have hx2 := hx.tr x1_ hfr.sl
      have hfr := hfr.trW hx fκ12 (by decide)
      have hs_h := WLe.at (x1_).1 hs_h (by decide)
      have hs_a1 := WLe.at (x1_).1 hs_a1 (by decide)
      have hs_a2 := WLe.at (x1_).1 hs_a2 (by decide)
      have hsz1 := WLe.at (x1_).1 hsz1 (by decide)
      have hsz5 := WLe.at (x1_).1 hsz5 (by decide)
      have le34 := WLe.tr le34 (x1_).1
      have hx := hx2
      have rg_z13 := i_range z13
      exact kk z13 W κ12 hx (hV.dn (by omega)) hfr trivial
    · intro z14 ez14
      try have hz14 := i_mulk 24 rfl ez14 (by omega) (by omega)
      have rg_z14 := i_range z14
      intro z15 ez15
      try have hz15 := i_add ez15 (by omega) (by omega)
      have rg_z15 := i_range z15
      intro z16 ez16
      try have hz16 := i_add ez16 (by omega) (by omega)
      have rg_z16 := i_range z16
      refine ⟨b_a1, e_a1, (hV.mm hs_a1 (by decide) rfl), ?_⟩
      refine t2_X0_number hV b_a1 hs_a1 z16 4  (by decide) (fun z18 pz18 => ?_)
      have rg_z18 := l_range z18
      have hbd_ := hV.bud
      refine ⟨by omega, ?_⟩
      intro o19 hn_o19 κ20 eκ20
      have hpn_o19 : PO G E W κ20 o19 9 [0] := PO.new hV hn_o19 eκ20 rfl (by decide)
      have f1κ20 : CF [] W κ9 κ20 := CF.rf.uN hV.1 hn_o19 eκ20
      have hq0_o19 : o19 ∉ sL κ.1 := fun h => hn_o19 (hfr.sl o19 h)
      have hV := hV.newO hn_o19 (by omega) eκ20
      have hV : CV G E W (c - ((118 * x8.toInt) + 16)) κ20 := hV.dn (by omega)
      have tk3 : (sI κ20.1 bz1 2).toInt = (sI κ9.1 bz1 2).toInt := by rw [(f1κ20.1 bz1 (by rw [hsz1]; decide) 2 (by rw [hsz1]; decide)).1]
      have hfr := hfr.trW hx f1κ20 (by decide)
      have hp_o19 := hpn_o19
      refine ⟨b_a1, e_a1, (hV.mm hs_a1 (by decide) rfl), ?_⟩
      refine t_X0_number hV b_a1 hs_a1 z15 8  (fun z22 pz22 => ?_)
      have rg_z22 := l_range z22
      intro z23 ez23
      try have hz23 := i_add ez23 (by omega) (by omega)
      have rg_z23 := i_range z23
      refine ⟨b_a1, e_a1, (hV.mm hs_a1 (by decide) rfl), ?_⟩
      refine t_X0_number hV b_a1 hs_a1 z23 8  (fun z25 pz25 => ?_)
      have rg_z25 := l_range z25
      intro z26 ez26
      try have hz26 := l_and ez26 (by omega)
      have rg_z26 := l_range z26
      refine jc_in (fun (x : Int32) (κ' : CS) => κ20 = κ' ∧ (((0 ≤ x.toInt ∧ x.toInt ≤ 1)))) (fun x27 κ28 hJ => ?_) (fun K29 hK29 => ?_)
      · obtain ⟨hsg, hv⟩ := hJ
        subst hsg
        (try dsimp only at hv)
        have rg_x27 := i_range x27
        have hq_ := (hp_o19).1
        refine t_X3_init hV o19 hp_o19 a2 b_a2 e_a2 hs_a2 z22 z25 x27 (by omega) (by omega) (fun W κ32 x1_ hV fκ32 hp_o19 pκ32 => ?_)
        have hV : CV G E W (c - (((118 * x8.toInt) + 16) + 0)) κ32 := hV.dn (by omega)
        have tk4 : (sI κ32.1 bz1 2).toInt = (sI κ20.1 bz1 2).toInt := by rw [(fκ32.1 bz1 (by rw [hsz1]; decide) 2 (by rw [hsz1]; decide)).1]
        have hx2 := hx.tr x1_ hfr.sl
        have hfr := hfr.trX hx hq0_o19 hq_ fκ32 (by decide)
        obtain ⟨W, xa_, hV, hs_o19⟩ := hV.addO hp_o19 (by decide)
        have hx := hx2.add hq0_o19 xa_
        have hs_h := WLe.at (x1_.1.tr xa_.1) hs_h (by decide)
        have hs_a1 := WLe.at (x1_.1.tr xa_.1) hs_a1 (by decide)
        have hs_a2 := WLe.at (x1_.1.tr xa_.1) hs_a2 (by decide)
        have hsz1 := WLe.at (x1_.1.tr xa_.1) hsz1 (by decide)
        have hsz5 := WLe.at (x1_.1.tr xa_.1) hsz5 (by decide)
        have le34 := WLe.tr le34 (x1_.1.tr xa_.1)
        refine ⟨(hV.mm hs_h (by decide) rfl), ?_⟩
        refine t_X11_canBe hV h hs_h (some o19) o19 rfl hs_o19  (fun z35 pz35 => ?_)
        have rg_z35 := i_range z35
        refine ⟨fun c3 => ?_, fun c3 => ?_⟩
        · refine ⟨(hV.mm hs_h (by decide) rfl), ?_⟩
          intro z36 ez36
          have ebz36 : z36 = some bz1 := (ez36.trans (hfr.1 h (by rw [hs0_h]; decide) 11 (by rw [hs0_h]; decide)).2.2).trans (ez1.symm.trans ebz1)
          refine ⟨bz1, ebz36, (hV.mm hsz1 (by decide) rfl), ?_⟩
          refine t_Jx4a65c_add_9ea2d hV bz1 hsz1 (by decide) (some o19) o19 rfl hs_o19 (by omega) 102 (by decide) (by omega) (fun z38 W κ37 x1_ hV fκ37 pz38 => ?_)
          have hV : CV G E W (c - ((((118 * x8.toInt) + 16) + 0) + 102)) κ37 := hV.dn (by omega)
          have hx2 := hx.tr x1_ hfr.sl
          have hfr := hfr.trW hx fκ37 (by decide)
          have hs_h := WLe.at (x1_).1 hs_h (by decide)
          have hs_a1 := WLe.at (x1_).1 hs_a1 (by decide)
          have hs_a2 := WLe.at (x1_).1 hs_a2 (by decide)
          have hsz1 := WLe.at (x1_).1 hsz1 (by decide)
          have hsz5 := WLe.at (x1_).1 hsz5 (by decide)
          have hs_o19 := WLe.at (x1_).1 hs_o19 (by decide)
          have le34 := WLe.tr le34 (x1_).1
          have hx := hx2
          intro z39 ez39
          try have hz39 := i_add ez39 (by omega) (by omega)
          have rg_z39 := i_range z39
          exact hK10 z39 κ37 ⟨W, le34, hx, hV.dn (by (try dsimp only); omega), hfr, (by (try dsimp only); omega)⟩ (by (try dsimp only); omega)
        · refine ⟨(hV.mm hs_h (by decide) rfl), ?_⟩
          refine t_X11_undoLocks hV h hs_h z3  (fun κ40 hV fκ40 pu7 => ?_)
          have hfr := hfr.trW hx fκ40 (by decide)
          intro z42 ez42
          try have hz42 := l_and ez42 (by omega)
          have rg_z42 := l_range z42
          refine jc_in (fun (x : Int32) (κ' : CS) => κ40 = κ' ∧ (((0 ≤ x.toInt ∧ x.toInt ≤ 1)))) (fun x43 κ44 hJ => ?_) (fun K45 hK45 => ?_)
          · obtain ⟨hsg, hv⟩ := hJ
            subst hsg
            (try dsimp only at hv)
            have rg_x43 := i_range x43
            refine jc_in (fun (x : Option Nat) (κ' : CS) => κ40 = κ' ∧ ((True) ∧ (x = none ∨ ∃ b, x = some b ∧ W.1 b = 9))) (fun x48 κ49 hJ => ?_) (fun K50 hK50 => ?_)
            · obtain ⟨hsg, hv⟩ := hJ
              subst hsg
              (try dsimp only at hv)
              obtain ⟨hv, nq157_0⟩ := hv
              (try dsimp only at hv)
              refine ⟨b_a1, e_a1, (hV.mm hs_a1 (by decide) rfl), ?_⟩
              intro κ53 eκ53
              have hV := hV.uP (k := 20) (v := x48) hs_a1 rfl (Or.inl (by decide)) (by decide) (by decide) (fun _ => (by rcases nq157_0 with e | ⟨b, e, g⟩; exact Or.inr (Or.inl ⟨rfl, e⟩); exact Or.inr (Or.inr (Or.inr ⟨b, e, g⟩)))) eκ53
              have f1κ53 : CF [(8, 20)] W κ40 κ53 := CF.rf.uP (k := 20) hs_a1 (by decide) (show ((8, 20) : Nat × Nat) ∈ ([(8, 20)] : List (Nat × Nat)) by simp) eκ53
              have tk5 : (sI κ53.1 bz1 2).toInt = (sI κ40.1 bz1 2).toInt := by rw [(f1κ53.1 bz1 (by rw [hsz1]; decide) 2 (by rw [hsz1]; decide)).1]
              have hfr := hfr.trW hx f1κ53 (by decide)
              refine jc_dup ?_
              refine ⟨fun c4 => ?_, fun c4 => ?_⟩
              · (try dsimp only)
                exact kk (-1073741739) W κ53 hx (hV.dn (by omega)) hfr trivial
              · refine ⟨(hV.mm hs_h (by decide) rfl), ?_⟩
                refine t_X11_beginWaiting hV h hs_h a1 b_a1 e_a1 hs_a1  (by omega) (fun z60 W κ59 x1_ hV fκ59 pz60 => ?_)
                have hV : CV G E W (c - ((((118 * x8.toInt) + 16) + 0) + 502)) κ59 := hV.dn (by omega)
                have tk6 : (sI κ59.1 bz1 2).toInt = (sI κ53.1 bz1 2).toInt := by rw [(fκ59.1 bz1 (by rw [hsz1]; decide) 2 (by rw [hsz1]; decide)).1]
                have hx2 := hx.tr x1_ hfr.sl
                have hfr := hfr.trW hx fκ59 (by decide)
                have hs_h := WLe.at (x1_).1 hs_h (by decide)
                have hs_a1 := WLe.at (x1_).1 hs_a1 (by decide)
                have hs_a2 := WLe.at (x1_).1 hs_a2 (by decide)
                have hsz1 := WLe.at (x1_).1 hsz1 (by decide)
                have hsz5 := WLe.at (x1_).1 hsz5 (by decide)
                have hs_o19 := WLe.at (x1_).1 hs_o19 (by decide)
                have nq157_0 := nul_up (x1_).1 nq157_0 (by decide)
                have le34 := WLe.tr le34 (x1_).1
                have hx := hx2
                have rg_z60 := i_range z60
                (try dsimp only)
                exact kk z60 W κ59 hx (hV.dn (by omega)) hfr trivial
            · skip
              refine ⟨fun c5 => ?_, fun c5 => ?_⟩
              · exact hK50 (none : Option Nat) κ40 ⟨rfl, ⟨trivial, (Or.inl rfl)⟩⟩
              · exact hK50 (some o19) κ40 ⟨rfl, ⟨trivial, (Or.inr ⟨o19, rfl, hs_o19⟩)⟩⟩
          · skip
            refine jc_dup ?_
            refine ⟨fun c6 => ?_, fun c6 => ?_⟩
            · (try dsimp only)
              exact hK45 0 κ40 ⟨rfl, (by (try dsimp only); omega)⟩
            · refine ⟨b_a1, e_a1, (hV.mm hs_a1 (by decide) rfl), ?_⟩
              refine t_X0_last hV b_a1 hs_a1  (fun z67 pz67 => ?_)
              have rg_z67 := i_range z67
              refine ⟨fun c7 => ?_, fun c7 => ?_⟩
              · (try dsimp only)
                exact hK45 0 κ40 ⟨rfl, (by (try dsimp only); omega)⟩
              · exact hK45 1 κ40 ⟨rfl, (by (try dsimp only); omega)⟩
      · skip
        refine ⟨fun c8 => ?_, fun c8 => ?_⟩
        · exact hK29 0 κ20 ⟨rfl, (by (try dsimp only); omega)⟩
        · exact hK29 1 κ20 ⟨rfl, (by (try dsimp only); omega)⟩
  · exact kk (-1073741670) W κ hx (hV.dn (by omega)) hfr trivial
set_option maxRecDepth 100000 in
set_option maxHeartbeats 4000000 in
theorem t_X11_lock {G : GE} {E : CE} {W0 : CW} {c : Int} {κ : CS} (hV : CV G E W0 c κ) (h : Nat) (hs_h : W0.1 h = 1) (a1 : Option Nat) (b_a1 : Nat) (e_a1 : a1 = some b_a1) (hs_a1 : W0.1 b_a1 = 8) (a2 : Option Nat) (b_a2 : Nat) (e_a2 : a2 = some b_a2) (hs_a2 : W0.1 b_a2 = 10)  (hc : 1462 ≤ c) {post : Int32 → CS → Prop} (kk : ∀ (r : Int32) (W' : CW) (κ' : CS), WX W0 W' κ → CV G E W' (c - 1462) κ' → CF [(10, 7), (20, 0), (33, 0), (43, 0), (43, 1), (43, 2), (44, 0), (44, 1), (44, 2), (53, 0), (54, 0), (61, 0), (61, 1), (63, 0), (63, 1), (8, 16), (8, 20)] W0 κ κ' → (True) → post r κ') : F_X11_lock G h a1 a2 post κ := by
  have hs0_h := hs_h
  have hs0_a1 := hs_a1
  have hs0_a2 := hs_a2
  suffices H_ : ∀ W : CW, WX W0 W κ → CV G E W (c - 0) κ → (W.1 h = 1) → (W.1 b_a1 = 8) → (W.1 b_a2 = 10) → F_X11_lock G h a1 a2 post κ from H_ W0 WX.rf (hV.dn (by omega)) hs_h hs_a1 hs_a2
  intro W hx hV hs_h hs_a1 hs_a2
  unfold F_X11_lock
  have hfr : CF [(10, 7), (20, 0), (33, 0), (43, 0), (43, 1), (43, 2), (44, 0), (44, 1), (44, 2), (53, 0), (54, 0), (61, 0), (61, 1), (63, 0), (63, 1), (8, 16), (8, 20)] W0 κ κ := CF.rf
  have k_m1073741811 : ((-1073741811) : Int32).toInt = (-1073741811) := rfl
  have k_m1073741790 : ((-1073741790) : Int32).toInt = (-1073741790) := rfl
  have k_m1073741638 : ((-1073741638) : Int32).toInt = (-1073741638) := rfl
  have k_0 : (0 : Int32).toInt = 0 := rfl
  have k_1 : (1 : Int32).toInt = 1 := rfl
  have k_2 : (2 : Int32).toInt = 2 := rfl
  have k_4 : (4 : Int32).toInt = 4 := rfl
  have k_7 : (7 : Int32).toInt = 7 := rfl
  have k_8 : (8 : Int32).toInt = 8 := rfl
  have k_16 : (16 : Int32).toInt = 16 := rfl
  have k_24 : (24 : Int32).toInt = 24 := rfl
  have k_66 : (66 : Int32).toInt = 66 := rfl
  have k_88 : (88 : Int32).toInt = 88 := rfl
  have k_104 : (104 : Int32).toInt = 104 := rfl
  have kl_m1073741811 : ((-1073741811) : Int64).toInt = (-1073741811) := rfl
  have kl_m1073741790 : ((-1073741790) : Int64).toInt = (-1073741790) := rfl
  have kl_m1073741638 : ((-1073741638) : Int64).toInt = (-1073741638) := rfl
  have kl_1 : (1 : Int64).toInt = 1 := rfl
  have kl_2 : (2 : Int64).toInt = 2 := rfl
  have kl_4 : (4 : Int64).toInt = 4 := rfl
  have kl_7 : (7 : Int64).toInt = 7 := rfl
  have kl_8 : (8 : Int64).toInt = 8 := rfl
  have kl_16 : (16 : Int64).toInt = 16 := rfl
  have kl_24 : (24 : Int64).toInt = 24 := rfl
  have kl_66 : (66 : Int64).toInt = 66 := rfl
  have kl_88 : (88 : Int64).toInt = 88 := rfl
  have kl_104 : (104 : Int64).toInt = 104 := rfl
  refine ⟨b_a1, e_a1, (hV.mm hs_a1 (by decide) rfl), ?_⟩
  refine t2_X0_number hV b_a1 hs_a1 66 2  (by decide) (fun z2 pz2 => ?_)
  have rg_z2 := l_range z2
  intro z3 ez3
  try have hz3 := l_toi ez3 (by omega) (by omega)
  have rg_z3 := i_range z3
  refine jc_dup ?_
  refine ⟨fun c1 => ?_, fun c1 => ?_⟩
  · (try dsimp only)
    exact kk (-1073741811) W κ hx (hV.dn (by omega)) hfr trivial
  · refine ⟨fun c2 => ?_, fun c2 => ?_⟩
    · (try dsimp only)
      exact kk (-1073741811) W κ hx (hV.dn (by omega)) hfr trivial
    · intro z9 ez9
      try have hz9 := i_mulk 24 rfl ez9 (by omega) (by omega)
      have rg_z9 := i_range z9
      intro z10 ez10
      try have hz10 := i_add ez10 (by omega) (by omega)
      have rg_z10 := i_range z10
      refine ⟨b_a1, e_a1, (hV.mm hs_a1 (by decide) rfl), ?_⟩
      intro z11 ez11
      have vz11 := hV.1.iv hs_a1 (by decide) rfl 2 (-2147483648) 2147483647 rfl ez11
      have wz11 : z11.toInt = (sI κ.1 b_a1 2).toInt := by rw [ez11]
      refine ⟨fun c3 => ?_, fun c3 => ?_⟩
      · refine ⟨b_a2, e_a2, (hV.mm hs_a2 (by decide) rfl), ?_⟩
        intro z12 ez12
        obtain ⟨bz12, ebz12, hsz12⟩ := hV.1.nn hs_a2 (by decide) rfl 2 rfl (by decide)
        have ebz12 := ez12.trans ebz12
        refine ⟨bz12, ebz12, (hV.mm hsz12 (by decide) rfl), ?_⟩
        intro z13 ez13
        have vz13 := hV.1.iv hsz12 (by decide) rfl 2 0 1 rfl ez13
        have wz13 : z13.toInt = (sI κ.1 bz12 2).toInt := by rw [ez13]
        refine ⟨fun c4 => ?_, fun c4 => ?_⟩
        · refine ⟨b_a2, e_a2, (hV.mm hs_a2 (by decide) rfl), ?_⟩
          intro z14 ez14
          have vz14 := hV.1.iv hs_a2 (by decide) rfl 3 (-2147483648) 2147483647 rfl ez14
          have wz14 : z14.toInt = (sI κ.1 b_a2 3).toInt := by rw [ez14]
          intro z15 ez15
          try have hz15 := i_and ez15 (by omega)
          have rg_z15 := i_range z15
          refine ⟨fun c5 => ?_, fun c5 => ?_⟩
          · refine ⟨b_a1, e_a1, (hV.mm hs_a1 (by decide) rfl), ?_⟩
            refine t2_X0_number hV b_a1 hs_a1 104 4  (by decide) (fun z17 pz17 => ?_)
            have rg_z17 := l_range z17
            refine jc_in (fun (x : Int32) (κ' : CS) => κ = κ' ∧ (((0 ≤ x.toInt ∧ x.toInt ≤ 1)))) (fun x18 κ19 hJ => ?_) (fun K20 hK20 => ?_)
            · obtain ⟨hsg, hv⟩ := hJ
              subst hsg
              (try dsimp only at hv)
              have rg_x18 := i_range x18
              refine lc_in (fun (x : Int32) (κ' : CS) => κ = κ' ∧ (((0 ≤ x.toInt)))) (fun (x : Int32) (κ' : CS) => (2147483647 - x.toInt).toNat) ⟨rfl, (by (try dsimp only); omega)⟩ (fun x23 κ24 hJ K25 hK25 => ?_)
              obtain ⟨hsg, hv⟩ := hJ
              subst hsg
              (try dsimp only at hv)
              have rg_x23 := i_range x23
              refine ⟨fun c6 => ?_, fun c6 => ?_⟩
              · refine jc_dup ?_
                refine ⟨fun c7 => ?_, fun c7 => ?_⟩
                · refine ⟨(hV.mm hs_h (by decide) rfl), ?_⟩
                  refine t_X11_lockAll hV h hs_h a1 b_a1 e_a1 hs_a1 a2 b_a2 e_a2 hs_a2 z3 (by omega) (by omega) (fun z33 W κ32 x1_ hV fκ32 pz33 => ?_)
                  have hV : CV G E W (c - 1462) κ32 := hV.dn (by omega)
                  have hx2 := hx.tr x1_ hfr.sl
                  have hfr := hfr.trW hx fκ32 (by decide)
                  have hs_h := WLe.at (x1_).1 hs_h (by decide)
                  have hs_a1 := WLe.at (x1_).1 hs_a1 (by decide)
                  have hs_a2 := WLe.at (x1_).1 hs_a2 (by decide)
                  have hsz12 := WLe.at (x1_).1 hsz12 (by decide)
                  have hx := hx2
                  have rg_z33 := i_range z33
                  (try dsimp only)
                  exact kk z33 W κ32 hx (hV.dn (by omega)) hfr trivial
                · refine ⟨(hV.mm hs_h (by decide) rfl), ?_⟩
                  refine t_X11_unlockEach hV h hs_h a1 b_a1 e_a1 hs_a1 a2 b_a2 e_a2 hs_a2 z3  (by omega) (fun z35 W κ34 x1_ hV fκ34 pz35 => ?_)
                  have hV : CV G E W (c - 0) κ34 := hV.dn (by omega)
                  have hx2 := hx.tr x1_ hfr.sl
                  have hfr := hfr.trW hx fκ34 (by decide)
                  have hs_h := WLe.at (x1_).1 hs_h (by decide)
                  have hs_a1 := WLe.at (x1_).1 hs_a1 (by decide)
                  have hs_a2 := WLe.at (x1_).1 hs_a2 (by decide)
                  have hsz12 := WLe.at (x1_).1 hsz12 (by decide)
                  have hx := hx2
                  have rg_z35 := i_range z35
                  (try dsimp only)
                  exact kk z35 W κ34 hx (hV.dn (by omega)) hfr trivial
              · intro z36 ez36
                try have hz36 := i_mulk 24 rfl ez36 (by omega) (by omega)
                have rg_z36 := i_range z36
                intro z37 ez37
                try have hz37 := i_add ez37 (by omega) (by omega)
                have rg_z37 := i_range z37
                intro z38 ez38
                try have hz38 := i_add ez38 (by omega) (by omega)
                have rg_z38 := i_range z38
                refine ⟨b_a1, e_a1, (hV.mm hs_a1 (by decide) rfl), ?_⟩
                refine t2_X0_number hV b_a1 hs_a1 z38 4  (by decide) (fun z40 pz40 => ?_)
                have rg_z40 := l_range z40
                refine jc_in (fun (x : Int32) (κ' : CS) => κ = κ' ∧ (((0 ≤ x.toInt ∧ x.toInt ≤ 1)))) (fun x41 κ42 hJ => ?_) (fun K43 hK43 => ?_)
                · obtain ⟨hsg, hv⟩ := hJ
                  subst hsg
                  (try dsimp only at hv)
                  have rg_x41 := i_range x41
                  refine jc_dup ?_
                  refine ⟨fun c8 => ?_, fun c8 => ?_⟩
                  · (try dsimp only)
                    exact kk (-1073741811) W κ hx (hV.dn (by omega)) hfr trivial
                  · refine ⟨b_a1, e_a1, (hV.mm hs_a1 (by decide) rfl), ?_⟩
                    refine t_X0_number hV b_a1 hs_a1 z37 8  (fun z52 pz52 => ?_)
                    have rg_z52 := l_range z52
                    intro z53 ez53
                    try have hz53 := i_add ez53 (by omega) (by omega)
                    have rg_z53 := i_range z53
                    refine ⟨b_a1, e_a1, (hV.mm hs_a1 (by decide) rfl), ?_⟩
                    refine t_X0_number hV b_a1 hs_a1 z53 8  (fun z55 pz55 => ?_)
                    have rg_z55 := l_range z55
                    refine t_X11_isTooFar hV z52 z55  (fun z57 pz57 => ?_)
                    have rg_z57 := i_range z57
                    refine ⟨fun c9 => ?_, fun c9 => ?_⟩
                    · intro z58 ez58
                      try have hz58 := i_add ez58 (by omega) (by omega)
                      have rg_z58 := i_range z58
                      exact hK25 z58 κ ⟨rfl, (by (try dsimp only); omega)⟩ (by (try dsimp only); omega)
                    · (try dsimp only)
                      exact kk (-1073741811) W κ hx (hV.dn (by omega)) hfr trivial
                · skip
                  refine ⟨fun c10 => ?_, fun c10 => ?_⟩
                  · refine t_X11_isLocking hV z40 z3  (fun z60 pz60 => ?_)
                    have rg_z60 := i_range z60
                    exact hK43 z60 κ ⟨rfl, (by (try dsimp only); omega)⟩
                  · refine ⟨fun c11 => ?_, fun c11 => ?_⟩
                    · exact hK43 0 κ ⟨rfl, (by (try dsimp only); omega)⟩
                    · exact hK43 1 κ ⟨rfl, (by (try dsimp only); omega)⟩
            · skip
              refine ⟨fun c12 => ?_, fun c12 => ?_⟩
              · exact hK20 0 κ ⟨rfl, (by (try dsimp only); omega)⟩
              · exact hK20 1 κ ⟨rfl, (by (try dsimp only); omega)⟩
          · exact kk (-1073741790) W κ hx (hV.dn (by omega)) hfr trivial
        · exact kk (-1073741638) W κ hx (hV.dn (by omega)) hfr trivial
      · (try dsimp only)
        exact kk (-1073741811) W κ hx (hV.dn (by omega)) hfr trivial

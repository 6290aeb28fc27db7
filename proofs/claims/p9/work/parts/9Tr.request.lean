/-! the class: a request -/
set_option maxRecDepth 100000 in
set_option maxHeartbeats 4000000 in
theorem t_X11_request {G : GE} {E : CE} {W0 : CW} {c : Int} {κ : CS} (hV : CV G E W0 c κ) (h : Nat) (hs_h : W0.1 h = 1) (a1 : Option Nat) (b_a1 : Nat) (e_a1 : a1 = some b_a1) (hs_a1 : W0.1 b_a1 = 3) (hk0 : ∃ b, sP κ.1 h 14 = some b ∧ W0.1 b = 62 ∧ ((sI κ.1 b 1).toInt ≤ 78000)) (hk1 : ∃ b, sP κ.1 b_a1 2 = some b ∧ W0.1 b = 64 ∧ (True)) (hz : 4 ≤ (sI κ.1 b_a1 8).toInt ∧ (sI κ.1 b_a1 8).toInt ≤ 4004) (hc : 2000 ≤ c) {post : Int32 → CS → Prop} (kk : ∀ (r : Int32) (W' : CW) (κ' : CS), WX W0 W' κ → CV G E W' (c - 1664) κ' → CF [(1, 6), (10, 10), (10, 11), (10, 12), (10, 14), (10, 3), (10, 4), (10, 5), (10, 6), (10, 7), (10, 8), (10, 9), (11, 4), (12, 3), (13, 0), (13, 1), (13, 10), (13, 11), (13, 12), (13, 2), (13, 3), (13, 4), (13, 5), (13, 6), (13, 7), (13, 8), (13, 9), (20, 0), (21, 0), (3, 0), (3, 1), (3, 10), (3, 11), (3, 12), (3, 13), (3, 14), (3, 6), (3, 7), (3, 8), (3, 9), (30, 0), (31, 0), (32, 0), (33, 0), (4, 0), (4, 1), (4, 10), (4, 11), (4, 12), (4, 13), (4, 14), (4, 2), (4, 3), (4, 5), (4, 6), (4, 7), (4, 8), (4, 9), (40, 0), (40, 1), (40, 2), (41, 0), (41, 1), (41, 2), (42, 0), (42, 1), (42, 2), (43, 0), (43, 1), (43, 2), (44, 0), (44, 1), (44, 2), (5, 1), (5, 10), (5, 11), (5, 12), (5, 13), (5, 2), (5, 3), (5, 4), (5, 6), (5, 7), (5, 8), (5, 9), (50, 0), (51, 0), (52, 0), (53, 0), (54, 0), (6, 1), (61, 0), (61, 1), (62, 0), (62, 1), (63, 0), (63, 1), (8, 10), (8, 11), (8, 13), (8, 14), (8, 15), (8, 16), (8, 17), (8, 18), (8, 19), (8, 20)] W0 κ κ' → ((0 ≤ r.toInt ∧ r.toInt ≤ 1) ∧ (∀ b, sP κ.1 h 14 = some b → (sI κ'.1 b 1).toInt ≤ (sI κ.1 b 1).toInt + 1207) ∧ ((r.toInt = 0 ∧ CV G E W' (c - 33) κ') ∨ ∀ b, sP κ.1 b_a1 2 = some b → (sI κ.1 b_a1 8).toInt + 64 ≤ (sI κ.1 b 1).toInt ∧ (r.toInt ≠ 0 → (sI κ.1 b_a1 8).toInt + 64 ≤ (sI κ'.1 b_a1 8).toInt ∧ (sI κ'.1 b_a1 8).toInt + 64 ≤ (sI κ.1 b 1).toInt))) → post r κ') : F_X11_request G h a1 post κ := by
  have hs0_h := hs_h
  have hs0_a1 := hs_a1
  have hk00 := hk0
  have hk10 := hk1
  suffices H_ : ∀ W : CW, WX W0 W κ → CV G E W (c - 0) κ → (W.1 h = 1) → (W.1 b_a1 = 3) → (∃ b, sP κ.1 h 14 = some b ∧ W.1 b = 62 ∧ ((sI κ.1 b 1).toInt ≤ 78000)) → (∃ b, sP κ.1 b_a1 2 = some b ∧ W.1 b = 64 ∧ (True)) → F_X11_request G h a1 post κ from H_ W0 WX.rf (hV.dn (by omega)) hs_h hs_a1 hk0 hk1
  intro W hx hV hs_h hs_a1 hk0 hk1
  unfold F_X11_request
  have hfr : CF [(1, 6), (10, 10), (10, 11), (10, 12), (10, 14), (10, 3), (10, 4), (10, 5), (10, 6), (10, 7), (10, 8), (10, 9), (11, 4), (12, 3), (13, 0), (13, 1), (13, 10), (13, 11), (13, 12), (13, 2), (13, 3), (13, 4), (13, 5), (13, 6), (13, 7), (13, 8), (13, 9), (20, 0), (21, 0), (3, 0), (3, 1), (3, 10), (3, 11), (3, 12), (3, 13), (3, 14), (3, 6), (3, 7), (3, 8), (3, 9), (30, 0), (31, 0), (32, 0), (33, 0), (4, 0), (4, 1), (4, 10), (4, 11), (4, 12), (4, 13), (4, 14), (4, 2), (4, 3), (4, 5), (4, 6), (4, 7), (4, 8), (4, 9), (40, 0), (40, 1), (40, 2), (41, 0), (41, 1), (41, 2), (42, 0), (42, 1), (42, 2), (43, 0), (43, 1), (43, 2), (44, 0), (44, 1), (44, 2), (5, 1), (5, 10), (5, 11), (5, 12), (5, 13), (5, 2), (5, 3), (5, 4), (5, 6), (5, 7), (5, 8), (5, 9), (50, 0), (51, 0), (52, 0), (53, 0), (54, 0), (6, 1), (61, 0), (61, 1), (62, 0), (62, 1), (63, 0), (63, 1), (8, 10), (8, 11), (8, 13), (8, 14), (8, 15), (8, 16), (8, 17), (8, 18), (8, 19), (8, 20)] W0 κ κ := CF.rf
  have k_0 : (0 : Int32).toInt = 0 := rfl
  have k_1 : (1 : Int32).toInt = 1 := rfl
  have k_5 : (5 : Int32).toInt = 5 := rfl
  have kl_0 : (0 : Int64).toInt = 0 := rfl
  obtain ⟨bp0, ep0, wp0, xp0⟩ := hk0
  obtain ⟨bp1, ep1, wp1, xp1⟩ := hk1
  have lt_ : 0 ≤ (sI κ.1 bp1 1).toInt ∧ (sI κ.1 bp1 1).toInt ≤ 4004 := hV.1.iv wp1 (by decide) rfl 1 0 4004 rfl rfl
  have hbd_ := hV.bud
  refine ⟨by omega, ?_⟩
  intro o1 hn_o1 κ2 eκ2
  have hpn_o1 : PO G E W κ2 o1 8 [0] := PO.new hV hn_o1 eκ2 rfl (by decide)
  have f1κ2 : CF [] W κ κ2 := CF.rf.uN hV.1 hn_o1 eκ2
  have hq0_o1 : o1 ∉ sL κ.1 := fun h => hn_o1 (hfr.sl o1 h)
  have hV := hV.newO hn_o1 (by omega) eκ2
  have hV : CV G E W (c - 33) κ2 := hV.dn (by omega)
  have tk1 : (sI κ2.1 b_a1 8).toInt = (sI κ.1 b_a1 8).toInt := by rw [(f1κ2.1 b_a1 (by rw [hs_a1]; decide) 8 (by rw [hs_a1]; decide)).1]
  have tk2 : (sI κ2.1 bp1 1).toInt = (sI κ.1 bp1 1).toInt := by rw [(f1κ2.1 bp1 (by rw [wp1]; decide) 1 (by rw [wp1]; decide)).1]
  have tk3 : (sI κ2.1 bp0 1).toInt = (sI κ.1 bp0 1).toInt := by rw [(f1κ2.1 bp0 (by rw [wp0]; decide) 1 (by rw [wp0]; decide)).1]
  have pk4 := (f1κ2.1 h (by rw [hs_h]; decide) 14 (by rw [hs_h]; decide)).2.2.trans ep0
  have pk5 := (f1κ2.1 b_a1 (by rw [hs_a1]; decide) 2 (by rw [hs_a1]; decide)).2.2.trans ep1
  have hfr := hfr.trW hx f1κ2 (by decide)
  have hp_o1 := hpn_o1
  have e2c := pk5
  have hq_ := (hp_o1).1
  refine t_X0_init hV o1 hp_o1 a1 b_a1 e_a1 hs_a1 ⟨bp1, pk5, wp1, trivial⟩ (by omega) (by omega) (fun W κ3 x1_ hV fκ3 hp_o1 pκ3 => ?_)
  have hV : CV G E W (c - 33) κ3 := hV.dn (by omega)
  have pk6 := (fκ3.1 h (by rw [hs_h]; decide) 14 (by rw [hs_h]; decide)).2.2.trans pk4
  have pk7 := (fκ3.1 b_a1 (by rw [hs_a1]; decide) 2 (by rw [hs_a1]; decide)).2.2.trans pk5
  have tk8 : (sI κ3.1 b_a1 8).toInt = (sI κ2.1 b_a1 8).toInt := by rw [(fκ3.1 b_a1 (by rw [hs_a1]; decide) 8 (by rw [hs_a1]; decide)).1]
  have tk9 : (sI κ3.1 bp1 1).toInt = (sI κ2.1 bp1 1).toInt := by rw [(fκ3.1 bp1 (by rw [wp1]; decide) 1 (by rw [wp1]; decide)).1]
  have tk10 : (sI κ3.1 bp0 1).toInt = (sI κ2.1 bp0 1).toInt := by rw [(fκ3.1 bp0 (by rw [wp0]; decide) 1 (by rw [wp0]; decide)).1]
  have hx2 := hx.tr x1_ hfr.sl
  have hfr := hfr.trX hx hq0_o1 hq_ fκ3 (by decide)
  obtain ⟨W, xa_, hV, hs_o1⟩ := hV.addO hp_o1 (by decide)
  have hx := hx2.add hq0_o1 xa_
  have hs_h := WLe.at (x1_.1.tr xa_.1) hs_h (by decide)
  have hs_a1 := WLe.at (x1_.1.tr xa_.1) hs_a1 (by decide)
  have wp0 := WLe.at (x1_.1.tr xa_.1) wp0 (by decide)
  have wp1 := WLe.at (x1_.1.tr xa_.1) wp1 (by decide)
  obtain ⟨ix0, ix1, ix2, ix3, ix4⟩ := pκ3
  have g4 := ix4 bp1 e2c
  have e3c := pk7
  refine ⟨(hV.mm hs_o1 (by decide) rfl), ?_⟩
  refine t2_X0_stands hV o1 hs_o1 (by omega) (fun z6 pz6 => ?_)
  have rg_z6 := i_range z6
  refine jc_dup ?_
  refine ⟨fun c1 => ?_, fun c1 => ?_⟩
  · (try dsimp only)
    refine ⟨(hV.mm hs_h (by decide) rfl), ?_⟩
    refine t_X11_shutOff hV h hs_h a1 b_a1 e_a1 hs_a1  (fun κ12 hV fκ12 pu2 => ?_)
    have tk11 : (sI κ12.1 b_a1 8).toInt = (sI κ3.1 b_a1 8).toInt := by rw [(fκ12.1 b_a1 (by rw [hs_a1]; decide) 8 (by rw [hs_a1]; decide)).1]
    have tk12 : (sI κ12.1 bp1 1).toInt = (sI κ3.1 bp1 1).toInt := by rw [(fκ12.1 bp1 (by rw [wp1]; decide) 1 (by rw [wp1]; decide)).1]
    have tk13 : (sI κ12.1 o1 1).toInt = (sI κ3.1 o1 1).toInt := by rw [(fκ12.1 o1 (by rw [hs_o1]; decide) 1 (by rw [hs_o1]; decide)).1]
    have tk14 : (sI κ12.1 o1 2).toInt = (sI κ3.1 o1 2).toInt := by rw [(fκ12.1 o1 (by rw [hs_o1]; decide) 2 (by rw [hs_o1]; decide)).1]
    have tk15 : (sI κ12.1 o1 5).toInt = (sI κ3.1 o1 5).toInt := by rw [(fκ12.1 o1 (by rw [hs_o1]; decide) 5 (by rw [hs_o1]; decide)).1]
    have tk16 : (sI κ12.1 bp0 1).toInt = (sI κ3.1 bp0 1).toInt := by rw [(fκ12.1 bp0 (by rw [wp0]; decide) 1 (by rw [wp0]; decide)).1]
    have tj17 : (sJ κ12.1 o1 3).toInt = (sJ κ3.1 o1 3).toInt := by rw [(fκ12.1 o1 (by rw [hs_o1]; decide) 3 (by rw [hs_o1]; decide)).2.1]
    have pk18 := (fκ12.1 h (by rw [hs_h]; decide) 14 (by rw [hs_h]; decide)).2.2.trans pk6
    have pk19 := (fκ12.1 b_a1 (by rw [hs_a1]; decide) 2 (by rw [hs_a1]; decide)).2.2.trans pk7
    have hfr := hfr.trW hx fκ12 (by decide)
    refine ⟨(hV.mm hs_h (by decide) rfl), ?_⟩
    refine t_X11_settle hV h hs_h  (by omega) (fun W κ14 x1_ hV fκ14 pu3 => ?_)
    have hV : CV G E W (c - 33) κ14 := hV.dn (by omega)
    have tk20 : (sI κ14.1 b_a1 8).toInt = (sI κ12.1 b_a1 8).toInt := by rw [(fκ14.1 b_a1 (by rw [hs_a1]; decide) 8 (by rw [hs_a1]; decide)).1]
    have tk21 : (sI κ14.1 bp1 1).toInt = (sI κ12.1 bp1 1).toInt := by rw [(fκ14.1 bp1 (by rw [wp1]; decide) 1 (by rw [wp1]; decide)).1]
    have tk22 : (sI κ14.1 o1 1).toInt = (sI κ12.1 o1 1).toInt := by rw [(fκ14.1 o1 (by rw [hs_o1]; decide) 1 (by rw [hs_o1]; decide)).1]
    have tk23 : (sI κ14.1 o1 2).toInt = (sI κ12.1 o1 2).toInt := by rw [(fκ14.1 o1 (by rw [hs_o1]; decide) 2 (by rw [hs_o1]; decide)).1]
    have tk24 : (sI κ14.1 o1 5).toInt = (sI κ12.1 o1 5).toInt := by rw [(fκ14.1 o1 (by rw [hs_o1]; decide) 5 (by rw [hs_o1]; decide)).1]
    have tk25 : (sI κ14.1 bp0 1).toInt = (sI κ12.1 bp0 1).toInt := by rw [(fκ14.1 bp0 (by rw [wp0]; decide) 1 (by rw [wp0]; decide)).1]
    have tj26 : (sJ κ14.1 o1 3).toInt = (sJ κ12.1 o1 3).toInt := by rw [(fκ14.1 o1 (by rw [hs_o1]; decide) 3 (by rw [hs_o1]; decide)).2.1]
    have pk27 := (fκ14.1 h (by rw [hs_h]; decide) 14 (by rw [hs_h]; decide)).2.2.trans pk18
    have pk28 := (fκ14.1 b_a1 (by rw [hs_a1]; decide) 2 (by rw [hs_a1]; decide)).2.2.trans pk19
    have hx2 := hx.tr x1_ hfr.sl
    have hfr := hfr.trW hx fκ14 (by decide)
    have hs_h := WLe.at (x1_).1 hs_h (by decide)
    have hs_a1 := WLe.at (x1_).1 hs_a1 (by decide)
    have wp0 := WLe.at (x1_).1 wp0 (by decide)
    have wp1 := WLe.at (x1_).1 wp1 (by decide)
    have hs_o1 := WLe.at (x1_).1 hs_o1 (by decide)
    have hx := hx2
    refine ⟨by omega, ?_⟩
    exact kk 0 W κ14 hx (hV.dn (by omega)) hfr ⟨by omega, fun b e => by rw [show b = bp0 from Option.some.inj (e.symm.trans ep0)]; omega, Or.inl ⟨by omega, hV.dn (by omega)⟩⟩
  · have g3 := pz6.2 (by omega) b_a1 bp1 (ix0.trans e_a1) e3c
    have g6 : 64 ≤ (sI κ3.1 o1 2).toInt ∧ (sI κ3.1 o1 2).toInt ≤ 4004 ∧ (sI κ.1 b_a1 8).toInt + 64 ≤ (sI κ.1 bp1 1).toInt ∧ ((sJ κ3.1 o1 3).toInt = 0 ∨ (sI κ.1 b_a1 8).toInt + (sI κ3.1 o1 2).toInt + 64 ≤ (sI κ.1 bp1 1).toInt) := by omega
    clear g3 g4 pz6
    refine ⟨(hV.mm hs_o1 (by decide) rfl), ?_⟩
    intro z16 ez16
    have vz16 := hV.1.iv hs_o1 (by decide) rfl 5 (-2147483648) 2147483647 rfl ez16
    have wz16 : z16.toInt = (sI κ3.1 o1 5).toInt := by rw [ez16]
    refine ⟨(hV.mm hs_o1 (by decide) rfl), ?_⟩
    intro z17 ez17
    have vz17 := l_range z17
    have wz17 : z17.toInt = (sJ κ3.1 o1 8).toInt := by rw [ez17]
    refine ⟨b_a1, e_a1, (hV.mm hs_a1 (by decide) rfl), ?_⟩
    refine t_X2_admits hV b_a1 hs_a1 z16 z17  (fun z19 κ18 hV fκ18 pz19 => ?_)
    have tk29 : (sI κ18.1 b_a1 8).toInt = (sI κ3.1 b_a1 8).toInt := by rw [(fκ18.1 b_a1 (by rw [hs_a1]; decide) 8 (by rw [hs_a1]; decide)).1]
    have tk30 : (sI κ18.1 bp1 1).toInt = (sI κ3.1 bp1 1).toInt := by rw [(fκ18.1 bp1 (by rw [wp1]; decide) 1 (by rw [wp1]; decide)).1]
    have tk31 : (sI κ18.1 o1 1).toInt = (sI κ3.1 o1 1).toInt := by rw [(fκ18.1 o1 (by rw [hs_o1]; decide) 1 (by rw [hs_o1]; decide)).1]
    have tk32 : (sI κ18.1 o1 2).toInt = (sI κ3.1 o1 2).toInt := by rw [(fκ18.1 o1 (by rw [hs_o1]; decide) 2 (by rw [hs_o1]; decide)).1]
    have tk33 : (sI κ18.1 o1 5).toInt = (sI κ3.1 o1 5).toInt := by rw [(fκ18.1 o1 (by rw [hs_o1]; decide) 5 (by rw [hs_o1]; decide)).1]
    have tk34 : (sI κ18.1 bp0 1).toInt = (sI κ3.1 bp0 1).toInt := by rw [(fκ18.1 bp0 (by rw [wp0]; decide) 1 (by rw [wp0]; decide)).1]
    have tj35 : (sJ κ18.1 o1 3).toInt = (sJ κ3.1 o1 3).toInt := by rw [(fκ18.1 o1 (by rw [hs_o1]; decide) 3 (by rw [hs_o1]; decide)).2.1]
    have pk36 := (fκ18.1 h (by rw [hs_h]; decide) 14 (by rw [hs_h]; decide)).2.2.trans pk6
    have pk37 := (fκ18.1 b_a1 (by rw [hs_a1]; decide) 2 (by rw [hs_a1]; decide)).2.2.trans pk7
    have hfr := hfr.trW hx fκ18 (by decide)
    have rg_z19 := i_range z19
    refine ⟨fun c2 => ?_, fun c2 => ?_⟩
    · refine ⟨by omega, b_a1, e_a1, (hV.mm hs_a1 (by decide) rfl), ?_⟩
      intro κ20 eκ20
      have rv_κ20 := i_range 0
      have hV := hV.uI (k := 12) (v := 0) hs_a1 (Or.inl rfl) (Or.inl (by decide)) (Or.inl (by decide)) (fun _ => (by omega : (0 : Int) ≤ (0 : Int32).toInt ∧ (0 : Int32).toInt ≤ 1)) eκ20
      have uκ20 : (sI κ20.1 b_a1 12).toInt = (0 : Int32).toInt := by rw [eκ20]; exact congrArg Int32.toInt u2_same
      have f1κ20 : CF [(3, 12)] W κ18 κ20 := CF.rf.uI (k := 12) hs_a1 (by decide) (show ((3, 12) : Nat × Nat) ∈ ([(3, 12)] : List (Nat × Nat)) by simp) eκ20
      have tk38 : (sI κ20.1 b_a1 8).toInt = (sI κ18.1 b_a1 8).toInt := by rw [(f1κ20.1 b_a1 (by rw [hs_a1]; decide) 8 (by rw [hs_a1]; decide)).1]
      have tk39 : (sI κ20.1 bp1 1).toInt = (sI κ18.1 bp1 1).toInt := by rw [(f1κ20.1 bp1 (by rw [wp1]; decide) 1 (by rw [wp1]; decide)).1]
      have tk40 : (sI κ20.1 o1 1).toInt = (sI κ18.1 o1 1).toInt := by rw [(f1κ20.1 o1 (by rw [hs_o1]; decide) 1 (by rw [hs_o1]; decide)).1]
      have tk41 : (sI κ20.1 o1 2).toInt = (sI κ18.1 o1 2).toInt := by rw [(f1κ20.1 o1 (by rw [hs_o1]; decide) 2 (by rw [hs_o1]; decide)).1]
      have tk42 : (sI κ20.1 o1 5).toInt = (sI κ18.1 o1 5).toInt := by rw [(f1κ20.1 o1 (by rw [hs_o1]; decide) 5 (by rw [hs_o1]; decide)).1]
      have tk43 : (sI κ20.1 bp0 1).toInt = (sI κ18.1 bp0 1).toInt := by rw [(f1κ20.1 bp0 (by rw [wp0]; decide) 1 (by rw [wp0]; decide)).1]
      have tj44 : (sJ κ20.1 o1 3).toInt = (sJ κ18.1 o1 3).toInt := by rw [(f1κ20.1 o1 (by rw [hs_o1]; decide) 3 (by rw [hs_o1]; decide)).2.1]
      have pk45 := (f1κ20.1 h (by rw [hs_h]; decide) 14 (by rw [hs_h]; decide)).2.2.trans pk36
      have pk46 := (f1κ20.1 b_a1 (by rw [hs_a1]; decide) 2 (by rw [hs_a1]; decide)).2.2.trans pk37
      have hfr := hfr.trW hx f1κ20 (by decide)
      refine ⟨(hV.mm hs_h (by decide) rfl), ?_⟩
      refine t_X11_look hV h hs_h (some o1) o1 rfl hs_o1  (fun z22 κ21 hV fκ21 pz22 => ?_)
      have tk47 : (sI κ21.1 b_a1 8).toInt = (sI κ20.1 b_a1 8).toInt := by rw [(fκ21.1 b_a1 (by rw [hs_a1]; decide) 8 (by rw [hs_a1]; decide)).1]
      have tk48 : (sI κ21.1 bp1 1).toInt = (sI κ20.1 bp1 1).toInt := by rw [(fκ21.1 bp1 (by rw [wp1]; decide) 1 (by rw [wp1]; decide)).1]
      have tk49 : (sI κ21.1 o1 1).toInt = (sI κ20.1 o1 1).toInt := by rw [(fκ21.1 o1 (by rw [hs_o1]; decide) 1 (by rw [hs_o1]; decide)).1]
      have tk50 : (sI κ21.1 o1 2).toInt = (sI κ20.1 o1 2).toInt := by rw [(fκ21.1 o1 (by rw [hs_o1]; decide) 2 (by rw [hs_o1]; decide)).1]
      have tk51 : (sI κ21.1 o1 5).toInt = (sI κ20.1 o1 5).toInt := by rw [(fκ21.1 o1 (by rw [hs_o1]; decide) 5 (by rw [hs_o1]; decide)).1]
      have tk52 : (sI κ21.1 bp0 1).toInt = (sI κ20.1 bp0 1).toInt := by rw [(fκ21.1 bp0 (by rw [wp0]; decide) 1 (by rw [wp0]; decide)).1]
      have tj53 : (sJ κ21.1 o1 3).toInt = (sJ κ20.1 o1 3).toInt := by rw [(fκ21.1 o1 (by rw [hs_o1]; decide) 3 (by rw [hs_o1]; decide)).2.1]
      have pk54 := (fκ21.1 h (by rw [hs_h]; decide) 14 (by rw [hs_h]; decide)).2.2.trans pk45
      have pk55 := (fκ21.1 b_a1 (by rw [hs_a1]; decide) 2 (by rw [hs_a1]; decide)).2.2.trans pk46
      have hfr := hfr.trW hx fκ21 (by decide)
      have rg_z22 := i_range z22
      refine jc_in (fun (x : Int32) (κ' : CS) => ∃ W' : CW, WLe W W' ∧ WX W0 W' κ ∧ CV G E W' (c - 202) κ' ∧ CF [(1, 6), (10, 10), (10, 11), (10, 12), (10, 14), (10, 3), (10, 4), (10, 5), (10, 6), (10, 7), (10, 8), (10, 9), (11, 4), (12, 3), (13, 0), (13, 1), (13, 10), (13, 11), (13, 12), (13, 2), (13, 3), (13, 4), (13, 5), (13, 6), (13, 7), (13, 8), (13, 9), (20, 0), (21, 0), (3, 0), (3, 1), (3, 10), (3, 11), (3, 12), (3, 13), (3, 14), (3, 6), (3, 7), (3, 8), (3, 9), (30, 0), (31, 0), (32, 0), (33, 0), (4, 0), (4, 1), (4, 10), (4, 11), (4, 12), (4, 13), (4, 14), (4, 2), (4, 3), (4, 5), (4, 6), (4, 7), (4, 8), (4, 9), (40, 0), (40, 1), (40, 2), (41, 0), (41, 1), (41, 2), (42, 0), (42, 1), (42, 2), (43, 0), (43, 1), (43, 2), (44, 0), (44, 1), (44, 2), (5, 1), (5, 10), (5, 11), (5, 12), (5, 13), (5, 2), (5, 3), (5, 4), (5, 6), (5, 7), (5, 8), (5, 9), (50, 0), (51, 0), (52, 0), (53, 0), (54, 0), (6, 1), (61, 0), (61, 1), (62, 0), (62, 1), (63, 0), (63, 1), (8, 10), (8, 11), (8, 13), (8, 14), (8, 15), (8, 16), (8, 17), (8, 18), (8, 19), (8, 20)] W0 κ κ' ∧ ((((sI κ'.1 b_a1 8).toInt = (sI κ.1 b_a1 8).toInt) ∧ ((sI κ'.1 bp0 1).toInt = (sI κ.1 bp0 1).toInt) ∧ ((sI κ'.1 o1 2).toInt = (sI κ3.1 o1 2).toInt) ∧ ((sJ κ'.1 o1 3).toInt = (sJ κ3.1 o1 3).toInt))) ∧ (x.toInt = 0 → HB W' κ' o1) ∧ sP κ'.1 h 14 = some bp0 ∧ sP κ'.1 b_a1 2 = some bp1) (fun x23 κ24 hJ => ?_) (fun K25 hK25 => ?_)
      · obtain ⟨W, le63, hx, hV, hfr, hv⟩ := hJ
        have hs_h := WLe.at le63 hs_h (by decide)
        have hs_a1 := WLe.at le63 hs_a1 (by decide)
        have wp0 := WLe.at le63 wp0 (by decide)
        have wp1 := WLe.at le63 wp1 (by decide)
        have hs_o1 := WLe.at le63 hs_o1 (by decide)
        (try dsimp only at hv)
        obtain ⟨hv, hb63, ek63_0, ek63_1⟩ := hv
        (try dsimp only at hv)
        have rg_x23 := i_range x23
        refine ⟨(hV.mm hs_h (by decide) rfl), ?_⟩
        refine t_X11_settle hV h hs_h  (by omega) (fun W κ28 x1_ hV fκ28 pu6 => ?_)
        have hV : CV G E W (c - 202) κ28 := hV.dn (by omega)
        have tk56 : (sI κ28.1 b_a1 8).toInt = (sI κ24.1 b_a1 8).toInt := by rw [(fκ28.1 b_a1 (by rw [hs_a1]; decide) 8 (by rw [hs_a1]; decide)).1]
        have tk57 : (sI κ28.1 bp1 1).toInt = (sI κ24.1 bp1 1).toInt := by rw [(fκ28.1 bp1 (by rw [wp1]; decide) 1 (by rw [wp1]; decide)).1]
        have tk58 : (sI κ28.1 o1 1).toInt = (sI κ24.1 o1 1).toInt := by rw [(fκ28.1 o1 (by rw [hs_o1]; decide) 1 (by rw [hs_o1]; decide)).1]
        have tk59 : (sI κ28.1 o1 2).toInt = (sI κ24.1 o1 2).toInt := by rw [(fκ28.1 o1 (by rw [hs_o1]; decide) 2 (by rw [hs_o1]; decide)).1]
        have tk60 : (sI κ28.1 o1 5).toInt = (sI κ24.1 o1 5).toInt := by rw [(fκ28.1 o1 (by rw [hs_o1]; decide) 5 (by rw [hs_o1]; decide)).1]
        have tk61 : (sI κ28.1 bp0 1).toInt = (sI κ24.1 bp0 1).toInt := by rw [(fκ28.1 bp0 (by rw [wp0]; decide) 1 (by rw [wp0]; decide)).1]
        have tj62 : (sJ κ28.1 o1 3).toInt = (sJ κ24.1 o1 3).toInt := by rw [(fκ28.1 o1 (by rw [hs_o1]; decide) 3 (by rw [hs_o1]; decide)).2.1]
        have pk63 := (fκ28.1 h (by rw [hs_h]; decide) 14 (by rw [hs_h]; decide)).2.2.trans ek63_0
        have pk64 := (fκ28.1 b_a1 (by rw [hs_a1]; decide) 2 (by rw [hs_a1]; decide)).2.2.trans ek63_1
        have hb63 := (fun q => HB.fr fκ28 (x1_).1 hs_o1 (by decide) (by decide) (hb63 q))
        have hx2 := hx.tr x1_ hfr.sl
        have hfr := hfr.trW hx fκ28 (by decide)
        have hs_h := WLe.at (x1_).1 hs_h (by decide)
        have hs_a1 := WLe.at (x1_).1 hs_a1 (by decide)
        have wp0 := WLe.at (x1_).1 wp0 (by decide)
        have wp1 := WLe.at (x1_).1 wp1 (by decide)
        have hs_o1 := WLe.at (x1_).1 hs_o1 (by decide)
        have hx := hx2
        refine jc_in (fun (x : Int32) (κ' : CS) => ∃ W' : CW, WLe W W' ∧ WX W0 W' κ ∧ CV G E W' (c - 1664) κ' ∧ CF [(1, 6), (10, 10), (10, 11), (10, 12), (10, 14), (10, 3), (10, 4), (10, 5), (10, 6), (10, 7), (10, 8), (10, 9), (11, 4), (12, 3), (13, 0), (13, 1), (13, 10), (13, 11), (13, 12), (13, 2), (13, 3), (13, 4), (13, 5), (13, 6), (13, 7), (13, 8), (13, 9), (20, 0), (21, 0), (3, 0), (3, 1), (3, 10), (3, 11), (3, 12), (3, 13), (3, 14), (3, 6), (3, 7), (3, 8), (3, 9), (30, 0), (31, 0), (32, 0), (33, 0), (4, 0), (4, 1), (4, 10), (4, 11), (4, 12), (4, 13), (4, 14), (4, 2), (4, 3), (4, 5), (4, 6), (4, 7), (4, 8), (4, 9), (40, 0), (40, 1), (40, 2), (41, 0), (41, 1), (41, 2), (42, 0), (42, 1), (42, 2), (43, 0), (43, 1), (43, 2), (44, 0), (44, 1), (44, 2), (5, 1), (5, 10), (5, 11), (5, 12), (5, 13), (5, 2), (5, 3), (5, 4), (5, 6), (5, 7), (5, 8), (5, 9), (50, 0), (51, 0), (52, 0), (53, 0), (54, 0), (6, 1), (61, 0), (61, 1), (62, 0), (62, 1), (63, 0), (63, 1), (8, 10), (8, 11), (8, 13), (8, 14), (8, 15), (8, 16), (8, 17), (8, 18), (8, 19), (8, 20)] W0 κ κ' ∧ ((((sI κ'.1 b_a1 8).toInt = (sI κ.1 b_a1 8).toInt) ∧ ((sI κ'.1 bp0 1).toInt = (sI κ.1 bp0 1).toInt) ∧ ((sI κ'.1 o1 2).toInt = (sI κ3.1 o1 2).toInt) ∧ ((sJ κ'.1 o1 3).toInt = (sJ κ3.1 o1 3).toInt))) ∧ sP κ'.1 h 14 = some bp0 ∧ sP κ'.1 b_a1 2 = some bp1) (fun x30 κ31 hJ => ?_) (fun K32 hK32 => ?_)
        · obtain ⟨W, le117, hx, hV, hfr, hv⟩ := hJ
          have hs_h := WLe.at le117 hs_h (by decide)
          have hs_a1 := WLe.at le117 hs_a1 (by decide)
          have wp0 := WLe.at le117 wp0 (by decide)
          have wp1 := WLe.at le117 wp1 (by decide)
          have hs_o1 := WLe.at le117 hs_o1 (by decide)
          (try dsimp only at hv)
          obtain ⟨hv, ek117_0, ek117_1⟩ := hv
          (try dsimp only at hv)
          have rg_x30 := i_range x30
          refine ⟨(hV.mm hs_h (by decide) rfl), ?_⟩
          refine t_X11_settle hV h hs_h  (by omega) (fun W κ35 x1_ hV fκ35 pu7 => ?_)
          have hV : CV G E W (c - 1664) κ35 := hV.dn (by omega)
          have tk65 : (sI κ35.1 b_a1 8).toInt = (sI κ31.1 b_a1 8).toInt := by rw [(fκ35.1 b_a1 (by rw [hs_a1]; decide) 8 (by rw [hs_a1]; decide)).1]
          have tk66 : (sI κ35.1 bp1 1).toInt = (sI κ31.1 bp1 1).toInt := by rw [(fκ35.1 bp1 (by rw [wp1]; decide) 1 (by rw [wp1]; decide)).1]
          have tk67 : (sI κ35.1 o1 1).toInt = (sI κ31.1 o1 1).toInt := by rw [(fκ35.1 o1 (by rw [hs_o1]; decide) 1 (by rw [hs_o1]; decide)).1]
          have tk68 : (sI κ35.1 o1 2).toInt = (sI κ31.1 o1 2).toInt := by rw [(fκ35.1 o1 (by rw [hs_o1]; decide) 2 (by rw [hs_o1]; decide)).1]
          have tk69 : (sI κ35.1 o1 5).toInt = (sI κ31.1 o1 5).toInt := by rw [(fκ35.1 o1 (by rw [hs_o1]; decide) 5 (by rw [hs_o1]; decide)).1]
          have tk70 : (sI κ35.1 bp0 1).toInt = (sI κ31.1 bp0 1).toInt := by rw [(fκ35.1 bp0 (by rw [wp0]; decide) 1 (by rw [wp0]; decide)).1]
          have tj71 : (sJ κ35.1 o1 3).toInt = (sJ κ31.1 o1 3).toInt := by rw [(fκ35.1 o1 (by rw [hs_o1]; decide) 3 (by rw [hs_o1]; decide)).2.1]
          have pk72 := (fκ35.1 h (by rw [hs_h]; decide) 14 (by rw [hs_h]; decide)).2.2.trans ek117_0
          have pk73 := (fκ35.1 b_a1 (by rw [hs_a1]; decide) 2 (by rw [hs_a1]; decide)).2.2.trans ek117_1
          have hx2 := hx.tr x1_ hfr.sl
          have hfr := hfr.trW hx fκ35 (by decide)
          have hs_h := WLe.at (x1_).1 hs_h (by decide)
          have hs_a1 := WLe.at (x1_).1 hs_a1 (by decide)
          have wp0 := WLe.at (x1_).1 wp0 (by decide)
          have wp1 := WLe.at (x1_).1 wp1 (by decide)
          have hs_o1 := WLe.at (x1_).1 hs_o1 (by decide)
          have hx := hx2
          have e35c := pk72
          refine ⟨(hV.mm hs_h (by decide) rfl), ?_⟩
          refine t_X11_finish hV h hs_h (some o1) o1 rfl hs_o1 x30 ⟨bp0, pk72, wp0, (by omega)⟩  (by omega) (fun W κ37 x1_ hV fκ37 pu8 => ?_)
          have hV : CV G E W (c - 1664) κ37 := hV.dn (by omega)
          have tk74 : (sI κ37.1 b_a1 8).toInt = (sI κ35.1 b_a1 8).toInt := by rw [(fκ37.1 b_a1 (by rw [hs_a1]; decide) 8 (by rw [hs_a1]; decide)).1]
          have tk75 : (sI κ37.1 bp1 1).toInt = (sI κ35.1 bp1 1).toInt := by rw [(fκ37.1 bp1 (by rw [wp1]; decide) 1 (by rw [wp1]; decide)).1]
          have tk76 : (sI κ37.1 o1 1).toInt = (sI κ35.1 o1 1).toInt := by rw [(fκ37.1 o1 (by rw [hs_o1]; decide) 1 (by rw [hs_o1]; decide)).1]
          have tk77 : (sI κ37.1 o1 2).toInt = (sI κ35.1 o1 2).toInt := by rw [(fκ37.1 o1 (by rw [hs_o1]; decide) 2 (by rw [hs_o1]; decide)).1]
          have tk78 : (sI κ37.1 o1 5).toInt = (sI κ35.1 o1 5).toInt := by rw [(fκ37.1 o1 (by rw [hs_o1]; decide) 5 (by rw [hs_o1]; decide)).1]
          have tj79 : (sJ κ37.1 o1 3).toInt = (sJ κ35.1 o1 3).toInt := by rw [(fκ37.1 o1 (by rw [hs_o1]; decide) 3 (by rw [hs_o1]; decide)).2.1]
          have pk80 := (fκ37.1 h (by rw [hs_h]; decide) 14 (by rw [hs_h]; decide)).2.2.trans pk72
          have pk81 := (fκ37.1 b_a1 (by rw [hs_a1]; decide) 2 (by rw [hs_a1]; decide)).2.2.trans pk73
          have hx2 := hx.tr x1_ hfr.sl
          have hfr := hfr.trW hx fκ37 (by decide)
          have hs_h := WLe.at (x1_).1 hs_h (by decide)
          have hs_a1 := WLe.at (x1_).1 hs_a1 (by decide)
          have wp0 := WLe.at (x1_).1 wp0 (by decide)
          have wp1 := WLe.at (x1_).1 wp1 (by decide)
          have hs_o1 := WLe.at (x1_).1 hs_o1 (by decide)
          have hx := hx2
          have fi_ := pu8 bp0 e35c
          refine ⟨b_a1, e_a1, (hV.mm hs_a1 (by decide) rfl), ?_⟩
          intro z39 ez39
          have vz39 := hV.1.iv hs_a1 (by decide) rfl 8 (-2147483648) 2147483647 rfl ez39
          have wz39 : z39.toInt = (sI κ37.1 b_a1 8).toInt := by rw [ez39]
          refine ⟨(hV.mm hs_o1 (by decide) rfl), ?_⟩
          intro z40 ez40
          have vz40 := hV.1.iv hs_o1 (by decide) rfl 2 (-2147483648) 2147483647 rfl ez40
          have wz40 : z40.toInt = (sI κ37.1 o1 2).toInt := by rw [ez40]
          intro z41 ez41
          try have hz41 := i_add ez41 (by omega) (by omega)
          have rg_z41 := i_range z41
          refine ⟨b_a1, e_a1, (hV.mm hs_a1 (by decide) rfl), ?_⟩
          intro κ42 eκ42
          have rv_κ42 := i_range z41
          have hV := hV.uI (k := 8) (v := z41) hs_a1 (Or.inl rfl) (Or.inl (by decide)) (Or.inl (by decide)) (fun _ => (by omega : (-2147483648 : Int) ≤ (z41 : Int32).toInt ∧ (z41 : Int32).toInt ≤ 2147483647)) eκ42
          have uκ42 : (sI κ42.1 b_a1 8).toInt = (z41 : Int32).toInt := by rw [eκ42]; exact congrArg Int32.toInt u2_same
          have f1κ42 : CF [(3, 8)] W κ37 κ42 := CF.rf.uI (k := 8) hs_a1 (by decide) (show ((3, 8) : Nat × Nat) ∈ ([(3, 8)] : List (Nat × Nat)) by simp) eκ42
          have tk82 : (sI κ42.1 bp1 1).toInt = (sI κ37.1 bp1 1).toInt := by rw [(f1κ42.1 bp1 (by rw [wp1]; decide) 1 (by rw [wp1]; decide)).1]
          have tk83 : (sI κ42.1 o1 1).toInt = (sI κ37.1 o1 1).toInt := by rw [(f1κ42.1 o1 (by rw [hs_o1]; decide) 1 (by rw [hs_o1]; decide)).1]
          have tk84 : (sI κ42.1 o1 2).toInt = (sI κ37.1 o1 2).toInt := by rw [(f1κ42.1 o1 (by rw [hs_o1]; decide) 2 (by rw [hs_o1]; decide)).1]
          have tk85 : (sI κ42.1 o1 5).toInt = (sI κ37.1 o1 5).toInt := by rw [(f1κ42.1 o1 (by rw [hs_o1]; decide) 5 (by rw [hs_o1]; decide)).1]
          have tk86 : (sI κ42.1 bp0 1).toInt = (sI κ37.1 bp0 1).toInt := by rw [(f1κ42.1 bp0 (by rw [wp0]; decide) 1 (by rw [wp0]; decide)).1]
          have tj87 : (sJ κ42.1 o1 3).toInt = (sJ κ37.1 o1 3).toInt := by rw [(f1κ42.1 o1 (by rw [hs_o1]; decide) 3 (by rw [hs_o1]; decide)).2.1]
          have pk88 := (f1κ42.1 h (by rw [hs_h]; decide) 14 (by rw [hs_h]; decide)).2.2.trans pk80
          have pk89 := (f1κ42.1 b_a1 (by rw [hs_a1]; decide) 2 (by rw [hs_a1]; decide)).2.2.trans pk81
          have hfr := hfr.trW hx f1κ42 (by decide)
          refine ⟨(hV.mm hs_o1 (by decide) rfl), ?_⟩
          refine t2_X0_last hV o1 hs_o1  (fun z44 pz44 => ?_)
          have rg_z44 := i_range z44
          refine jc_dup ?_
          refine ⟨fun c3 => ?_, fun c3 => ?_⟩
          · (try dsimp only)
            refine ⟨by omega, ?_⟩
            exact kk 0 W κ42 hx (hV.dn (by omega)) hfr ⟨by omega, fun b e => by rw [show b = bp0 from Option.some.inj (e.symm.trans ep0)]; omega, Or.inr (fun b e => by rw [show b = bp1 from Option.some.inj (e.symm.trans ep1)]; exact ⟨g6.2.2.1, fun q => absurd rfl q⟩)⟩
          · (try dsimp only)
            refine ⟨by omega, ?_⟩
            have a1_ : (sI κ42.1 b_a1 8).toInt = (sI κ.1 b_a1 8).toInt + (sI κ3.1 o1 2).toInt := by omega
            have n0_ : ¬ (sJ κ3.1 o1 3).toInt = 0 := by omega
            exact kk 1 W κ42 hx (hV.dn (by omega)) hfr ⟨by omega, fun b e => by rw [show b = bp0 from Option.some.inj (e.symm.trans ep0)]; omega, Or.inr (fun b e => by rw [show b = bp1 from Option.some.inj (e.symm.trans ep1)]; exact ⟨g6.2.2.1, fun _ => ⟨by rw [a1_]; omega, by rw [a1_]; exact g6.2.2.2.resolve_left n0_⟩⟩)⟩
        · skip
          have le117 : WLe W W := WLe.rf
          refine jc_in (fun (x : Unit) (κ' : CS) => κ28 = κ' ∧ ((True))) (fun x50 κ51 hJ => ?_) (fun K52 hK52 => ?_)
          · obtain ⟨hsg, hv⟩ := hJ
            subst hsg
            (try dsimp only at hv)
            refine ⟨fun c4 => ?_, fun c4 => ?_⟩
            · exact hK32 x23 κ28 ⟨W, le117, hx, hV.dn (by (try dsimp only); omega), hfr, (by (try dsimp only); omega), pk63, pk64⟩
            · refine ⟨(hV.mm hs_o1 (by decide) rfl), ?_⟩
              intro z55 ez55
              have vz55 := hV.1.iv hs_o1 (by decide) rfl 5 (-2147483648) 2147483647 rfl ez55
              have wz55 : z55.toInt = (sI κ28.1 o1 5).toInt := by rw [ez55]
              refine jc_dup ?_
              refine ⟨fun c5 => ?_, fun c5 => ?_⟩
              · refine ⟨(hV.mm hs_h (by decide) rfl), ?_⟩
                refine t_X11_perform hV h hs_h (some o1) o1 rfl hs_o1 (hb63 (by omega)) (by omega) (fun z62 W κ61 x1_ hV fκ61 pz62 => ?_)
                have hV : CV G E W (c - 349) κ61 := hV.dn (by omega)
                have tk90 : (sI κ61.1 b_a1 8).toInt = (sI κ28.1 b_a1 8).toInt := by rw [(fκ61.1 b_a1 (by rw [hs_a1]; decide) 8 (by rw [hs_a1]; decide)).1]
                have tk91 : (sI κ61.1 bp1 1).toInt = (sI κ28.1 bp1 1).toInt := by rw [(fκ61.1 bp1 (by rw [wp1]; decide) 1 (by rw [wp1]; decide)).1]
                have tk92 : (sI κ61.1 o1 1).toInt = (sI κ28.1 o1 1).toInt := by rw [(fκ61.1 o1 (by rw [hs_o1]; decide) 1 (by rw [hs_o1]; decide)).1]
                have tk93 : (sI κ61.1 o1 2).toInt = (sI κ28.1 o1 2).toInt := by rw [(fκ61.1 o1 (by rw [hs_o1]; decide) 2 (by rw [hs_o1]; decide)).1]
                have tk94 : (sI κ61.1 o1 5).toInt = (sI κ28.1 o1 5).toInt := by rw [(fκ61.1 o1 (by rw [hs_o1]; decide) 5 (by rw [hs_o1]; decide)).1]
                have tk95 : (sI κ61.1 bp0 1).toInt = (sI κ28.1 bp0 1).toInt := by rw [(fκ61.1 bp0 (by rw [wp0]; decide) 1 (by rw [wp0]; decide)).1]
                have tj96 : (sJ κ61.1 o1 3).toInt = (sJ κ28.1 o1 3).toInt := by rw [(fκ61.1 o1 (by rw [hs_o1]; decide) 3 (by rw [hs_o1]; decide)).2.1]
                have pk97 := (fκ61.1 h (by rw [hs_h]; decide) 14 (by rw [hs_h]; decide)).2.2.trans pk63
                have pk98 := (fκ61.1 b_a1 (by rw [hs_a1]; decide) 2 (by rw [hs_a1]; decide)).2.2.trans pk64
                have hb63 := (fun q => HB.fr fκ61 (x1_).1 hs_o1 (by decide) (by decide) (hb63 q))
                have hx2 := hx.tr x1_ hfr.sl
                have hfr := hfr.trW hx fκ61 (by decide)
                have hs_h := WLe.at (x1_).1 hs_h (by decide)
                have hs_a1 := WLe.at (x1_).1 hs_a1 (by decide)
                have wp0 := WLe.at (x1_).1 wp0 (by decide)
                have wp1 := WLe.at (x1_).1 wp1 (by decide)
                have hs_o1 := WLe.at (x1_).1 hs_o1 (by decide)
                have le117 := WLe.tr le117 (x1_).1
                have hx := hx2
                have rg_z62 := i_range z62
                (try dsimp only)
                exact hK32 z62 κ61 ⟨W, le117, hx, hV.dn (by (try dsimp only); omega), hfr, (by (try dsimp only); omega), pk97, pk98⟩
              · refine ⟨(hV.mm hs_h (by decide) rfl), ?_⟩
                refine t_X11_openOrWait hV h hs_h (some o1) o1 rfl hs_o1  (by omega) (fun z64 W κ63 x1_ hV fκ63 pz64 => ?_)
                have hV : CV G E W (c - 857) κ63 := hV.dn (by omega)
                have tk99 : (sI κ63.1 b_a1 8).toInt = (sI κ28.1 b_a1 8).toInt := by rw [(fκ63.1 b_a1 (by rw [hs_a1]; decide) 8 (by rw [hs_a1]; decide)).1]
                have tk100 : (sI κ63.1 bp1 1).toInt = (sI κ28.1 bp1 1).toInt := by rw [(fκ63.1 bp1 (by rw [wp1]; decide) 1 (by rw [wp1]; decide)).1]
                have tk101 : (sI κ63.1 o1 1).toInt = (sI κ28.1 o1 1).toInt := by rw [(fκ63.1 o1 (by rw [hs_o1]; decide) 1 (by rw [hs_o1]; decide)).1]
                have tk102 : (sI κ63.1 o1 2).toInt = (sI κ28.1 o1 2).toInt := by rw [(fκ63.1 o1 (by rw [hs_o1]; decide) 2 (by rw [hs_o1]; decide)).1]
                have tk103 : (sI κ63.1 o1 5).toInt = (sI κ28.1 o1 5).toInt := by rw [(fκ63.1 o1 (by rw [hs_o1]; decide) 5 (by rw [hs_o1]; decide)).1]
                have tk104 : (sI κ63.1 bp0 1).toInt = (sI κ28.1 bp0 1).toInt := by rw [(fκ63.1 bp0 (by rw [wp0]; decide) 1 (by rw [wp0]; decide)).1]
                have tj105 : (sJ κ63.1 o1 3).toInt = (sJ κ28.1 o1 3).toInt := by rw [(fκ63.1 o1 (by rw [hs_o1]; decide) 3 (by rw [hs_o1]; decide)).2.1]
                have pk106 := (fκ63.1 h (by rw [hs_h]; decide) 14 (by rw [hs_h]; decide)).2.2.trans pk63
                have pk107 := (fκ63.1 b_a1 (by rw [hs_a1]; decide) 2 (by rw [hs_a1]; decide)).2.2.trans pk64
                have hb63 := (fun q => HB.fr fκ63 (x1_).1 hs_o1 (by decide) (by decide) (hb63 q))
                have hx2 := hx.tr x1_ hfr.sl
                have hfr := hfr.trW hx fκ63 (by decide)
                have hs_h := WLe.at (x1_).1 hs_h (by decide)
                have hs_a1 := WLe.at (x1_).1 hs_a1 (by decide)
                have wp0 := WLe.at (x1_).1 wp0 (by decide)
                have wp1 := WLe.at (x1_).1 wp1 (by decide)
                have hs_o1 := WLe.at (x1_).1 hs_o1 (by decide)
                have le117 := WLe.tr le117 (x1_).1
                have hx := hx2
                have rg_z64 := i_range z64
                (try dsimp only)
                exact hK32 z64 κ63 ⟨W, le117, hx, hV.dn (by (try dsimp only); omega), hfr, (by (try dsimp only); omega), pk106, pk107⟩
          · skip
            refine ⟨fun c6 => ?_, fun c6 => ?_⟩
            · exact hK52 () κ28 ⟨rfl, trivial⟩
            · refine ⟨(hV.mm hs_o1 (by decide) rfl), ?_⟩
              intro z65 ez65
              have nz65 := hV.1.nl hs_o1 (by decide) rfl 15 rfl (by decide)
              rw [← ez65] at nz65
              refine ⟨fun c7 => ?_, fun c7 => ?_⟩
              · exact hK52 () κ28 ⟨rfl, trivial⟩
              · obtain ⟨bn12, ebn12, hsn12⟩ := nz65.resolve_left c7
                refine ⟨(hV.mm hs_o1 (by decide) rfl), ?_⟩
                intro z66 ez66
                have ebz66 : z66 = some bn12 := (ez66.trans ez65.symm).trans ebn12
                refine ⟨(hV.mm hs_h (by decide) rfl), ?_⟩
                refine t_X11_performOnFile hV h hs_h (some o1) o1 rfl hs_o1 z66 bn12 ebz66 hsn12  (by omega) (fun z68 W κ67 x1_ hV fκ67 pz68 => ?_)
                have hV : CV G E W (c - 1664) κ67 := hV.dn (by omega)
                have tk108 : (sI κ67.1 b_a1 8).toInt = (sI κ28.1 b_a1 8).toInt := by rw [(fκ67.1 b_a1 (by rw [hs_a1]; decide) 8 (by rw [hs_a1]; decide)).1]
                have tk109 : (sI κ67.1 bp1 1).toInt = (sI κ28.1 bp1 1).toInt := by rw [(fκ67.1 bp1 (by rw [wp1]; decide) 1 (by rw [wp1]; decide)).1]
                have tk110 : (sI κ67.1 o1 1).toInt = (sI κ28.1 o1 1).toInt := by rw [(fκ67.1 o1 (by rw [hs_o1]; decide) 1 (by rw [hs_o1]; decide)).1]
                have tk111 : (sI κ67.1 o1 2).toInt = (sI κ28.1 o1 2).toInt := by rw [(fκ67.1 o1 (by rw [hs_o1]; decide) 2 (by rw [hs_o1]; decide)).1]
                have tk112 : (sI κ67.1 o1 5).toInt = (sI κ28.1 o1 5).toInt := by rw [(fκ67.1 o1 (by rw [hs_o1]; decide) 5 (by rw [hs_o1]; decide)).1]
                have tk113 : (sI κ67.1 bp0 1).toInt = (sI κ28.1 bp0 1).toInt := by rw [(fκ67.1 bp0 (by rw [wp0]; decide) 1 (by rw [wp0]; decide)).1]
                have tj114 : (sJ κ67.1 o1 3).toInt = (sJ κ28.1 o1 3).toInt := by rw [(fκ67.1 o1 (by rw [hs_o1]; decide) 3 (by rw [hs_o1]; decide)).2.1]
                have pk115 := (fκ67.1 h (by rw [hs_h]; decide) 14 (by rw [hs_h]; decide)).2.2.trans pk63
                have pk116 := (fκ67.1 b_a1 (by rw [hs_a1]; decide) 2 (by rw [hs_a1]; decide)).2.2.trans pk64
                have hb63 := (fun q => HB.fr fκ67 (x1_).1 hs_o1 (by decide) (by decide) (hb63 q))
                have hx2 := hx.tr x1_ hfr.sl
                have hfr := hfr.trW hx fκ67 (by decide)
                have hs_h := WLe.at (x1_).1 hs_h (by decide)
                have hs_a1 := WLe.at (x1_).1 hs_a1 (by decide)
                have wp0 := WLe.at (x1_).1 wp0 (by decide)
                have wp1 := WLe.at (x1_).1 wp1 (by decide)
                have hs_o1 := WLe.at (x1_).1 hs_o1 (by decide)
                have hsn12 := WLe.at (x1_).1 hsn12 (by decide)
                have le117 := WLe.tr le117 (x1_).1
                have hx := hx2
                have rg_z68 := i_range z68
                exact hK32 z68 κ67 ⟨W, le117, hx, hV.dn (by (try dsimp only); omega), hfr, (by (try dsimp only); omega), pk115, pk116⟩
      · skip
        have le63 : WLe W W := WLe.rf
        refine ⟨fun c8 => ?_, fun c8 => ?_⟩
        · exact hK25 z22 κ21 ⟨W, le63, hx, hV.dn (by (try dsimp only); omega), hfr, (by (try dsimp only); omega), (fun q => absurd q (by (try dsimp only); omega)), pk54, pk55⟩
        · have hbb : HB W κ21 o1 := fun q => (pz22 (by omega)).resolve_left (fun g => by omega)
          refine ⟨(hV.mm hs_h (by decide) rfl), ?_⟩
          refine t_X11_prepare hV h hs_h (some o1) o1 rfl hs_o1  (by omega) (fun z70 W κ69 x1_ hV fκ69 pz70 => ?_)
          have hV : CV G E W (c - 202) κ69 := hV.dn (by omega)
          have tk117 : (sI κ69.1 b_a1 8).toInt = (sI κ21.1 b_a1 8).toInt := by rw [(fκ69.1 b_a1 (by rw [hs_a1]; decide) 8 (by rw [hs_a1]; decide)).1]
          have tk118 : (sI κ69.1 bp1 1).toInt = (sI κ21.1 bp1 1).toInt := by rw [(fκ69.1 bp1 (by rw [wp1]; decide) 1 (by rw [wp1]; decide)).1]
          have tk119 : (sI κ69.1 o1 1).toInt = (sI κ21.1 o1 1).toInt := by rw [(fκ69.1 o1 (by rw [hs_o1]; decide) 1 (by rw [hs_o1]; decide)).1]
          have tk120 : (sI κ69.1 o1 2).toInt = (sI κ21.1 o1 2).toInt := by rw [(fκ69.1 o1 (by rw [hs_o1]; decide) 2 (by rw [hs_o1]; decide)).1]
          have tk121 : (sI κ69.1 o1 5).toInt = (sI κ21.1 o1 5).toInt := by rw [(fκ69.1 o1 (by rw [hs_o1]; decide) 5 (by rw [hs_o1]; decide)).1]
          have tk122 : (sI κ69.1 bp0 1).toInt = (sI κ21.1 bp0 1).toInt := by rw [(fκ69.1 bp0 (by rw [wp0]; decide) 1 (by rw [wp0]; decide)).1]
          have tj123 : (sJ κ69.1 o1 3).toInt = (sJ κ21.1 o1 3).toInt := by rw [(fκ69.1 o1 (by rw [hs_o1]; decide) 3 (by rw [hs_o1]; decide)).2.1]
          have pk124 := (fκ69.1 h (by rw [hs_h]; decide) 14 (by rw [hs_h]; decide)).2.2.trans pk54
          have pk125 := (fκ69.1 b_a1 (by rw [hs_a1]; decide) 2 (by rw [hs_a1]; decide)).2.2.trans pk55
          have hbb := HB.fr fκ69 (x1_).1 hs_o1 (by decide) (by decide) hbb
          have hx2 := hx.tr x1_ hfr.sl
          have hfr := hfr.trW hx fκ69 (by decide)
          have hs_h := WLe.at (x1_).1 hs_h (by decide)
          have hs_a1 := WLe.at (x1_).1 hs_a1 (by decide)
          have wp0 := WLe.at (x1_).1 wp0 (by decide)
          have wp1 := WLe.at (x1_).1 wp1 (by decide)
          have hs_o1 := WLe.at (x1_).1 hs_o1 (by decide)
          have le63 := WLe.tr le63 (x1_).1
          have hx := hx2
          have rg_z70 := i_range z70
          exact hK25 z70 κ69 ⟨W, le63, hx, hV.dn (by (try dsimp only); omega), hfr, (by (try dsimp only); omega), (fun _ => hbb), pk124, pk125⟩
    · (try dsimp only)
      refine ⟨(hV.mm hs_h (by decide) rfl), ?_⟩
      refine t_X11_shutOff hV h hs_h a1 b_a1 e_a1 hs_a1  (fun κ12 hV fκ12 pu15 => ?_)
      have tk126 : (sI κ12.1 b_a1 8).toInt = (sI κ18.1 b_a1 8).toInt := by rw [(fκ12.1 b_a1 (by rw [hs_a1]; decide) 8 (by rw [hs_a1]; decide)).1]
      have tk127 : (sI κ12.1 bp1 1).toInt = (sI κ18.1 bp1 1).toInt := by rw [(fκ12.1 bp1 (by rw [wp1]; decide) 1 (by rw [wp1]; decide)).1]
      have tk128 : (sI κ12.1 o1 1).toInt = (sI κ18.1 o1 1).toInt := by rw [(fκ12.1 o1 (by rw [hs_o1]; decide) 1 (by rw [hs_o1]; decide)).1]
      have tk129 : (sI κ12.1 o1 2).toInt = (sI κ18.1 o1 2).toInt := by rw [(fκ12.1 o1 (by rw [hs_o1]; decide) 2 (by rw [hs_o1]; decide)).1]
      have tk130 : (sI κ12.1 o1 5).toInt = (sI κ18.1 o1 5).toInt := by rw [(fκ12.1 o1 (by rw [hs_o1]; decide) 5 (by rw [hs_o1]; decide)).1]
      have tk131 : (sI κ12.1 bp0 1).toInt = (sI κ18.1 bp0 1).toInt := by rw [(fκ12.1 bp0 (by rw [wp0]; decide) 1 (by rw [wp0]; decide)).1]
      have tj132 : (sJ κ12.1 o1 3).toInt = (sJ κ18.1 o1 3).toInt := by rw [(fκ12.1 o1 (by rw [hs_o1]; decide) 3 (by rw [hs_o1]; decide)).2.1]
      have pk133 := (fκ12.1 h (by rw [hs_h]; decide) 14 (by rw [hs_h]; decide)).2.2.trans pk36
      have pk134 := (fκ12.1 b_a1 (by rw [hs_a1]; decide) 2 (by rw [hs_a1]; decide)).2.2.trans pk37
      have hfr := hfr.trW hx fκ12 (by decide)
      refine ⟨(hV.mm hs_h (by decide) rfl), ?_⟩
      refine t_X11_settle hV h hs_h  (by omega) (fun W κ14 x1_ hV fκ14 pu16 => ?_)
      have hV : CV G E W (c - 33) κ14 := hV.dn (by omega)
      have tk135 : (sI κ14.1 b_a1 8).toInt = (sI κ12.1 b_a1 8).toInt := by rw [(fκ14.1 b_a1 (by rw [hs_a1]; decide) 8 (by rw [hs_a1]; decide)).1]
      have tk136 : (sI κ14.1 bp1 1).toInt = (sI κ12.1 bp1 1).toInt := by rw [(fκ14.1 bp1 (by rw [wp1]; decide) 1 (by rw [wp1]; decide)).1]
      have tk137 : (sI κ14.1 o1 1).toInt = (sI κ12.1 o1 1).toInt := by rw [(fκ14.1 o1 (by rw [hs_o1]; decide) 1 (by rw [hs_o1]; decide)).1]
      have tk138 : (sI κ14.1 o1 2).toInt = (sI κ12.1 o1 2).toInt := by rw [(fκ14.1 o1 (by rw [hs_o1]; decide) 2 (by rw [hs_o1]; decide)).1]
      have tk139 : (sI κ14.1 o1 5).toInt = (sI κ12.1 o1 5).toInt := by rw [(fκ14.1 o1 (by rw [hs_o1]; decide) 5 (by rw [hs_o1]; decide)).1]
      have tk140 : (sI κ14.1 bp0 1).toInt = (sI κ12.1 bp0 1).toInt := by rw [(fκ14.1 bp0 (by rw [wp0]; decide) 1 (by rw [wp0]; decide)).1]
      have tj141 : (sJ κ14.1 o1 3).toInt = (sJ κ12.1 o1 3).toInt := by rw [(fκ14.1 o1 (by rw [hs_o1]; decide) 3 (by rw [hs_o1]; decide)).2.1]
      have pk142 := (fκ14.1 h (by rw [hs_h]; decide) 14 (by rw [hs_h]; decide)).2.2.trans pk133
      have pk143 := (fκ14.1 b_a1 (by rw [hs_a1]; decide) 2 (by rw [hs_a1]; decide)).2.2.trans pk134
      have hx2 := hx.tr x1_ hfr.sl
      have hfr := hfr.trW hx fκ14 (by decide)
      have hs_h := WLe.at (x1_).1 hs_h (by decide)
      have hs_a1 := WLe.at (x1_).1 hs_a1 (by decide)
      have wp0 := WLe.at (x1_).1 wp0 (by decide)
      have wp1 := WLe.at (x1_).1 wp1 (by decide)
      have hs_o1 := WLe.at (x1_).1 hs_o1 (by decide)
      have hx := hx2
      refine ⟨by omega, ?_⟩
      exact kk 0 W κ14 hx (hV.dn (by omega)) hfr ⟨by omega, fun b e => by rw [show b = bp0 from Option.some.inj (e.symm.trans ep0)]; omega, Or.inl ⟨by omega, hV.dn (by omega)⟩⟩

/-! the class: what comes -/
set_option maxRecDepth 100000 in
set_option maxHeartbeats 4000000 in
theorem t_X11_come {G : GE} {E : CE} {W0 : CW} {c : Int} {κ : CS} (hV : CV G E W0 c κ) (h : Nat) (hs_h : W0.1 h = 1) (a1 : Int32) (t : Nat) (et : sP κ.1 h 0 = some t) (wt : W0.1 t = 60) (ht : ∀ b, W0.1 b = 64 → (sI κ.1 b 1).toInt + (sI κ.1 t 1).toInt ≤ 1280) (hc : 33280 + 33 * (sI κ.1 t 1).toInt + 2000 ≤ c) {post : Int32 → CS → Prop} (kk : ∀ (r : Int32) (W' : CW) (κ' : CS), WX W0 W' κ → CV G E W' (c - (33280 + 33 * (sI κ.1 t 1).toInt)) κ' → CF [(1, 6), (10, 10), (10, 11), (10, 12), (10, 14), (10, 3), (10, 4), (10, 5), (10, 6), (10, 7), (10, 8), (10, 9), (11, 4), (12, 3), (13, 0), (13, 1), (13, 10), (13, 11), (13, 12), (13, 2), (13, 3), (13, 4), (13, 5), (13, 6), (13, 7), (13, 8), (13, 9), (20, 0), (21, 0), (3, 0), (3, 1), (3, 10), (3, 11), (3, 12), (3, 13), (3, 14), (3, 3), (3, 6), (3, 7), (3, 8), (3, 9), (30, 0), (31, 0), (32, 0), (33, 0), (4, 0), (4, 1), (4, 10), (4, 11), (4, 12), (4, 13), (4, 14), (4, 2), (4, 3), (4, 5), (4, 6), (4, 7), (4, 8), (4, 9), (40, 0), (40, 1), (40, 2), (41, 0), (41, 1), (41, 2), (42, 0), (42, 1), (42, 2), (43, 0), (43, 1), (43, 2), (44, 0), (44, 1), (44, 2), (5, 1), (5, 10), (5, 11), (5, 12), (5, 13), (5, 2), (5, 3), (5, 4), (5, 6), (5, 7), (5, 8), (5, 9), (50, 0), (51, 0), (52, 0), (53, 0), (54, 0), (6, 1), (60, 1), (61, 0), (61, 1), (62, 0), (62, 1), (63, 0), (63, 1), (64, 0), (64, 1), (8, 10), (8, 11), (8, 13), (8, 14), (8, 15), (8, 16), (8, 17), (8, 18), (8, 19), (8, 20)] W0 κ κ' → LX W0 κ κ' ((sI κ.1 t 1).toInt) → ((sI κ'.1 t 1).toInt = 0) → post r κ') : F_X11_come G h a1 post κ := by
  have hs0_h := hs_h
  have wt0 := wt
  have ht0 := ht
  suffices H_ : ∀ W : CW, WX W0 W κ → CV G E W (c - 0) κ → (W.1 h = 1) → (W.1 t = 60) → (∀ b, W.1 b = 64 → (sI κ.1 b 1).toInt + (sI κ.1 t 1).toInt ≤ 1280) → F_X11_come G h a1 post κ from H_ W0 WX.rf (hV.dn (by omega)) hs_h wt ht
  intro W hx hV hs_h wt ht
  unfold F_X11_come
  have hfr : CF [(1, 6), (10, 10), (10, 11), (10, 12), (10, 14), (10, 3), (10, 4), (10, 5), (10, 6), (10, 7), (10, 8), (10, 9), (11, 4), (12, 3), (13, 0), (13, 1), (13, 10), (13, 11), (13, 12), (13, 2), (13, 3), (13, 4), (13, 5), (13, 6), (13, 7), (13, 8), (13, 9), (20, 0), (21, 0), (3, 0), (3, 1), (3, 10), (3, 11), (3, 12), (3, 13), (3, 14), (3, 3), (3, 6), (3, 7), (3, 8), (3, 9), (30, 0), (31, 0), (32, 0), (33, 0), (4, 0), (4, 1), (4, 10), (4, 11), (4, 12), (4, 13), (4, 14), (4, 2), (4, 3), (4, 5), (4, 6), (4, 7), (4, 8), (4, 9), (40, 0), (40, 1), (40, 2), (41, 0), (41, 1), (41, 2), (42, 0), (42, 1), (42, 2), (43, 0), (43, 1), (43, 2), (44, 0), (44, 1), (44, 2), (5, 1), (5, 10), (5, 11), (5, 12), (5, 13), (5, 2), (5, 3), (5, 4), (5, 6), (5, 7), (5, 8), (5, 9), (50, 0), (51, 0), (52, 0), (53, 0), (54, 0), (6, 1), (60, 1), (61, 0), (61, 1), (62, 0), (62, 1), (63, 0), (63, 1), (64, 0), (64, 1), (8, 10), (8, 11), (8, 13), (8, 14), (8, 15), (8, 16), (8, 17), (8, 18), (8, 19), (8, 20)] W0 κ κ := CF.rf
  have hlx : LX W0 κ κ 0 := LX.rf
  have k_m1 : ((-1) : Int32).toInt = (-1) := rfl
  have k_0 : (0 : Int32).toInt = 0 := rfl
  have k_1 : (1 : Int32).toInt = 1 := rfl
  have k_2 : (2 : Int32).toInt = 2 := rfl
  have k_4000 : (4000 : Int32).toInt = 4000 := rfl
  have kl_m1 : ((-1) : Int64).toInt = (-1) := rfl
  have kl_1 : (1 : Int64).toInt = 1 := rfl
  have rg_a1 := i_range a1
  refine ⟨(hV.mm hs_h (by decide) rfl), ?_⟩
  intro z1 ez1
  have ebz1 : z1 = some t := ez1.trans et
  refine ⟨t, ebz1, (hV.mm wt (by decide) rfl), ?_⟩
  intro z2 ez2
  have vz2 := hV.1.iv wt (by decide) rfl 1 0 8000 rfl ez2
  have wz2 : z2.toInt = (sI κ.1 t 1).toInt := by rw [ez2]
  refine ⟨(hV.mm hs_h (by decide) rfl), ?_⟩
  intro z3 ez3
  have ebz3 : z3 = some t := ez3.trans et
  refine ⟨t, ebz3, (hV.mm wt (by decide) rfl), ?_⟩
  intro z4 ez4
  obtain ⟨bz4, ebz4, hsz4⟩ := hV.1.nn wt (by decide) rfl 0 rfl (by decide)
  have pk_z4 := ebz4
  have ebz4 := ez4.trans ebz4
  refine ⟨(W.2 bz4), (AL.of hV ebz4 hsz4 (by decide) rfl (by decide)), ?_⟩
  intro z5 ez5
  have lnz5 := nI_ln ez5 (hV.lm hsz4 (by decide) rfl)
  have lmz5 := (hV.lm hsz4 (by decide) rfl)
  intro z7 mz7
  have rg_z7 := i_range z7
  refine ⟨(hV.mm hs_h (by decide) rfl), ?_⟩
  intro z8 ez8
  have ebz8 : z8 = some t := ez8.trans et
  refine ⟨t, ebz8, (hV.mm wt (by decide) rfl), ?_⟩
  intro κ9 eκ9
  have roκ9 := hV.2.1 t (by rw [wt]; rfl) bz4 pk_z4
  have hV := hV.uRL wt rfl pk_z4 (by show 0 ≤ (0 : Int32).toInt ∧ (0 : Int32).toInt ≤ 8000; omega) (by omega) eκ9
  have uκ9 : (sI κ9.1 t 1).toInt = (0 : Int32).toInt := by rw [eκ9]; exact congrArg Int32.toInt u2_same
  have f1κ9 : CF [(60, 1)] W κ κ9 := CF.rf.uI (k := 1) wt (by decide) (show ((60, 1) : Nat × Nat) ∈ ([(60, 1)] : List (Nat × Nat)) by simp) eκ9
  have pk1 := (f1κ9.1 h (by rw [hs_h]; decide) 0 (by rw [hs_h]; decide)).2.2.trans et
  have pk2 := (f1κ9.1 t (by rw [wt]; decide) 0 (by rw [wt]; decide)).2.2.trans pk_z4
  have hlx := hlx.fr hx.1 f1κ9 (by decide)
  have hfr := hfr.trW hx f1κ9 (by decide)
  refine ⟨(hV.mm hs_h (by decide) rfl), ?_⟩
  refine t_X11_connection hV h hs_h a1  (fun z11 pz11 => ?_)
  refine jc_dup ?_
  refine ⟨fun c1 => ?_, fun c1 => ?_⟩
  · (try dsimp only)
    exact kk (-1) W κ9 hx (hV.dn (by omega)) hfr (hlx.up (by omega)) (by omega)
  · obtain ⟨bn2, ebn2, hsn2⟩ := pz11.resolve_left c1
    obtain ⟨bc, ebc, wbc⟩ := hV.1.nn hsn2 (by decide) rfl 2 rfl (by decide)
    have tkc : (sI κ9.1 bc 1).toInt = (sI κ.1 bc 1).toInt := by rw [(f1κ9.1 bc (by rw [wbc]; decide) 1 (by rw [wbc]; decide)).1]
    have htc := ht bc wbc
    have hlc : 0 ≤ (sI κ9.1 bc 1).toInt ∧ (sI κ9.1 bc 1).toInt ≤ 4004 := hV.1.iv wbc (by decide) rfl 1 0 4004 rfl rfl
    refine ⟨bn2, ebn2, (hV.mm hsn2 (by decide) rfl), ?_⟩
    intro z17 ez17
    have vz17 := hV.1.iv hsn2 (by decide) rfl 0 0 1 rfl ez17
    have wz17 : z17.toInt = (sI κ9.1 bn2 0).toInt := by rw [ez17]
    refine ⟨fun c2 => ?_, fun c2 => ?_⟩
    · refine lc_in (fun (x : Int32 × Int32) (κ' : CS) => ∃ W' : CW, WLe W W' ∧ WX W0 W' κ ∧ CV G E W' (c - (59 * x.1.toInt + 26 * (sI κ.1 bc 1).toInt - 26 * (sI κ'.1 bc 1).toInt)) κ' ∧ CF [(1, 6), (10, 10), (10, 11), (10, 12), (10, 14), (10, 3), (10, 4), (10, 5), (10, 6), (10, 7), (10, 8), (10, 9), (11, 4), (12, 3), (13, 0), (13, 1), (13, 10), (13, 11), (13, 12), (13, 2), (13, 3), (13, 4), (13, 5), (13, 6), (13, 7), (13, 8), (13, 9), (20, 0), (21, 0), (3, 0), (3, 1), (3, 10), (3, 11), (3, 12), (3, 13), (3, 14), (3, 3), (3, 6), (3, 7), (3, 8), (3, 9), (30, 0), (31, 0), (32, 0), (33, 0), (4, 0), (4, 1), (4, 10), (4, 11), (4, 12), (4, 13), (4, 14), (4, 2), (4, 3), (4, 5), (4, 6), (4, 7), (4, 8), (4, 9), (40, 0), (40, 1), (40, 2), (41, 0), (41, 1), (41, 2), (42, 0), (42, 1), (42, 2), (43, 0), (43, 1), (43, 2), (44, 0), (44, 1), (44, 2), (5, 1), (5, 10), (5, 11), (5, 12), (5, 13), (5, 2), (5, 3), (5, 4), (5, 6), (5, 7), (5, 8), (5, 9), (50, 0), (51, 0), (52, 0), (53, 0), (54, 0), (6, 1), (60, 1), (61, 0), (61, 1), (62, 0), (62, 1), (63, 0), (63, 1), (64, 0), (64, 1), (8, 10), (8, 11), (8, 13), (8, 14), (8, 15), (8, 16), (8, 17), (8, 18), (8, 19), (8, 20)] W0 κ κ' ∧ LX W0 κ κ' (x.1.toInt) ∧ (((0 ≤ x.1.toInt) ∧ (x.1.toInt ≤ z7.toInt) ∧ ((sI κ'.1 bc 1).toInt ≤ (sI κ.1 bc 1).toInt + x.1.toInt) ∧ (0 ≤ (sI κ'.1 bc 1).toInt) ∧ ((sI κ'.1 t 1).toInt = 0))) ∧ sP κ'.1 bn2 2 = some bc ∧ sP κ'.1 t 0 = some bz4 ∧ sP κ'.1 h 0 = some t) (fun (x : Int32 × Int32) (κ' : CS) => (2147483647 - x.1.toInt).toNat) ⟨W, WLe.rf, hx, hV.dn (by (try dsimp only); omega), hfr, hlx.up (by (try dsimp only); omega), (by (try dsimp only); omega), ebc, pk2, pk1⟩ (fun x18 κ19 hJ K20 hK20 => ?_)
      obtain ⟨W, le52, hx, hV, hfr, hlx, hv⟩ := hJ
      have hs_h := WLe.at le52 hs_h (by decide)
      have wt := WLe.at le52 wt (by decide)
      have wl_bz4 := (le52 bz4 (by rw [hsz4]; decide)).2
      have hsz4 := WLe.at le52 hsz4 (by decide)
      have hsn2 := WLe.at le52 hsn2 (by decide)
      have wbc := WLe.at le52 wbc (by decide)
      (try dsimp only at hv)
      obtain ⟨hv, ek52_0, ek52_1, ek52_2⟩ := hv
      (try dsimp only at hv)
      have rg_x18_1 := i_range x18.1
      have rg_x18_2 := i_range x18.2
      refine jc_dup ?_
      refine ⟨fun c3 => ?_, fun c3 => ?_⟩
      · (try dsimp only)
        exact kk x18.2 W κ19 hx (hV.dn (by omega)) hfr (hlx.up (by omega)) (by omega)
      · refine ⟨bn2, ebn2, (hV.mm hsn2 (by decide) rfl), ?_⟩
        intro z27 ez27
        have vz27 := hV.1.iv hsn2 (by decide) rfl 0 0 1 rfl ez27
        have wz27 : z27.toInt = (sI κ19.1 bn2 0).toInt := by rw [ez27]
        refine ⟨fun c4 => ?_, fun c4 => ?_⟩
        · (try dsimp only)
          exact kk x18.2 W κ19 hx (hV.dn (by omega)) hfr (hlx.up (by omega)) (by omega)
        · refine ⟨bn2, ebn2, (hV.mm hsn2 (by decide) rfl), ?_⟩
          intro z28 ez28
          have ebz28 : z28 = some bc := ez28.trans ek52_0
          refine ⟨(hV.mm hs_h (by decide) rfl), ?_⟩
          intro z29 ez29
          have ebz29 : z29 = some t := ez29.trans ek52_2
          refine ⟨t, ebz29, (hV.mm wt (by decide) rfl), ?_⟩
          intro z30 ez30
          have ebz30 : z30 = some bz4 := ez30.trans ek52_1
          refine ⟨(sI κ19.1 bz4), (W.2 bz4), (BA.of hV ebz30 hsz4 (by decide) rfl rfl), (by omega), ?_⟩
          intro z31 ez31
          have vz31 : -128 ≤ z31.toInt ∧ z31.toInt ≤ 127 := by rw [ez31]; exact (fun i hi => (hV.1.el hsz4 (by decide) rfl i hi).1) _ (by omega)
          refine ⟨bc, ebz28, (hV.mm wbc (by decide) rfl), ?_⟩
          refine t64b_X6_add hV bc wbc z31 (by omega) (by omega) (fun W κ32 x1_ hV fκ32 lκ32 pu3 => ?_)
          have hV : CV G E W (c - ((59 * x18.1.toInt + 26 * (sI κ.1 bc 1).toInt - 26 * (sI κ19.1 bc 1).toInt) + 0)) κ32 := hV.dn (by omega)
          have hlx := hlx.tr hx.1 lκ32
          have tk3 : (sI κ32.1 bn2 8).toInt = (sI κ19.1 bn2 8).toInt := by rw [(fκ32.1 bn2 (by rw [hsn2]; decide) 8 (by rw [hsn2]; decide)).1]
          have tk4 : (sI κ32.1 t 1).toInt = (sI κ19.1 t 1).toInt := by rw [(fκ32.1 t (by rw [wt]; decide) 1 (by rw [wt]; decide)).1]
          have pk5 := (fκ32.1 bn2 (by rw [hsn2]; decide) 2 (by rw [hsn2]; decide)).2.2.trans ek52_0
          have pk6 := (fκ32.1 t (by rw [wt]; decide) 0 (by rw [wt]; decide)).2.2.trans ek52_1
          have pk7 := (fκ32.1 h (by rw [hs_h]; decide) 0 (by rw [hs_h]; decide)).2.2.trans ek52_2
          have hx2 := hx.tr x1_ hfr.sl
          have hfr := hfr.trW hx fκ32 (by decide)
          have hs_h := WLe.at (x1_).1 hs_h (by decide)
          have wt := WLe.at (x1_).1 wt (by decide)
          have wl_bz4 := ((x1_).1 bz4 (by rw [hsz4]; decide)).2
          have hsz4 := WLe.at (x1_).1 hsz4 (by decide)
          have hsn2 := WLe.at (x1_).1 hsn2 (by decide)
          have wbc := WLe.at (x1_).1 wbc (by decide)
          have le52 := WLe.tr le52 (x1_).1
          have hx := hx2
          refine ⟨bn2, ebn2, (hV.mm hsn2 (by decide) rfl), ?_⟩
          refine t_X2_frame hV bn2 hsn2  (fun z35 κ34 hV fκ34 pz35 => ?_)
          have tk8 : (sI κ34.1 bc 1).toInt = (sI κ32.1 bc 1).toInt := by rw [(fκ34.1 bc (by rw [wbc]; decide) 1 (by rw [wbc]; decide)).1]
          have tk9 : (sI κ34.1 bn2 8).toInt = (sI κ32.1 bn2 8).toInt := by rw [(fκ34.1 bn2 (by rw [hsn2]; decide) 8 (by rw [hsn2]; decide)).1]
          have tk10 : (sI κ34.1 t 1).toInt = (sI κ32.1 t 1).toInt := by rw [(fκ34.1 t (by rw [wt]; decide) 1 (by rw [wt]; decide)).1]
          have pk11 := (fκ34.1 bn2 (by rw [hsn2]; decide) 2 (by rw [hsn2]; decide)).2.2.trans pk5
          have pk12 := (fκ34.1 t (by rw [wt]; decide) 0 (by rw [wt]; decide)).2.2.trans pk6
          have pk13 := (fκ34.1 h (by rw [hs_h]; decide) 0 (by rw [hs_h]; decide)).2.2.trans pk7
          have hlx := hlx.fr hx.1 fκ34 (by decide)
          have hfr := hfr.trW hx fκ34 (by decide)
          have rg_z35 := i_range z35
          refine jc_dup ?_
          refine ⟨fun c5 => ?_, fun c5 => ?_⟩
          · refine ⟨fun c6 => ?_, fun c6 => ?_⟩
            · (try dsimp only)
              refine jc_dup ?_
              refine ⟨fun c7 => ?_, fun c7 => ?_⟩
              · (try dsimp only)
                intro z46 ez46
                try have hz46 := i_add ez46 (by omega) (by omega)
                have rg_z46 := i_range z46
                intro z47 ez47
                try have hz47 := i_add ez47 (by omega) (by omega)
                have rg_z47 := i_range z47
                exact hK20 (z47, z46) κ34 ⟨W, le52, hx, hV.dn (by (try dsimp only); omega), hfr, hlx.up (by (try dsimp only); omega), (by (try dsimp only); omega), pk11, pk12, pk13⟩ (by (try dsimp only); omega)
              · (try dsimp only)
                intro z46 ez46
                try have hz46 := i_add ez46 (by omega) (by omega)
                have rg_z46 := i_range z46
                intro z47 ez47
                try have hz47 := i_add ez47 (by omega) (by omega)
                have rg_z47 := i_range z47
                exact hK20 (z47, z46) κ34 ⟨W, le52, hx, hV.dn (by (try dsimp only); omega), hfr, hlx.up (by (try dsimp only); omega), (by (try dsimp only); omega), pk11, pk12, pk13⟩ (by (try dsimp only); omega)
            · refine ⟨(hV.mm hs_h (by decide) rfl), ?_⟩
              refine t_X11_beginMessage hV h hs_h z11 bn2 ebn2 hsn2  (by omega) (fun W κ48 x1_ hV fκ48 pu5 => ?_)
              have hV : CV G E W (c - (((59 * x18.1.toInt + 26 * (sI κ.1 bc 1).toInt - 26 * (sI κ19.1 bc 1).toInt) + 0) + 0)) κ48 := hV.dn (by omega)
              have tk14 : (sI κ48.1 bc 1).toInt = (sI κ34.1 bc 1).toInt := by rw [(fκ48.1 bc (by rw [wbc]; decide) 1 (by rw [wbc]; decide)).1]
              have tk15 : (sI κ48.1 t 1).toInt = (sI κ34.1 t 1).toInt := by rw [(fκ48.1 t (by rw [wt]; decide) 1 (by rw [wt]; decide)).1]
              have pk16 := (fκ48.1 bn2 (by rw [hsn2]; decide) 2 (by rw [hsn2]; decide)).2.2.trans pk11
              have pk17 := (fκ48.1 t (by rw [wt]; decide) 0 (by rw [wt]; decide)).2.2.trans pk12
              have pk18 := (fκ48.1 h (by rw [hs_h]; decide) 0 (by rw [hs_h]; decide)).2.2.trans pk13
              have hlx := hlx.fr hx.1 fκ48 (by decide)
              have hx2 := hx.tr x1_ hfr.sl
              have hfr := hfr.trW hx fκ48 (by decide)
              have hs_h := WLe.at (x1_).1 hs_h (by decide)
              have wt := WLe.at (x1_).1 wt (by decide)
              have wl_bz4 := ((x1_).1 bz4 (by rw [hsz4]; decide)).2
              have hsz4 := WLe.at (x1_).1 hsz4 (by decide)
              have hsn2 := WLe.at (x1_).1 hsn2 (by decide)
              have wbc := WLe.at (x1_).1 wbc (by decide)
              have le52 := WLe.tr le52 (x1_).1
              have hx := hx2
              obtain ⟨bm0, brp, erp, wrp, lrp⟩ := pu5
              refine lc_in (fun (x : Int32 × Int32) (κ' : CS) => ∃ W' : CW, WLe W W' ∧ WX W0 W' κ ∧ CV G E W' (c - (59 * x18.1.toInt + 26 * (sI κ.1 bc 1).toInt - 26 * (sI κ19.1 bc 1).toInt + 33 + 26 * (sI κ32.1 bc 1).toInt)) κ' ∧ CF [(1, 6), (10, 10), (10, 11), (10, 12), (10, 14), (10, 3), (10, 4), (10, 5), (10, 6), (10, 7), (10, 8), (10, 9), (11, 4), (12, 3), (13, 0), (13, 1), (13, 10), (13, 11), (13, 12), (13, 2), (13, 3), (13, 4), (13, 5), (13, 6), (13, 7), (13, 8), (13, 9), (20, 0), (21, 0), (3, 0), (3, 1), (3, 10), (3, 11), (3, 12), (3, 13), (3, 14), (3, 3), (3, 6), (3, 7), (3, 8), (3, 9), (30, 0), (31, 0), (32, 0), (33, 0), (4, 0), (4, 1), (4, 10), (4, 11), (4, 12), (4, 13), (4, 14), (4, 2), (4, 3), (4, 5), (4, 6), (4, 7), (4, 8), (4, 9), (40, 0), (40, 1), (40, 2), (41, 0), (41, 1), (41, 2), (42, 0), (42, 1), (42, 2), (43, 0), (43, 1), (43, 2), (44, 0), (44, 1), (44, 2), (5, 1), (5, 10), (5, 11), (5, 12), (5, 13), (5, 2), (5, 3), (5, 4), (5, 6), (5, 7), (5, 8), (5, 9), (50, 0), (51, 0), (52, 0), (53, 0), (54, 0), (6, 1), (60, 1), (61, 0), (61, 1), (62, 0), (62, 1), (63, 0), (63, 1), (64, 0), (64, 1), (8, 10), (8, 11), (8, 13), (8, 14), (8, 15), (8, 16), (8, 17), (8, 18), (8, 19), (8, 20)] W0 κ κ' ∧ LX W0 κ κ' ((x18.1.toInt + 1)) ∧ (((0 ≤ x.2.toInt ∧ x.2.toInt ≤ 1) ∧ (0 ≤ x.1.toInt) ∧ ((sI κ'.1 t 1).toInt = 0) ∧ ((sI κ'.1 bc 1).toInt = (sI κ32.1 bc 1).toInt) ∧ (x.2.toInt = 0 ∨ (64 * (sI κ'.1 brp 1).toInt ≤ 1207 * ((sI κ'.1 bn2 8).toInt - 4) ∧ 4 ≤ (sI κ'.1 bn2 8).toInt ∧ (sI κ'.1 bn2 8).toInt ≤ 4004 ∧ (sI κ'.1 bn2 8).toInt - 4 ≤ (sI κ32.1 bc 1).toInt)))) ∧ (x.2.toInt ≠ 0 → CV G E W' (c - (59 * x18.1.toInt + 26 * (sI κ.1 bc 1).toInt - 26 * (sI κ19.1 bc 1).toInt + 26 * ((sI κ'.1 bn2 8).toInt - 4))) κ') ∧ sP κ'.1 bn2 2 = some bc ∧ sP κ'.1 t 0 = some bz4 ∧ sP κ'.1 h 0 = some t ∧ sP κ'.1 h 14 = some brp) (fun (x : Int32 × Int32) (κ' : CS) => (2147483647 - x.1.toInt).toNat) ⟨W, WLe.rf, hx, hV.dn (by (try dsimp only); omega), hfr, hlx.up (by (try dsimp only); omega), (by (try dsimp only); omega), (fun _ => hV.dn (by (try dsimp only); omega)), pk16, pk17, pk18, erp⟩ (fun x50 κ51 hJ K52 hK52 => ?_)
              obtain ⟨W, le123, hx, hV, hfr, hlx, hv⟩ := hJ
              have hs_h := WLe.at le123 hs_h (by decide)
              have wt := WLe.at le123 wt (by decide)
              have wl_bz4 := (le123 bz4 (by rw [hsz4]; decide)).2
              have hsz4 := WLe.at le123 hsz4 (by decide)
              have hsn2 := WLe.at le123 hsn2 (by decide)
              have wbc := WLe.at le123 wbc (by decide)
              have wrp := WLe.at le123 wrp (by decide)
              have le52 := WLe.tr le52 le123
              (try dsimp only at hv)
              obtain ⟨hv, hmo, ek123_0, ek123_1, ek123_2, ek123_3⟩ := hv
              (try dsimp only at hv)
              have rg_x50_1 := i_range x50.1
              have rg_x50_2 := i_range x50.2
              refine jc_dup ?_
              refine ⟨fun c8 => ?_, fun c8 => ?_⟩
              · (try dsimp only)
                refine ⟨bn2, ebn2, (hV.mm hsn2 (by decide) rfl), ?_⟩
                intro z59 ez59
                have ebz59 : z59 = some bc := ez59.trans ek123_0
                refine ⟨bc, ebz59, (hV.mm wbc (by decide) rfl), ?_⟩
                have lv_κ60 : 0 ≤ (sI κ51.1 bc 1).toInt ∧ (sI κ51.1 bc 1).toInt ≤ 4004 := hV.1.iv wbc (by decide) rfl 1 0 4004 rfl rfl
                intro κ60 eκ60
                obtain ⟨rbκ60, reκ60, rsκ60⟩ := hV.1.nn wbc (by decide) rfl 0 rfl (by decide)
                have roκ60 := (hV.2.1 bc (by rw [wbc]; rfl) rbκ60 reκ60).1
                have hV := hV.uRL wbc rfl reκ60 (by show 0 ≤ (0 : Int32).toInt ∧ (0 : Int32).toInt ≤ 4004; omega) (by omega) eκ60
                have uκ60 : (sI κ60.1 bc 1).toInt = (0 : Int32).toInt := by rw [eκ60]; exact congrArg Int32.toInt u2_same
                have hlx := hlx.put (d := 0) (v := 0) eκ60 (by omega)
                have f1κ60 : CF [(64, 1)] W κ51 κ60 := CF.rf.uI (k := 1) wbc (by decide) (show ((64, 1) : Nat × Nat) ∈ ([(64, 1)] : List (Nat × Nat)) by simp) eκ60
                have tk19 : (sI κ60.1 bn2 8).toInt = (sI κ51.1 bn2 8).toInt := by rw [(f1κ60.1 bn2 (by rw [hsn2]; decide) 8 (by rw [hsn2]; decide)).1]
                have tk20 : (sI κ60.1 brp 1).toInt = (sI κ51.1 brp 1).toInt := by rw [(f1κ60.1 brp (by rw [wrp]; decide) 1 (by rw [wrp]; decide)).1]
                have tk21 : (sI κ60.1 t 1).toInt = (sI κ51.1 t 1).toInt := by rw [(f1κ60.1 t (by rw [wt]; decide) 1 (by rw [wt]; decide)).1]
                have pk22 := (f1κ60.1 bn2 (by rw [hsn2]; decide) 2 (by rw [hsn2]; decide)).2.2.trans ek123_0
                have pk23 := (f1κ60.1 t (by rw [wt]; decide) 0 (by rw [wt]; decide)).2.2.trans ek123_1
                have pk24 := (f1κ60.1 h (by rw [hs_h]; decide) 0 (by rw [hs_h]; decide)).2.2.trans ek123_2
                have pk25 := (f1κ60.1 h (by rw [hs_h]; decide) 14 (by rw [hs_h]; decide)).2.2.trans ek123_3
                have hfr := hfr.trW hx f1κ60 (by decide)
                refine ⟨(hV.mm hs_h (by decide) rfl), ?_⟩
                intro z61 ez61
                have ebz61 : z61 = some brp := ez61.trans pk25
                refine ⟨bn2, ebn2, (hV.mm hsn2 (by decide) rfl), ?_⟩
                refine t62_X2_post hV bn2 hsn2 z61 brp ebz61 wrp  (by omega) (fun W κ62 x1_ hV fκ62 pu6 => ?_)
                have hV : CV G E W (c - ((59 * x18.1.toInt + 26 * (sI κ.1 bc 1).toInt - 26 * (sI κ19.1 bc 1).toInt + 33 + 26 * (sI κ32.1 bc 1).toInt) + 0)) κ62 := hV.dn (by omega)
                have tk26 : (sI κ62.1 bc 1).toInt = (sI κ60.1 bc 1).toInt := by rw [(fκ62.1 bc (by rw [wbc]; decide) 1 (by rw [wbc]; decide)).1]
                have tk27 : (sI κ62.1 bn2 8).toInt = (sI κ60.1 bn2 8).toInt := by rw [(fκ62.1 bn2 (by rw [hsn2]; decide) 8 (by rw [hsn2]; decide)).1]
                have tk28 : (sI κ62.1 brp 1).toInt = (sI κ60.1 brp 1).toInt := by rw [(fκ62.1 brp (by rw [wrp]; decide) 1 (by rw [wrp]; decide)).1]
                have tk29 : (sI κ62.1 t 1).toInt = (sI κ60.1 t 1).toInt := by rw [(fκ62.1 t (by rw [wt]; decide) 1 (by rw [wt]; decide)).1]
                have pk30 := (fκ62.1 bn2 (by rw [hsn2]; decide) 2 (by rw [hsn2]; decide)).2.2.trans pk22
                have pk31 := (fκ62.1 t (by rw [wt]; decide) 0 (by rw [wt]; decide)).2.2.trans pk23
                have pk32 := (fκ62.1 h (by rw [hs_h]; decide) 0 (by rw [hs_h]; decide)).2.2.trans pk24
                have pk33 := (fκ62.1 h (by rw [hs_h]; decide) 14 (by rw [hs_h]; decide)).2.2.trans pk25
                have hlx := hlx.fr hx.1 fκ62 (by decide)
                have hx2 := hx.tr x1_ hfr.sl
                have hfr := hfr.trW hx fκ62 (by decide)
                have hs_h := WLe.at (x1_).1 hs_h (by decide)
                have wt := WLe.at (x1_).1 wt (by decide)
                have wl_bz4 := ((x1_).1 bz4 (by rw [hsz4]; decide)).2
                have hsz4 := WLe.at (x1_).1 hsz4 (by decide)
                have hsn2 := WLe.at (x1_).1 hsn2 (by decide)
                have wbc := WLe.at (x1_).1 wbc (by decide)
                have wrp := WLe.at (x1_).1 wrp (by decide)
                have le52 := WLe.tr le52 (x1_).1
                have le123 := WLe.tr le123 (x1_).1
                have hx := hx2
                (try dsimp only)
                refine jc_dup ?_
                refine ⟨fun c9 => ?_, fun c9 => ?_⟩
                · (try dsimp only)
                  intro z46 ez46
                  try have hz46 := i_add ez46 (by omega) (by omega)
                  have rg_z46 := i_range z46
                  intro z47 ez47
                  try have hz47 := i_add ez47 (by omega) (by omega)
                  have rg_z47 := i_range z47
                  exact hK20 (z47, z46) κ62 ⟨W, le52, hx, hV.dn (by (try dsimp only); omega), hfr, hlx.up (by (try dsimp only); omega), (by (try dsimp only); omega), pk30, pk31, pk32⟩ (by (try dsimp only); omega)
                · (try dsimp only)
                  intro z46 ez46
                  try have hz46 := i_add ez46 (by omega) (by omega)
                  have rg_z46 := i_range z46
                  intro z47 ez47
                  try have hz47 := i_add ez47 (by omega) (by omega)
                  have rg_z47 := i_range z47
                  exact hK20 (z47, z46) κ62 ⟨W, le52, hx, hV.dn (by (try dsimp only); omega), hfr, hlx.up (by (try dsimp only); omega), (by (try dsimp only); omega), pk30, pk31, pk32⟩ (by (try dsimp only); omega)
              · refine ⟨fun c10 => ?_, fun c10 => ?_⟩
                · (try dsimp only)
                  refine ⟨bn2, ebn2, (hV.mm hsn2 (by decide) rfl), ?_⟩
                  intro z59 ez59
                  have ebz59 : z59 = some bc := ez59.trans ek123_0
                  refine ⟨bc, ebz59, (hV.mm wbc (by decide) rfl), ?_⟩
                  have lv_κ60 : 0 ≤ (sI κ51.1 bc 1).toInt ∧ (sI κ51.1 bc 1).toInt ≤ 4004 := hV.1.iv wbc (by decide) rfl 1 0 4004 rfl rfl
                  intro κ60 eκ60
                  obtain ⟨rbκ60, reκ60, rsκ60⟩ := hV.1.nn wbc (by decide) rfl 0 rfl (by decide)
                  have roκ60 := (hV.2.1 bc (by rw [wbc]; rfl) rbκ60 reκ60).1
                  have hV := hV.uRL wbc rfl reκ60 (by show 0 ≤ (0 : Int32).toInt ∧ (0 : Int32).toInt ≤ 4004; omega) (by omega) eκ60
                  have uκ60 : (sI κ60.1 bc 1).toInt = (0 : Int32).toInt := by rw [eκ60]; exact congrArg Int32.toInt u2_same
                  have hlx := hlx.put (d := 0) (v := 0) eκ60 (by omega)
                  have f1κ60 : CF [(64, 1)] W κ51 κ60 := CF.rf.uI (k := 1) wbc (by decide) (show ((64, 1) : Nat × Nat) ∈ ([(64, 1)] : List (Nat × Nat)) by simp) eκ60
                  have tk34 : (sI κ60.1 bn2 8).toInt = (sI κ51.1 bn2 8).toInt := by rw [(f1κ60.1 bn2 (by rw [hsn2]; decide) 8 (by rw [hsn2]; decide)).1]
                  have tk35 : (sI κ60.1 brp 1).toInt = (sI κ51.1 brp 1).toInt := by rw [(f1κ60.1 brp (by rw [wrp]; decide) 1 (by rw [wrp]; decide)).1]
                  have tk36 : (sI κ60.1 t 1).toInt = (sI κ51.1 t 1).toInt := by rw [(f1κ60.1 t (by rw [wt]; decide) 1 (by rw [wt]; decide)).1]
                  have pk37 := (f1κ60.1 bn2 (by rw [hsn2]; decide) 2 (by rw [hsn2]; decide)).2.2.trans ek123_0
                  have pk38 := (f1κ60.1 t (by rw [wt]; decide) 0 (by rw [wt]; decide)).2.2.trans ek123_1
                  have pk39 := (f1κ60.1 h (by rw [hs_h]; decide) 0 (by rw [hs_h]; decide)).2.2.trans ek123_2
                  have pk40 := (f1κ60.1 h (by rw [hs_h]; decide) 14 (by rw [hs_h]; decide)).2.2.trans ek123_3
                  have hfr := hfr.trW hx f1κ60 (by decide)
                  refine ⟨(hV.mm hs_h (by decide) rfl), ?_⟩
                  intro z61 ez61
                  have ebz61 : z61 = some brp := ez61.trans pk40
                  refine ⟨bn2, ebn2, (hV.mm hsn2 (by decide) rfl), ?_⟩
                  refine t62_X2_post hV bn2 hsn2 z61 brp ebz61 wrp  (by omega) (fun W κ62 x1_ hV fκ62 pu7 => ?_)
                  have hV : CV G E W (c - ((59 * x18.1.toInt + 26 * (sI κ.1 bc 1).toInt - 26 * (sI κ19.1 bc 1).toInt + 33 + 26 * (sI κ32.1 bc 1).toInt) + 0)) κ62 := hV.dn (by omega)
                  have tk41 : (sI κ62.1 bc 1).toInt = (sI κ60.1 bc 1).toInt := by rw [(fκ62.1 bc (by rw [wbc]; decide) 1 (by rw [wbc]; decide)).1]
                  have tk42 : (sI κ62.1 bn2 8).toInt = (sI κ60.1 bn2 8).toInt := by rw [(fκ62.1 bn2 (by rw [hsn2]; decide) 8 (by rw [hsn2]; decide)).1]
                  have tk43 : (sI κ62.1 brp 1).toInt = (sI κ60.1 brp 1).toInt := by rw [(fκ62.1 brp (by rw [wrp]; decide) 1 (by rw [wrp]; decide)).1]
                  have tk44 : (sI κ62.1 t 1).toInt = (sI κ60.1 t 1).toInt := by rw [(fκ62.1 t (by rw [wt]; decide) 1 (by rw [wt]; decide)).1]
                  have pk45 := (fκ62.1 bn2 (by rw [hsn2]; decide) 2 (by rw [hsn2]; decide)).2.2.trans pk37
                  have pk46 := (fκ62.1 t (by rw [wt]; decide) 0 (by rw [wt]; decide)).2.2.trans pk38
                  have pk47 := (fκ62.1 h (by rw [hs_h]; decide) 0 (by rw [hs_h]; decide)).2.2.trans pk39
                  have pk48 := (fκ62.1 h (by rw [hs_h]; decide) 14 (by rw [hs_h]; decide)).2.2.trans pk40
                  have hlx := hlx.fr hx.1 fκ62 (by decide)
                  have hx2 := hx.tr x1_ hfr.sl
                  have hfr := hfr.trW hx fκ62 (by decide)
                  have hs_h := WLe.at (x1_).1 hs_h (by decide)
                  have wt := WLe.at (x1_).1 wt (by decide)
                  have wl_bz4 := ((x1_).1 bz4 (by rw [hsz4]; decide)).2
                  have hsz4 := WLe.at (x1_).1 hsz4 (by decide)
                  have hsn2 := WLe.at (x1_).1 hsn2 (by decide)
                  have wbc := WLe.at (x1_).1 wbc (by decide)
                  have wrp := WLe.at (x1_).1 wrp (by decide)
                  have le52 := WLe.tr le52 (x1_).1
                  have le123 := WLe.tr le123 (x1_).1
                  have hx := hx2
                  (try dsimp only)
                  refine jc_dup ?_
                  refine ⟨fun c11 => ?_, fun c11 => ?_⟩
                  · (try dsimp only)
                    intro z46 ez46
                    try have hz46 := i_add ez46 (by omega) (by omega)
                    have rg_z46 := i_range z46
                    intro z47 ez47
                    try have hz47 := i_add ez47 (by omega) (by omega)
                    have rg_z47 := i_range z47
                    exact hK20 (z47, z46) κ62 ⟨W, le52, hx, hV.dn (by (try dsimp only); omega), hfr, hlx.up (by (try dsimp only); omega), (by (try dsimp only); omega), pk45, pk46, pk47⟩ (by (try dsimp only); omega)
                  · (try dsimp only)
                    intro z46 ez46
                    try have hz46 := i_add ez46 (by omega) (by omega)
                    have rg_z46 := i_range z46
                    intro z47 ez47
                    try have hz47 := i_add ez47 (by omega) (by omega)
                    have rg_z47 := i_range z47
                    exact hK20 (z47, z46) κ62 ⟨W, le52, hx, hV.dn (by (try dsimp only); omega), hfr, hlx.up (by (try dsimp only); omega), (by (try dsimp only); omega), pk45, pk46, pk47⟩ (by (try dsimp only); omega)
                · have hV : CV G E W (c - (59 * x18.1.toInt + 26 * (sI κ.1 bc 1).toInt - 26 * (sI κ19.1 bc 1).toInt + 26 * ((sI κ51.1 bn2 8).toInt - 4))) κ51 := hmo (by omega)
                  have erp0 := ek123_3
                  have ebc0 := ek123_0
                  refine ⟨(hV.mm hs_h (by decide) rfl), ?_⟩
                  refine t_X11_request hV h hs_h z11 bn2 ebn2 hsn2 ⟨brp, ek123_3, wrp, (by omega)⟩ ⟨bc, ek123_0, wbc, trivial⟩ (by omega) (by omega) (fun z65 W κ64 x1_ hV fκ64 pz65 => ?_)
                  have hV : CV G E W (c - ((59 * x18.1.toInt + 26 * (sI κ.1 bc 1).toInt - 26 * (sI κ19.1 bc 1).toInt + 26 * ((sI κ51.1 bn2 8).toInt - 4)) + 1664)) κ64 := hV.dn (by omega)
                  have tk49 : (sI κ64.1 bc 1).toInt = (sI κ51.1 bc 1).toInt := by rw [(fκ64.1 bc (by rw [wbc]; decide) 1 (by rw [wbc]; decide)).1]
                  have tk50 : (sI κ64.1 t 1).toInt = (sI κ51.1 t 1).toInt := by rw [(fκ64.1 t (by rw [wt]; decide) 1 (by rw [wt]; decide)).1]
                  have pk51 := (fκ64.1 bn2 (by rw [hsn2]; decide) 2 (by rw [hsn2]; decide)).2.2.trans ek123_0
                  have pk52 := (fκ64.1 t (by rw [wt]; decide) 0 (by rw [wt]; decide)).2.2.trans ek123_1
                  have pk53 := (fκ64.1 h (by rw [hs_h]; decide) 0 (by rw [hs_h]; decide)).2.2.trans ek123_2
                  have pk54 := (fκ64.1 h (by rw [hs_h]; decide) 14 (by rw [hs_h]; decide)).2.2.trans ek123_3
                  have hlx := hlx.fr hx.1 fκ64 (by decide)
                  have hx2 := hx.tr x1_ hfr.sl
                  have hfr := hfr.trW hx fκ64 (by decide)
                  have hs_h := WLe.at (x1_).1 hs_h (by decide)
                  have wt := WLe.at (x1_).1 wt (by decide)
                  have wl_bz4 := ((x1_).1 bz4 (by rw [hsz4]; decide)).2
                  have hsz4 := WLe.at (x1_).1 hsz4 (by decide)
                  have hsn2 := WLe.at (x1_).1 hsn2 (by decide)
                  have wbc := WLe.at (x1_).1 wbc (by decide)
                  have wrp := WLe.at (x1_).1 wrp (by decide)
                  have le52 := WLe.tr le52 (x1_).1
                  have le123 := WLe.tr le123 (x1_).1
                  have hx := hx2
                  have rg_z65 := i_range z65
                  have hVs := hV
                  obtain ⟨rq0, rq1, rq2⟩ := pz65
                  have rq1 := rq1 brp erp0
                  have rqq : z65.toInt ≠ 0 → (sI κ51.1 bn2 8).toInt + 64 ≤ (sI κ64.1 bn2 8).toInt ∧ (sI κ64.1 bn2 8).toInt + 64 ≤ (sI κ51.1 bc 1).toInt := fun q => by
                    rcases rq2 with g | g
                    · exact absurd g.1 q
                    · exact (g bc ebc0).2 q
                  have hV : CV G E W (c - (59 * x18.1.toInt + 26 * (sI κ.1 bc 1).toInt - 26 * (sI κ19.1 bc 1).toInt + 33 + 26 * (sI κ32.1 bc 1).toInt)) κ64 := by
                    rcases rq2 with g | g
                    · exact g.2.dn (by omega)
                    · have g1 := (g bc ebc0).1
                      exact hVs.dn (by omega)
                  intro z66 ez66
                  try have hz66 := i_add ez66 (by omega) (by omega)
                  have rg_z66 := i_range z66
                  exact hK52 (z66, z65) κ64 ⟨W, le123, hx, hV.dn (by (try dsimp only); omega), hfr, hlx.up (by (try dsimp only); omega), (by (try dsimp only); omega), (fun q => by have q2 := rqq q; exact hVs.dn (by (try dsimp only); omega)), pk51, pk52, pk53, pk54⟩ (by (try dsimp only); omega)
          · refine ⟨(hV.mm hs_h (by decide) rfl), ?_⟩
            refine t_X11_shutOff hV h hs_h z11 bn2 ebn2 hsn2  (fun κ67 hV fκ67 pu9 => ?_)
            have tk55 : (sI κ67.1 bc 1).toInt = (sI κ34.1 bc 1).toInt := by rw [(fκ67.1 bc (by rw [wbc]; decide) 1 (by rw [wbc]; decide)).1]
            have tk56 : (sI κ67.1 bn2 8).toInt = (sI κ34.1 bn2 8).toInt := by rw [(fκ67.1 bn2 (by rw [hsn2]; decide) 8 (by rw [hsn2]; decide)).1]
            have tk57 : (sI κ67.1 t 1).toInt = (sI κ34.1 t 1).toInt := by rw [(fκ67.1 t (by rw [wt]; decide) 1 (by rw [wt]; decide)).1]
            have pk58 := (fκ67.1 bn2 (by rw [hsn2]; decide) 2 (by rw [hsn2]; decide)).2.2.trans pk11
            have pk59 := (fκ67.1 t (by rw [wt]; decide) 0 (by rw [wt]; decide)).2.2.trans pk12
            have pk60 := (fκ67.1 h (by rw [hs_h]; decide) 0 (by rw [hs_h]; decide)).2.2.trans pk13
            have hlx := hlx.fr hx.1 fκ67 (by decide)
            have hfr := hfr.trW hx fκ67 (by decide)
            refine ⟨(hV.mm hs_h (by decide) rfl), ?_⟩
            refine t_X11_settle hV h hs_h  (by omega) (fun W κ69 x1_ hV fκ69 pu10 => ?_)
            have hV : CV G E W (c - (((59 * x18.1.toInt + 26 * (sI κ.1 bc 1).toInt - 26 * (sI κ19.1 bc 1).toInt) + 0) + 0)) κ69 := hV.dn (by omega)
            have tk61 : (sI κ69.1 bc 1).toInt = (sI κ67.1 bc 1).toInt := by rw [(fκ69.1 bc (by rw [wbc]; decide) 1 (by rw [wbc]; decide)).1]
            have tk62 : (sI κ69.1 bn2 8).toInt = (sI κ67.1 bn2 8).toInt := by rw [(fκ69.1 bn2 (by rw [hsn2]; decide) 8 (by rw [hsn2]; decide)).1]
            have tk63 : (sI κ69.1 t 1).toInt = (sI κ67.1 t 1).toInt := by rw [(fκ69.1 t (by rw [wt]; decide) 1 (by rw [wt]; decide)).1]
            have pk64 := (fκ69.1 bn2 (by rw [hsn2]; decide) 2 (by rw [hsn2]; decide)).2.2.trans pk58
            have pk65 := (fκ69.1 t (by rw [wt]; decide) 0 (by rw [wt]; decide)).2.2.trans pk59
            have pk66 := (fκ69.1 h (by rw [hs_h]; decide) 0 (by rw [hs_h]; decide)).2.2.trans pk60
            have hlx := hlx.fr hx.1 fκ69 (by decide)
            have hx2 := hx.tr x1_ hfr.sl
            have hfr := hfr.trW hx fκ69 (by decide)
            have hs_h := WLe.at (x1_).1 hs_h (by decide)
            have wt := WLe.at (x1_).1 wt (by decide)
            have wl_bz4 := ((x1_).1 bz4 (by rw [hsz4]; decide)).2
            have hsz4 := WLe.at (x1_).1 hsz4 (by decide)
            have hsn2 := WLe.at (x1_).1 hsn2 (by decide)
            have wbc := WLe.at (x1_).1 wbc (by decide)
            have le52 := WLe.tr le52 (x1_).1
            have hx := hx2
            (try dsimp only)
            refine jc_dup ?_
            refine ⟨fun c12 => ?_, fun c12 => ?_⟩
            · (try dsimp only)
              intro z46 ez46
              try have hz46 := i_add ez46 (by omega) (by omega)
              have rg_z46 := i_range z46
              intro z47 ez47
              try have hz47 := i_add ez47 (by omega) (by omega)
              have rg_z47 := i_range z47
              exact hK20 (z47, z46) κ69 ⟨W, le52, hx, hV.dn (by (try dsimp only); omega), hfr, hlx.up (by (try dsimp only); omega), (by (try dsimp only); omega), pk64, pk65, pk66⟩ (by (try dsimp only); omega)
            · (try dsimp only)
              intro z46 ez46
              try have hz46 := i_add ez46 (by omega) (by omega)
              have rg_z46 := i_range z46
              intro z47 ez47
              try have hz47 := i_add ez47 (by omega) (by omega)
              have rg_z47 := i_range z47
              exact hK20 (z47, z46) κ69 ⟨W, le52, hx, hV.dn (by (try dsimp only); omega), hfr, hlx.up (by (try dsimp only); omega), (by (try dsimp only); omega), pk64, pk65, pk66⟩ (by (try dsimp only); omega)
    · (try dsimp only)
      exact kk (-1) W κ9 hx (hV.dn (by omega)) hfr (hlx.up (by omega)) (by omega)

/-! the class: what changes cells that are there, and lists lose -/
set_option maxRecDepth 100000 in
set_option maxHeartbeats 4000000 in
theorem t_J7_fill_eb02e {G : GE} {E : CE} {W : CW} {c : Int} {κ : CS} (hV : CV G E W c κ) (a0 : Option Nat) (b_a0 : Nat) (e_a0 : a0 = some b_a0) (hs_a0 : W.1 b_a0 = 20) (a1 : Int32) (a2 : Int32) (a3 : Int32) (hz : 0 ≤ a1.toInt ∧ a1.toInt ≤ a2.toInt ∧ a2.toInt ≤ W.2 b_a0) {post : CS → Prop} (kk : ∀ (κ' : CS), CV G E W c κ' → CF [(20, 0)] W κ κ' → (True) → post κ') : F_J7_fill_eb02e G a0 a1 a2 a3 post κ := by
  unfold F_J7_fill_eb02e
  have hfr : CF [(20, 0)] W κ κ := CF.rf
  have k_0 : (0 : Int32).toInt = 0 := rfl
  have k_1 : (1 : Int32).toInt = 1 := rfl
  have kl_1 : (1 : Int64).toInt = 1 := rfl
  have rg_a1 := i_range a1
  have rg_a2 := i_range a2
  have rg_a3 := i_range a3
  refine ⟨(W.2 b_a0), (AL.of hV e_a0 hs_a0 (by decide) rfl (by decide)), ?_⟩
  intro z1 ez1
  have lnz1 := nI_ln ez1 (hV.lm hs_a0 (by decide) rfl)
  have lmz1 := (hV.lm hs_a0 (by decide) rfl)
  refine t_J7_rangeCheck_23922 hV z1 a1 a2 (by omega) (fun pu1 => ?_)
  refine lc_in (fun (x : Int32) (κ' : CS) => CV G E W c κ' ∧ CF [(20, 0)] W κ κ' ∧ (((a1.toInt ≤ x.toInt) ∧ (x.toInt ≤ a2.toInt)))) (fun (x : Int32) (κ' : CS) => (2147483647 - x.toInt).toNat) ⟨hV, hfr, (by (try dsimp only); omega)⟩ (fun x4 κ5 hJ K6 hK6 => ?_)
  obtain ⟨hV, hfr, hv⟩ := hJ
  (try dsimp only at hv)
  have rg_x4 := i_range x4
  refine ⟨fun c1 => ?_, fun c1 => ?_⟩
  · exact kk κ5 hV hfr trivial
  · have ln_ := hV.ln hs_a0 (by decide) rfl
    refine ⟨b_a0, e_a0, (hV.mm hs_a0 (by decide) rfl), by omega, ?_⟩
    intro κ8 eκ8
    have hV := hV.uI (k := x4.toInt.toNat) (v := (vp_nar .byte a3)) hs_a0 (Or.inl rfl) (Or.inl (by decide)) (Or.inl (by decide)) (fun _ => (i_byte _)) eκ8
    have hfr := hfr.uI (k := x4.toInt.toNat) hs_a0 (by decide) (show ((20, 0) : Nat × Nat) ∈ ([(20, 0)] : List (Nat × Nat)) by decide) eκ8
    intro z9 ez9
    try have hz9 := i_add ez9 (by omega) (by omega)
    have rg_z9 := i_range z9
    exact hK6 z9 κ8 ⟨hV, hfr, (by (try dsimp only); omega)⟩ (by (try dsimp only); omega)
set_option maxRecDepth 100000 in
set_option maxHeartbeats 4000000 in
theorem t_J7_fill_d0a16 {G : GE} {E : CE} {W : CW} {c : Int} {κ : CS} (hV : CV G E W c κ) (a0 : Option Nat) (b_a0 : Nat) (e_a0 : a0 = some b_a0) (hs_a0 : W.1 b_a0 = 33) (a1 : Int64)  {post : CS → Prop} (kk : ∀ (κ' : CS), CV G E W c κ' → CF [(33, 0)] W κ κ' → (True) → post κ') : F_J7_fill_d0a16 G a0 a1 post κ := by
  unfold F_J7_fill_d0a16
  have hfr : CF [(33, 0)] W κ κ := CF.rf
  have k_0 : (0 : Int32).toInt = 0 := rfl
  have k_1 : (1 : Int32).toInt = 1 := rfl
  have kl_1 : (1 : Int64).toInt = 1 := rfl
  have rg_a1 := l_range a1
  refine ⟨(W.2 b_a0), (AL.of hV e_a0 hs_a0 (by decide) rfl (by decide)), ?_⟩
  intro z1 ez1
  have lnz1 := nI_ln ez1 (hV.lm hs_a0 (by decide) rfl)
  have lmz1 := (hV.lm hs_a0 (by decide) rfl)
  have lxz1 := hV.1.fx hs_a0 (by decide) rfl 4 rfl (by decide)
  refine lc_in (fun (x : Int32) (κ' : CS) => CV G E W c κ' ∧ CF [(33, 0)] W κ κ' ∧ (((0 ≤ x.toInt)))) (fun (x : Int32) (κ' : CS) => (2147483647 - x.toInt).toNat) ⟨hV, hfr, (by (try dsimp only); omega)⟩ (fun x2 κ3 hJ K4 hK4 => ?_)
  obtain ⟨hV, hfr, hv⟩ := hJ
  (try dsimp only at hv)
  have rg_x2 := i_range x2
  refine ⟨fun c1 => ?_, fun c1 => ?_⟩
  · exact kk κ3 hV hfr trivial
  · have ln_ := hV.ln hs_a0 (by decide) rfl
    have lx_ := hV.1.fx hs_a0 (by decide) rfl 4 rfl (by decide)
    refine ⟨b_a0, e_a0, (hV.mm hs_a0 (by decide) rfl), by omega, ?_⟩
    intro κ6 eκ6
    have hV := hV.uJ eκ6
    have hfr := hfr.uJ (k := x2.toInt.toNat) hs_a0 (by decide) (show ((33, 0) : Nat × Nat) ∈ ([(33, 0)] : List (Nat × Nat)) by decide) eκ6
    intro z7 ez7
    try have hz7 := i_add ez7 (by omega) (by omega)
    have rg_z7 := i_range z7
    exact hK4 z7 κ6 ⟨hV, hfr, (by (try dsimp only); omega)⟩ (by (try dsimp only); omega)
set_option maxRecDepth 100000 in
set_option maxHeartbeats 4000000 in
theorem t_X2_frame {G : GE} {E : CE} {W : CW} {c : Int} {κ : CS} (hV : CV G E W c κ) (h : Nat) (hs_h : W.1 h = 3)  {post : Int32 → CS → Prop} (kk : ∀ (r : Int32) (κ' : CS), CV G E W c κ' → CF [(3, 3)] W κ κ' → (True) → post r κ') : F_X2_frame G h post κ := by
  unfold F_X2_frame
  have hfr : CF [(3, 3)] W κ κ := CF.rf
  have k_0 : (0 : Int32).toInt = 0 := rfl
  have k_1 : (1 : Int32).toInt = 1 := rfl
  have k_2 : (2 : Int32).toInt = 2 := rfl
  have k_3 : (3 : Int32).toInt = 3 := rfl
  have k_4 : (4 : Int32).toInt = 4 := rfl
  have k_8 : (8 : Int32).toInt = 8 := rfl
  have k_16 : (16 : Int32).toInt = 16 := rfl
  have kl_0 : (0 : Int64).toInt = 0 := rfl
  have kl_1 : (1 : Int64).toInt = 1 := rfl
  have kl_2 : (2 : Int64).toInt = 2 := rfl
  have kl_3 : (3 : Int64).toInt = 3 := rfl
  have kl_4 : (4 : Int64).toInt = 4 := rfl
  have kl_8 : (8 : Int64).toInt = 8 := rfl
  have kl_16 : (16 : Int64).toInt = 16 := rfl
  have kl_64 : (64 : Int64).toInt = 64 := rfl
  have kl_4000 : (4000 : Int64).toInt = 4000 := rfl
  refine ⟨(hV.mm hs_h (by decide) rfl), ?_⟩
  intro z1 ez1
  obtain ⟨bz1, ebz1, hsz1⟩ := hV.1.nn hs_h (by decide) rfl 2 rfl (by decide)
  have ebz1 := ez1.trans ebz1
  refine ⟨bz1, ebz1, (hV.mm hsz1 (by decide) rfl), ?_⟩
  intro z2 ez2
  have vz2 := hV.1.iv hsz1 (by decide) rfl 1 0 4004 rfl ez2
  have wz2 : z2.toInt = (sI κ.1 bz1 1).toInt := by rw [ez2]
  refine jc_in (fun (x : Unit) (κ' : CS) => CV G E W c κ' ∧ CF [(3, 3)] W κ κ' ∧ ((True))) (fun x3 κ4 hJ => ?_) (fun K5 hK5 => ?_)
  · obtain ⟨hV, hfr, hv⟩ := hJ
    (try dsimp only at hv)
    refine ⟨(hV.mm hs_h (by decide) rfl), ?_⟩
    intro z8 ez8
    have ebz8 : z8 = some bz1 := (ez8.trans (hfr.1 h (by rw [hs_h]; decide) 2 (by rw [hs_h]; decide)).2.2).trans (ez1.symm.trans ebz1)
    refine ⟨bz1, ebz8, (hV.mm hsz1 (by decide) rfl), ?_⟩
    intro z9 ez9
    have vz9 := hV.1.iv hsz1 (by decide) rfl 1 0 4004 rfl ez9
    have wz9 : z9.toInt = (sI κ4.1 bz1 1).toInt := by rw [ez9]
    have w0z9 : z9.toInt = (sI κ.1 bz1 1).toInt := by rw [ez9, (hfr.1 bz1 (by rw [hsz1]; decide) 1 (by rw [hsz1]; decide)).1]
    refine jc_dup ?_
    refine jc_dup ?_
    refine ⟨fun c1 => ?_, fun c1 => ?_⟩
    · (try dsimp only)
      (try dsimp only)
      exact kk 0 κ4 hV hfr trivial
    · refine ⟨(hV.mm hs_h (by decide) rfl), ?_⟩
      intro z20 ez20
      have ebz20 : z20 = some bz1 := (ez20.trans (hfr.1 h (by rw [hs_h]; decide) 2 (by rw [hs_h]; decide)).2.2).trans (ez1.symm.trans ebz1)
      refine ⟨bz1, ebz20, (hV.mm hsz1 (by decide) rfl), ?_⟩
      intro z21 ez21
      have vz21 := hV.1.iv hsz1 (by decide) rfl 1 0 4004 rfl ez21
      have wz21 : z21.toInt = (sI κ4.1 bz1 1).toInt := by rw [ez21]
      have w0z21 : z21.toInt = (sI κ.1 bz1 1).toInt := by rw [ez21, (hfr.1 bz1 (by rw [hsz1]; decide) 1 (by rw [hsz1]; decide)).1]
      intro z22 ez22
      have hz22 := i_tol ez22
      have rg_z22 := l_range z22
      refine ⟨(hV.mm hs_h (by decide) rfl), ?_⟩
      intro z23 ez23
      have vz23 := l_range z23
      have wz23 : z23.toInt = (sJ κ4.1 h 3).toInt := by rw [ez23]
      intro z24 ez24
      try have hz24 := l_add ez24 (by omega) (by omega)
      have rg_z24 := l_range z24
      refine ⟨fun c2 => ?_, fun c2 => ?_⟩
      · (try dsimp only)
        exact kk 1 κ4 hV hfr trivial
      · (try dsimp only)
        (try dsimp only)
        exact kk 0 κ4 hV hfr trivial
  · skip
    refine ⟨fun c3 => ?_, fun c3 => ?_⟩
    · exact hK5 () κ ⟨hV, hfr, trivial⟩
    · refine ⟨(hV.mm hs_h (by decide) rfl), ?_⟩
      intro z25 ez25
      have ebz25 : z25 = some bz1 := (ez25.trans ez1.symm).trans ebz1
      refine ⟨bz1, ebz25, (hV.mm hsz1 (by decide) rfl), ?_⟩
      refine t_X6_number hV bz1 hsz1 (by rfl) 1 1  (fun z27 pz27 => ?_)
      have rg_z27 := l_range z27
      intro z28 ez28
      have rg_z28 := l_range z28
      refine ⟨(hV.mm hs_h (by decide) rfl), ?_⟩
      intro z29 ez29
      have ebz29 : z29 = some bz1 := (ez29.trans ez1.symm).trans ebz1
      refine ⟨bz1, ebz29, (hV.mm hsz1 (by decide) rfl), ?_⟩
      refine t_X6_number hV bz1 hsz1 (by rfl) 2 1  (fun z31 pz31 => ?_)
      have rg_z31 := l_range z31
      intro z32 ez32
      have rg_z32 := l_range z32
      intro z33 ez33
      have rg_z33 := l_range z33
      refine ⟨(hV.mm hs_h (by decide) rfl), ?_⟩
      intro z34 ez34
      have ebz34 : z34 = some bz1 := (ez34.trans ez1.symm).trans ebz1
      refine ⟨bz1, ebz34, (hV.mm hsz1 (by decide) rfl), ?_⟩
      refine t_X6_number hV bz1 hsz1 (by rfl) 3 1  (fun z36 pz36 => ?_)
      have rg_z36 := l_range z36
      intro z37 ez37
      have rg_z37 := l_range z37
      refine ⟨(hV.mm hs_h (by decide) rfl), ?_⟩
      intro κ38 eκ38
      have hV := hV.uJ eκ38
      have hfr := hfr.uJ (k := 3) hs_h (by decide) (show ((3, 3) : Nat × Nat) ∈ ([(3, 3)] : List (Nat × Nat)) by decide) eκ38
      refine ⟨(hV.mm hs_h (by decide) rfl), ?_⟩
      intro z39 ez39
      have ebz39 : z39 = some bz1 := (ez39.trans (hfr.1 h (by rw [hs_h]; decide) 2 (by rw [hs_h]; decide)).2.2).trans (ez1.symm.trans ebz1)
      refine ⟨bz1, ebz39, (hV.mm hsz1 (by decide) rfl), ?_⟩
      refine t_X6_number hV bz1 hsz1 (by rfl) 0 1  (fun z41 pz41 => ?_)
      have rg_z41 := l_range z41
      refine jc_dup ?_
      refine ⟨fun c4 => ?_, fun c4 => ?_⟩
      · (try dsimp only)
        exact kk 2 κ38 hV hfr trivial
      · refine ⟨(hV.mm hs_h (by decide) rfl), ?_⟩
        intro z47 ez47
        have vz47 := l_range z47
        have wz47 : z47.toInt = (sJ κ38.1 h 3).toInt := by rw [ez47]
        refine ⟨fun c5 => ?_, fun c5 => ?_⟩
        · (try dsimp only)
          exact kk 2 κ38 hV hfr trivial
        · refine ⟨(hV.mm hs_h (by decide) rfl), ?_⟩
          intro z48 ez48
          have vz48 := l_range z48
          have wz48 : z48.toInt = (sJ κ38.1 h 3).toInt := by rw [ez48]
          refine ⟨fun c6 => ?_, fun c6 => ?_⟩
          · exact hK5 () κ38 ⟨hV, hfr, trivial⟩
          · (try dsimp only)
            exact kk 2 κ38 hV hfr trivial
set_option maxRecDepth 100000 in
set_option maxHeartbeats 4000000 in
theorem t_X11_cut {G : GE} {E : CE} {W : CW} {c : Int} {κ : CS} (hV : CV G E W c κ) (h : Nat) (hs_h : W.1 h = 1) (a1 : Int32)  {post : Int32 → CS → Prop} (kk : ∀ (r : Int32) (κ' : CS), CV G E W c κ' → CF [(60, 1)] W κ κ' → (True) → post r κ') : F_X11_cut G h a1 post κ := by
  unfold F_X11_cut
  have hfr : CF [(60, 1)] W κ κ := CF.rf
  have k_m1 : ((-1) : Int32).toInt = (-1) := rfl
  have k_0 : (0 : Int32).toInt = 0 := rfl
  have kl_m1 : ((-1) : Int64).toInt = (-1) := rfl
  have rg_a1 := i_range a1
  refine jc_dup ?_
  refine ⟨fun c1 => ?_, fun c1 => ?_⟩
  · (try dsimp only)
    exact kk (-1) κ hV hfr trivial
  · refine ⟨(hV.mm hs_h (by decide) rfl), ?_⟩
    intro z6 ez6
    obtain ⟨bz6, ebz6, hsz6⟩ := hV.1.nn hs_h (by decide) rfl 0 rfl (by decide)
    have ebz6 := ez6.trans ebz6
    refine ⟨bz6, ebz6, (hV.mm hsz6 (by decide) rfl), ?_⟩
    intro z7 ez7
    have vz7 := hV.1.iv hsz6 (by decide) rfl 1 0 8000 rfl ez7
    have wz7 : z7.toInt = (sI κ.1 bz6 1).toInt := by rw [ez7]
    refine ⟨fun c2 => ?_, fun c2 => ?_⟩
    · refine ⟨(hV.mm hs_h (by decide) rfl), ?_⟩
      intro z8 ez8
      have ebz8 : z8 = some bz6 := (ez8.trans ez6.symm).trans ebz6
      refine ⟨bz6, ebz8, (hV.mm hsz6 (by decide) rfl), ?_⟩
      intro z9 ez9
      have vz9 := hV.1.iv hsz6 (by decide) rfl 1 0 8000 rfl ez9
      have wz9 : z9.toInt = (sI κ.1 bz6 1).toInt := by rw [ez9]
      intro z10 ez10
      try have hz10 := i_sub ez10 (by omega) (by omega)
      have rg_z10 := i_range z10
      refine ⟨(hV.mm hs_h (by decide) rfl), ?_⟩
      intro z11 ez11
      have ebz11 : z11 = some bz6 := (ez11.trans ez6.symm).trans ebz6
      refine ⟨bz6, ebz11, (hV.mm hsz6 (by decide) rfl), ?_⟩
      intro κ12 eκ12
      obtain ⟨rbκ12, reκ12, rsκ12⟩ := hV.1.nn hsz6 (by decide) rfl 0 rfl (by decide)
      have roκ12 := (hV.2.1 bz6 (by rw [hsz6]; rfl) rbκ12 reκ12).1
      have hV := hV.uRL hsz6 rfl reκ12 (by show 0 ≤ (a1 : Int32).toInt ∧ (a1 : Int32).toInt ≤ 8000; omega) (by omega) eκ12
      have hfr := hfr.uI (k := 1) hsz6 (by decide) (show ((60, 1) : Nat × Nat) ∈ ([(60, 1)] : List (Nat × Nat)) by decide) eκ12
      have uκ12 : (sI κ12.1 bz6 1).toInt = (a1 : Int32).toInt := by rw [eκ12]; exact congrArg Int32.toInt u2_same
      exact kk z10 κ12 hV hfr trivial
    · (try dsimp only)
      exact kk (-1) κ hV hfr trivial
set_option maxRecDepth 100000 in
set_option maxHeartbeats 4000000 in
theorem t_X11_connect {G : GE} {E : CE} {W : CW} {c : Int} {κ : CS} (hV : CV G E W c κ) (h : Nat) (hs_h : W.1 h = 1) (a1 : Int32)  {post : Int32 → CS → Prop} (kk : ∀ (r : Int32) (κ' : CS), CV G E W c κ' → CF [(3, 0), (3, 1), (3, 6), (3, 7), (32, 0), (63, 1), (64, 1)] W κ κ' → (0 ≤ r.toInt ∧ r.toInt ≤ 1) → post r κ') : F_X11_connect G h a1 post κ := by
  unfold F_X11_connect
  have hfr : CF [(3, 0), (3, 1), (3, 6), (3, 7), (32, 0), (63, 1), (64, 1)] W κ κ := CF.rf
  have k_0 : (0 : Int32).toInt = 0 := rfl
  have k_1 : (1 : Int32).toInt = 1 := rfl
  have kl_0 : (0 : Int64).toInt = 0 := rfl
  have kl_1 : (1 : Int64).toInt = 1 := rfl
  have rg_a1 := i_range a1
  refine ⟨(hV.mm hs_h (by decide) rfl), ?_⟩
  refine t_X11_connection hV h hs_h a1  (fun z2 pz2 => ?_)
  refine jc_dup ?_
  refine ⟨fun c1 => ?_, fun c1 => ?_⟩
  · (try dsimp only)
    refine ⟨by omega, ?_⟩
    exact kk 0 κ hV hfr (by omega)
  · obtain ⟨bn2, ebn2, hsn2⟩ := pz2.resolve_left c1
    refine ⟨bn2, ebn2, (hV.mm hsn2 (by decide) rfl), ?_⟩
    intro z8 ez8
    have vz8 := hV.1.iv hsn2 (by decide) rfl 0 0 1 rfl ez8
    have wz8 : z8.toInt = (sI κ.1 bn2 0).toInt := by rw [ez8]
    refine ⟨fun c2 => ?_, fun c2 => ?_⟩
    · refine ⟨bn2, ebn2, (hV.mm hsn2 (by decide) rfl), ?_⟩
      refine t_X2_begin hV bn2 hsn2  (fun κ9 hV fκ9 pu3 => ?_)
      have hfr := hfr.tr fκ9 (by decide)
      refine ⟨by omega, ?_⟩
      exact kk 1 κ9 hV hfr (by omega)
    · (try dsimp only)
      refine ⟨by omega, ?_⟩
      exact kk 0 κ hV hfr (by omega)
set_option maxRecDepth 100000 in
set_option maxHeartbeats 4000000 in
theorem t_X11_drop {G : GE} {E : CE} {W : CW} {c : Int} {κ : CS} (hV : CV G E W c κ) (h : Nat) (hs_h : W.1 h = 1) (a1 : Int32)  {post : Int32 → CS → Prop} (kk : ∀ (r : Int32) (κ' : CS), CV G E W c κ' → CF [(63, 1)] W κ κ' → (True) → post r κ') : F_X11_drop G h a1 post κ := by
  unfold F_X11_drop
  have hfr : CF [(63, 1)] W κ κ := CF.rf
  have k_m1 : ((-1) : Int32).toInt = (-1) := rfl
  have k_0 : (0 : Int32).toInt = 0 := rfl
  have kl_m1 : ((-1) : Int64).toInt = (-1) := rfl
  have rg_a1 := i_range a1
  refine ⟨(hV.mm hs_h (by decide) rfl), ?_⟩
  refine t_X11_connection hV h hs_h a1  (fun z2 pz2 => ?_)
  refine ⟨fun c1 => ?_, fun c1 => ?_⟩
  · obtain ⟨bn2, ebn2, hsn2⟩ := pz2.resolve_left c1
    refine ⟨bn2, ebn2, (hV.mm hsn2 (by decide) rfl), ?_⟩
    intro z3 ez3
    obtain ⟨bz3, ebz3, hsz3⟩ := hV.1.nn hsn2 (by decide) rfl 4 rfl (by decide)
    have ebz3 := ez3.trans ebz3
    refine ⟨bz3, ebz3, (hV.mm hsz3 (by decide) rfl), ?_⟩
    intro z4 ez4
    have vz4 := hV.1.iv hsz3 (by decide) rfl 1 0 16000 rfl ez4
    have wz4 : z4.toInt = (sI κ.1 bz3 1).toInt := by rw [ez4]
    refine ⟨bn2, ebn2, (hV.mm hsn2 (by decide) rfl), ?_⟩
    intro z5 ez5
    have ebz5 : z5 = some bz3 := (ez5.trans ez3.symm).trans ebz3
    refine ⟨bz3, ebz5, (hV.mm hsz3 (by decide) rfl), ?_⟩
    intro κ6 eκ6
    obtain ⟨rbκ6, reκ6, rsκ6⟩ := hV.1.nn hsz3 (by decide) rfl 0 rfl (by decide)
    have roκ6 := (hV.2.1 bz3 (by rw [hsz3]; rfl) rbκ6 reκ6).1
    have hV := hV.uRL hsz3 rfl reκ6 (by show 0 ≤ (0 : Int32).toInt ∧ (0 : Int32).toInt ≤ 16000; omega) (by omega) eκ6
    have hfr := hfr.uI (k := 1) hsz3 (by decide) (show ((63, 1) : Nat × Nat) ∈ ([(63, 1)] : List (Nat × Nat)) by decide) eκ6
    have uκ6 : (sI κ6.1 bz3 1).toInt = (0 : Int32).toInt := by rw [eκ6]; exact congrArg Int32.toInt u2_same
    exact kk z4 κ6 hV hfr trivial
  · exact kk (-1) κ hV hfr trivial
set_option maxRecDepth 100000 in
set_option maxHeartbeats 4000000 in
theorem t_X11_giveUp {G : GE} {E : CE} {W : CW} {c : Int} {κ : CS} (hV : CV G E W c κ) (h : Nat) (hs_h : W.1 h = 1) (a1 : Option Nat) (n_a1 : a1 = none ∨ ∃ b, a1 = some b ∧ W.1 b = 3) (a2 : Option Nat) (n_a2 : a2 = none ∨ ∃ b, a2 = some b ∧ W.1 b = 11) (a3 : Option Nat) (n_a3 : a3 = none ∨ ∃ b, a3 = some b ∧ W.1 b = 12)  {post : CS → Prop} (kk : ∀ (κ' : CS), CV G E W c κ' → CF [(44, 0), (44, 2), (54, 0)] W κ κ' → (True) → post κ') : F_X11_giveUp G h a1 a2 a3 post κ := by
  unfold F_X11_giveUp
  have hfr : CF [(44, 0), (44, 2), (54, 0)] W κ κ := CF.rf
  have k_m1 : ((-1) : Int32).toInt = (-1) := rfl
  have k_0 : (0 : Int32).toInt = 0 := rfl
  have k_1 : (1 : Int32).toInt = 1 := rfl
  have kl_m1 : ((-1) : Int64).toInt = (-1) := rfl
  have kl_1 : (1 : Int64).toInt = 1 := rfl
  refine ⟨(hV.mm hs_h (by decide) rfl), ?_⟩
  intro z1 ez1
  obtain ⟨bz1, ebz1, hsz1⟩ := hV.1.nn hs_h (by decide) rfl 12 rfl (by decide)
  have ebz1 := ez1.trans ebz1
  refine ⟨bz1, ebz1, (hV.mm hsz1 (by decide) rfl), ?_⟩
  refine t_Jx4a65c_size_8abf5 hV bz1 hsz1 (by decide) (fun z3 pz3 => ?_)
  have rg_z3 := i_range z3
  intro z4 ez4
  try have hz4 := i_sub ez4 (by omega) (by omega)
  have rg_z4 := i_range z4
  refine lc_in (fun (x : Int32) (κ' : CS) => CV G E W c κ' ∧ CF [(44, 0), (44, 2), (54, 0)] W κ κ' ∧ (((-1 ≤ x.toInt) ∧ (x.toInt < (sI κ'.1 bz1 2).toInt)))) (fun (x : Int32) (κ' : CS) => (x.toInt + 2147483648).toNat) ⟨hV, hfr, (by (try dsimp only); omega)⟩ (fun x5 κ6 hJ K7 hK7 => ?_)
  obtain ⟨hV, hfr, hv⟩ := hJ
  (try dsimp only at hv)
  have rg_x5 := i_range x5
  refine ⟨fun c1 => ?_, fun c1 => ?_⟩
  · exact kk κ6 hV hfr trivial
  · refine ⟨(hV.mm hs_h (by decide) rfl), ?_⟩
    intro z9 ez9
    have ebz9 : z9 = some bz1 := (ez9.trans (hfr.1 h (by rw [hs_h]; decide) 12 (by rw [hs_h]; decide)).2.2).trans (ez1.symm.trans ebz1)
    refine ⟨bz1, ebz9, (hV.mm hsz1 (by decide) rfl), ?_⟩
    refine t_Jx4a65c_get_915e3 hV bz1 hsz1 (by decide) x5 (by omega) (fun z11 pz11 => ?_)
    obtain ⟨bz11, ebz11, hsz11⟩ := pz11
    have hsz11 : W.1 bz11 = 8 := hsz11
    refine ⟨Or.inr ⟨bz11, ebz11, (hV.mm hsz11 (by decide) rfl)⟩, ?_⟩
    refine ⟨bz11, ebz11, (hV.mm hsz11 (by decide) rfl), ?_⟩
    intro z12 ez12
    obtain ⟨bz12, ebz12, hsz12⟩ := hV.1.nn hsz11 (by decide) rfl 0 rfl (by decide)
    have ebz12 := ez12.trans ebz12
    refine jc_dup ?_
    refine jc_dup ?_
    refine ⟨fun c2 => ?_, fun c2 => ?_⟩
    · (try dsimp only)
      refine ⟨(hV.mm hs_h (by decide) rfl), ?_⟩
      intro z24 ez24
      have ebz24 : z24 = some bz1 := (ez24.trans (hfr.1 h (by rw [hs_h]; decide) 12 (by rw [hs_h]; decide)).2.2).trans (ez1.symm.trans ebz1)
      refine ⟨bz1, ebz24, (hV.mm hsz1 (by decide) rfl), ?_⟩
      refine t_Jx4a65c_remove_915e3 hV bz1 hsz1 (by decide) x5 (by omega) (fun z26 κ25 hV fκ25 pz26 => ?_)
      have hfr := hfr.tr fκ25 (by decide)
      (try dsimp only)
      intro z18 ez18
      try have hz18 := i_add ez18 (by omega) (by omega)
      have rg_z18 := i_range z18
      exact hK7 z18 κ25 ⟨hV, hfr, (by (try dsimp only); omega)⟩ (by (try dsimp only); omega)
    · refine jc_dup ?_
      refine ⟨fun c3 => ?_, fun c3 => ?_⟩
      · (try dsimp only)
        refine ⟨fun c4 => ?_, fun c4 => ?_⟩
        · (try dsimp only)
          intro z18 ez18
          try have hz18 := i_add ez18 (by omega) (by omega)
          have rg_z18 := i_range z18
          exact hK7 z18 κ6 ⟨hV, hfr, (by (try dsimp only); omega)⟩ (by (try dsimp only); omega)
        · obtain ⟨bn1, ebn1, hsn1⟩ := n_a3.resolve_left c4
          refine ⟨bz11, ebz11, (hV.mm hsz11 (by decide) rfl), ?_⟩
          intro z32 ez32
          have nz32 := hV.1.nl hsz11 (by decide) rfl 14 rfl (by decide)
          rw [← ez32] at nz32
          refine ⟨fun c5 => ?_, fun c5 => ?_⟩
          · (try dsimp only)
            intro z18 ez18
            try have hz18 := i_add ez18 (by omega) (by omega)
            have rg_z18 := i_range z18
            exact hK7 z18 κ6 ⟨hV, hfr, (by (try dsimp only); omega)⟩ (by (try dsimp only); omega)
          · (try dsimp only)
            refine ⟨(hV.mm hs_h (by decide) rfl), ?_⟩
            intro z24 ez24
            have ebz24 : z24 = some bz1 := (ez24.trans (hfr.1 h (by rw [hs_h]; decide) 12 (by rw [hs_h]; decide)).2.2).trans (ez1.symm.trans ebz1)
            refine ⟨bz1, ebz24, (hV.mm hsz1 (by decide) rfl), ?_⟩
            refine t_Jx4a65c_remove_915e3 hV bz1 hsz1 (by decide) x5 (by omega) (fun z26 κ25 hV fκ25 pz26 => ?_)
            have hfr := hfr.tr fκ25 (by decide)
            (try dsimp only)
            intro z18 ez18
            try have hz18 := i_add ez18 (by omega) (by omega)
            have rg_z18 := i_range z18
            exact hK7 z18 κ25 ⟨hV, hfr, (by (try dsimp only); omega)⟩ (by (try dsimp only); omega)
      · obtain ⟨bn2, ebn2, hsn2⟩ := n_a2.resolve_left c3
        refine ⟨bz11, ebz11, (hV.mm hsz11 (by decide) rfl), ?_⟩
        intro z33 ez33
        have nz33 := hV.1.nl hsz11 (by decide) rfl 13 rfl (by decide)
        rw [← ez33] at nz33
        refine ⟨fun c6 => ?_, fun c6 => ?_⟩
        · (try dsimp only)
          refine ⟨(hV.mm hs_h (by decide) rfl), ?_⟩
          intro z24 ez24
          have ebz24 : z24 = some bz1 := (ez24.trans (hfr.1 h (by rw [hs_h]; decide) 12 (by rw [hs_h]; decide)).2.2).trans (ez1.symm.trans ebz1)
          refine ⟨bz1, ebz24, (hV.mm hsz1 (by decide) rfl), ?_⟩
          refine t_Jx4a65c_remove_915e3 hV bz1 hsz1 (by decide) x5 (by omega) (fun z26 κ25 hV fκ25 pz26 => ?_)
          have hfr := hfr.tr fκ25 (by decide)
          (try dsimp only)
          intro z18 ez18
          try have hz18 := i_add ez18 (by omega) (by omega)
          have rg_z18 := i_range z18
          exact hK7 z18 κ25 ⟨hV, hfr, (by (try dsimp only); omega)⟩ (by (try dsimp only); omega)
        · (try dsimp only)
          refine ⟨fun c7 => ?_, fun c7 => ?_⟩
          · (try dsimp only)
            intro z18 ez18
            try have hz18 := i_add ez18 (by omega) (by omega)
            have rg_z18 := i_range z18
            exact hK7 z18 κ6 ⟨hV, hfr, (by (try dsimp only); omega)⟩ (by (try dsimp only); omega)
          · obtain ⟨bn3, ebn3, hsn3⟩ := n_a3.resolve_left c7
            refine ⟨bz11, ebz11, (hV.mm hsz11 (by decide) rfl), ?_⟩
            intro z32 ez32
            have nz32 := hV.1.nl hsz11 (by decide) rfl 14 rfl (by decide)
            rw [← ez32] at nz32
            refine ⟨fun c8 => ?_, fun c8 => ?_⟩
            · (try dsimp only)
              intro z18 ez18
              try have hz18 := i_add ez18 (by omega) (by omega)
              have rg_z18 := i_range z18
              exact hK7 z18 κ6 ⟨hV, hfr, (by (try dsimp only); omega)⟩ (by (try dsimp only); omega)
            · (try dsimp only)
              refine ⟨(hV.mm hs_h (by decide) rfl), ?_⟩
              intro z24 ez24
              have ebz24 : z24 = some bz1 := (ez24.trans (hfr.1 h (by rw [hs_h]; decide) 12 (by rw [hs_h]; decide)).2.2).trans (ez1.symm.trans ebz1)
              refine ⟨bz1, ebz24, (hV.mm hsz1 (by decide) rfl), ?_⟩
              refine t_Jx4a65c_remove_915e3 hV bz1 hsz1 (by decide) x5 (by omega) (fun z26 κ25 hV fκ25 pz26 => ?_)
              have hfr := hfr.tr fκ25 (by decide)
              (try dsimp only)
              intro z18 ez18
              try have hz18 := i_add ez18 (by omega) (by omega)
              have rg_z18 := i_range z18
              exact hK7 z18 κ25 ⟨hV, hfr, (by (try dsimp only); omega)⟩ (by (try dsimp only); omega)
set_option maxRecDepth 100000 in
set_option maxHeartbeats 4000000 in
theorem t_X11_shutOff {G : GE} {E : CE} {W : CW} {c : Int} {κ : CS} (hV : CV G E W c κ) (h : Nat) (hs_h : W.1 h = 1) (a1 : Option Nat) (b_a1 : Nat) (e_a1 : a1 = some b_a1) (hs_a1 : W.1 b_a1 = 3)  {post : CS → Prop} (kk : ∀ (κ' : CS), CV G E W c κ' → CF [(11, 4), (3, 0), (44, 0), (44, 2), (54, 0)] W κ κ' → (True) → post κ') : F_X11_shutOff G h a1 post κ := by
  unfold F_X11_shutOff
  have hfr : CF [(11, 4), (3, 0), (44, 0), (44, 2), (54, 0)] W κ κ := CF.rf
  have k_0 : (0 : Int32).toInt = 0 := rfl
  have k_1 : (1 : Int32).toInt = 1 := rfl
  have kl_1 : (1 : Int64).toInt = 1 := rfl
  refine ⟨by omega, b_a1, e_a1, (hV.mm hs_a1 (by decide) rfl), ?_⟩
  intro κ1 eκ1
  have rv_κ1 := i_range 0
  have hV := hV.uI (k := 0) (v := 0) hs_a1 (Or.inl rfl) (Or.inl (by decide)) (Or.inl (by decide)) (fun _ => (by omega : (0 : Int) ≤ (0 : Int32).toInt ∧ (0 : Int32).toInt ≤ 1)) eκ1
  have hfr := hfr.uI (k := 0) hs_a1 (by decide) (show ((3, 0) : Nat × Nat) ∈ ([(11, 4), (3, 0), (44, 0), (44, 2), (54, 0)] : List (Nat × Nat)) by decide) eκ1
  have uκ1 : (sI κ1.1 b_a1 0).toInt = (0 : Int32).toInt := by rw [eκ1]; exact congrArg Int32.toInt u2_same
  refine ⟨(hV.mm hs_h (by decide) rfl), ?_⟩
  refine t_X11_giveUp hV h hs_h a1 (Or.inr ⟨b_a1, e_a1, hs_a1⟩) (none : Option Nat) (Or.inl rfl) (none : Option Nat) (Or.inl rfl)  (fun κ2 hV fκ2 pu1 => ?_)
  have hfr := hfr.tr fκ2 (by decide)
  refine lc_in (fun (x : Int32) (κ' : CS) => CV G E W c κ' ∧ CF [(11, 4), (3, 0), (44, 0), (44, 2), (54, 0)] W κ κ' ∧ (((0 ≤ x.toInt)))) (fun (x : Int32) (κ' : CS) => (2147483647 - x.toInt).toNat) ⟨hV, hfr, (by (try dsimp only); omega)⟩ (fun x4 κ5 hJ K6 hK6 => ?_)
  obtain ⟨hV, hfr, hv⟩ := hJ
  (try dsimp only at hv)
  have rg_x4 := i_range x4
  refine ⟨(hV.mm hs_h (by decide) rfl), ?_⟩
  intro z8 ez8
  obtain ⟨bz8, ebz8, hsz8⟩ := hV.1.nn hs_h (by decide) rfl 8 rfl (by decide)
  have ebz8 := ez8.trans ebz8
  refine ⟨bz8, ebz8, (hV.mm hsz8 (by decide) rfl), ?_⟩
  refine t_Jx4a65c_size_8abf5 hV bz8 hsz8 (by decide) (fun z10 pz10 => ?_)
  have rg_z10 := i_range z10
  refine ⟨fun c1 => ?_, fun c1 => ?_⟩
  · exact kk κ5 hV hfr trivial
  · refine ⟨(hV.mm hs_h (by decide) rfl), ?_⟩
    intro z11 ez11
    have ebz11 : z11 = some bz8 := (ez11.trans ez8.symm).trans ebz8
    refine ⟨bz8, ebz11, (hV.mm hsz8 (by decide) rfl), ?_⟩
    refine t_Jx4a65c_get_915e3 hV bz8 hsz8 (by decide) x4 (by omega) (fun z13 pz13 => ?_)
    obtain ⟨bz13, ebz13, hsz13⟩ := pz13
    have hsz13 : W.1 bz13 = 11 := hsz13
    refine ⟨Or.inr ⟨bz13, ebz13, (hV.mm hsz13 (by decide) rfl)⟩, ?_⟩
    refine ⟨bz13, ebz13, (hV.mm hsz13 (by decide) rfl), ?_⟩
    intro z14 ez14
    have vz14 := hV.1.iv hsz13 (by decide) rfl 4 0 1 rfl ez14
    have wz14 : z14.toInt = (sI κ5.1 bz13 4).toInt := by rw [ez14]
    refine jc_dup ?_
    refine jc_dup ?_
    refine ⟨fun c2 => ?_, fun c2 => ?_⟩
    · (try dsimp only)
      (try dsimp only)
      refine ⟨by omega, bz13, ebz13, (hV.mm hsz13 (by decide) rfl), ?_⟩
      intro κ20 eκ20
      have rv_κ20 := i_range 1
      have hV := hV.uI (k := 4) (v := 1) hsz13 (Or.inl rfl) (Or.inl (by decide)) (Or.inl (by decide)) (fun _ => (by omega : (0 : Int) ≤ (1 : Int32).toInt ∧ (1 : Int32).toInt ≤ 1)) eκ20
      have hfr := hfr.uI (k := 4) hsz13 (by decide) (show ((11, 4) : Nat × Nat) ∈ ([(11, 4), (3, 0), (44, 0), (44, 2), (54, 0)] : List (Nat × Nat)) by decide) eκ20
      have uκ20 : (sI κ20.1 bz13 4).toInt = (1 : Int32).toInt := by rw [eκ20]; exact congrArg Int32.toInt u2_same
      intro z21 ez21
      try have hz21 := i_add ez21 (by omega) (by omega)
      have rg_z21 := i_range z21
      exact hK6 z21 κ20 ⟨hV, hfr, (by (try dsimp only); omega)⟩ (by (try dsimp only); omega)
    · refine ⟨bz13, ebz13, (hV.mm hsz13 (by decide) rfl), ?_⟩
      intro z27 ez27
      obtain ⟨bz27, ebz27, hsz27⟩ := hV.1.nn hsz13 (by decide) rfl 1 rfl (by decide)
      have ebz27 := ez27.trans ebz27
      refine ⟨fun c3 => ?_, fun c3 => ?_⟩
      · (try dsimp only)
        refine ⟨by omega, bz13, ebz13, (hV.mm hsz13 (by decide) rfl), ?_⟩
        intro κ20 eκ20
        have rv_κ20 := i_range 0
        have hV := hV.uI (k := 4) (v := 0) hsz13 (Or.inl rfl) (Or.inl (by decide)) (Or.inl (by decide)) (fun _ => (by omega : (0 : Int) ≤ (0 : Int32).toInt ∧ (0 : Int32).toInt ≤ 1)) eκ20
        have hfr := hfr.uI (k := 4) hsz13 (by decide) (show ((11, 4) : Nat × Nat) ∈ ([(11, 4), (3, 0), (44, 0), (44, 2), (54, 0)] : List (Nat × Nat)) by decide) eκ20
        have uκ20 : (sI κ20.1 bz13 4).toInt = (0 : Int32).toInt := by rw [eκ20]; exact congrArg Int32.toInt u2_same
        intro z21 ez21
        try have hz21 := i_add ez21 (by omega) (by omega)
        have rg_z21 := i_range z21
        exact hK6 z21 κ20 ⟨hV, hfr, (by (try dsimp only); omega)⟩ (by (try dsimp only); omega)
      · (try dsimp only)
        (try dsimp only)
        refine ⟨by omega, bz13, ebz13, (hV.mm hsz13 (by decide) rfl), ?_⟩
        intro κ20 eκ20
        have rv_κ20 := i_range 1
        have hV := hV.uI (k := 4) (v := 1) hsz13 (Or.inl rfl) (Or.inl (by decide)) (Or.inl (by decide)) (fun _ => (by omega : (0 : Int) ≤ (1 : Int32).toInt ∧ (1 : Int32).toInt ≤ 1)) eκ20
        have hfr := hfr.uI (k := 4) hsz13 (by decide) (show ((11, 4) : Nat × Nat) ∈ ([(11, 4), (3, 0), (44, 0), (44, 2), (54, 0)] : List (Nat × Nat)) by decide) eκ20
        have uκ20 : (sI κ20.1 bz13 4).toInt = (1 : Int32).toInt := by rw [eκ20]; exact congrArg Int32.toInt u2_same
        intro z21 ez21
        try have hz21 := i_add ez21 (by omega) (by omega)
        have rg_z21 := i_range z21
        exact hK6 z21 κ20 ⟨hV, hfr, (by (try dsimp only); omega)⟩ (by (try dsimp only); omega)
set_option maxRecDepth 100000 in
set_option maxHeartbeats 4000000 in
theorem t_X11_nextAgain {G : GE} {E : CE} {W : CW} {c : Int} {κ : CS} (hV : CV G E W c κ) (h : Nat) (hs_h : W.1 h = 1)  {post : Option Nat → CS → Prop} (kk : ∀ (r : Option Nat) (κ' : CS), CV G E W c κ' → CF [(8, 19)] W κ κ' → (r = none ∨ ∃ b, r = some b ∧ W.1 b = 8) → post r κ') : F_X11_nextAgain G h post κ := by
  unfold F_X11_nextAgain
  have hfr : CF [(8, 19)] W κ κ := CF.rf
  have k_0 : (0 : Int32).toInt = 0 := rfl
  have k_1 : (1 : Int32).toInt = 1 := rfl
  have kl_1 : (1 : Int64).toInt = 1 := rfl
  refine lc_in (fun (x : Int32) (κ' : CS) => κ = κ' ∧ (((0 ≤ x.toInt)))) (fun (x : Int32) (κ' : CS) => (2147483647 - x.toInt).toNat) ⟨rfl, (by (try dsimp only); omega)⟩ (fun x1 κ2 hJ K3 hK3 => ?_)
  obtain ⟨hsg, hv⟩ := hJ
  subst hsg
  (try dsimp only at hv)
  have rg_x1 := i_range x1
  refine ⟨(hV.mm hs_h (by decide) rfl), ?_⟩
  intro z5 ez5
  obtain ⟨bz5, ebz5, hsz5⟩ := hV.1.nn hs_h (by decide) rfl 12 rfl (by decide)
  have ebz5 := ez5.trans ebz5
  refine ⟨bz5, ebz5, (hV.mm hsz5 (by decide) rfl), ?_⟩
  refine t_Jx4a65c_size_8abf5 hV bz5 hsz5 (by decide) (fun z7 pz7 => ?_)
  have rg_z7 := i_range z7
  refine ⟨fun c1 => ?_, fun c1 => ?_⟩
  · exact kk (none : Option Nat) κ hV hfr (Or.inl rfl)
  · refine ⟨(hV.mm hs_h (by decide) rfl), ?_⟩
    intro z8 ez8
    have ebz8 : z8 = some bz5 := (ez8.trans ez5.symm).trans ebz5
    refine ⟨bz5, ebz8, (hV.mm hsz5 (by decide) rfl), ?_⟩
    refine t_Jx4a65c_get_915e3 hV bz5 hsz5 (by decide) x1 (by omega) (fun z10 pz10 => ?_)
    obtain ⟨bz10, ebz10, hsz10⟩ := pz10
    have hsz10 : W.1 bz10 = 8 := hsz10
    refine ⟨Or.inr ⟨bz10, ebz10, (hV.mm hsz10 (by decide) rfl)⟩, ?_⟩
    refine ⟨bz10, ebz10, (hV.mm hsz10 (by decide) rfl), ?_⟩
    intro z11 ez11
    have vz11 := hV.1.iv hsz10 (by decide) rfl 19 0 1 rfl ez11
    have wz11 : z11.toInt = (sI κ.1 bz10 19).toInt := by rw [ez11]
    refine ⟨fun c2 => ?_, fun c2 => ?_⟩
    · intro z12 ez12
      try have hz12 := i_add ez12 (by omega) (by omega)
      have rg_z12 := i_range z12
      exact hK3 z12 κ ⟨rfl, (by (try dsimp only); omega)⟩ (by (try dsimp only); omega)
    · refine ⟨by omega, bz10, ebz10, (hV.mm hsz10 (by decide) rfl), ?_⟩
      intro κ13 eκ13
      have rv_κ13 := i_range 0
      have hV := hV.uI (k := 19) (v := 0) hsz10 (Or.inl rfl) (Or.inl (by decide)) (Or.inl (by decide)) (fun _ => (by omega : (0 : Int) ≤ (0 : Int32).toInt ∧ (0 : Int32).toInt ≤ 1)) eκ13
      have hfr := hfr.uI (k := 19) hsz10 (by decide) (show ((8, 19) : Nat × Nat) ∈ ([(8, 19)] : List (Nat × Nat)) by decide) eκ13
      have uκ13 : (sI κ13.1 bz10 19).toInt = (0 : Int32).toInt := by rw [eκ13]; exact congrArg Int32.toInt u2_same
      exact kk z10 κ13 hV hfr (Or.inr ⟨bz10, ebz10, hsz10⟩)
set_option maxRecDepth 100000 in
set_option maxHeartbeats 4000000 in
theorem t_X11_stopWaiting {G : GE} {E : CE} {W : CW} {c : Int} {κ : CS} (hV : CV G E W c κ) (h : Nat) (hs_h : W.1 h = 1) (a1 : Option Nat) (b_a1 : Nat) (e_a1 : a1 = some b_a1) (hs_a1 : W.1 b_a1 = 8)  {post : CS → Prop} (kk : ∀ (κ' : CS), CV G E W c κ' → CF [(44, 0), (44, 2), (54, 0)] W κ κ' → (True) → post κ') : F_X11_stopWaiting G h a1 post κ := by
  unfold F_X11_stopWaiting
  have hfr : CF [(44, 0), (44, 2), (54, 0)] W κ κ := CF.rf
  have k_m1 : ((-1) : Int32).toInt = (-1) := rfl
  have k_0 : (0 : Int32).toInt = 0 := rfl
  have k_1 : (1 : Int32).toInt = 1 := rfl
  have kl_m1 : ((-1) : Int64).toInt = (-1) := rfl
  have kl_1 : (1 : Int64).toInt = 1 := rfl
  refine ⟨(hV.mm hs_h (by decide) rfl), ?_⟩
  intro z1 ez1
  obtain ⟨bz1, ebz1, hsz1⟩ := hV.1.nn hs_h (by decide) rfl 12 rfl (by decide)
  have ebz1 := ez1.trans ebz1
  refine ⟨bz1, ebz1, (hV.mm hsz1 (by decide) rfl), ?_⟩
  refine t_Jx4a65c_size_8abf5 hV bz1 hsz1 (by decide) (fun z3 pz3 => ?_)
  have rg_z3 := i_range z3
  intro z4 ez4
  try have hz4 := i_sub ez4 (by omega) (by omega)
  have rg_z4 := i_range z4
  refine lc_in (fun (x : Int32) (κ' : CS) => CV G E W c κ' ∧ CF [(44, 0), (44, 2), (54, 0)] W κ κ' ∧ (((-1 ≤ x.toInt) ∧ (x.toInt < (sI κ'.1 bz1 2).toInt)))) (fun (x : Int32) (κ' : CS) => (x.toInt + 2147483648).toNat) ⟨hV, hfr, (by (try dsimp only); omega)⟩ (fun x5 κ6 hJ K7 hK7 => ?_)
  obtain ⟨hV, hfr, hv⟩ := hJ
  (try dsimp only at hv)
  have rg_x5 := i_range x5
  refine ⟨fun c1 => ?_, fun c1 => ?_⟩
  · exact kk κ6 hV hfr trivial
  · refine ⟨(hV.mm hs_h (by decide) rfl), ?_⟩
    intro z9 ez9
    have ebz9 : z9 = some bz1 := (ez9.trans (hfr.1 h (by rw [hs_h]; decide) 12 (by rw [hs_h]; decide)).2.2).trans (ez1.symm.trans ebz1)
    refine ⟨bz1, ebz9, (hV.mm hsz1 (by decide) rfl), ?_⟩
    refine t_Jx4a65c_get_915e3 hV bz1 hsz1 (by decide) x5 (by omega) (fun z11 pz11 => ?_)
    obtain ⟨bz11, ebz11, hsz11⟩ := pz11
    have hsz11 : W.1 bz11 = 8 := hsz11
    refine jc_dup ?_
    refine ⟨fun c2 => ?_, fun c2 => ?_⟩
    · (try dsimp only)
      intro z17 ez17
      try have hz17 := i_add ez17 (by omega) (by omega)
      have rg_z17 := i_range z17
      exact hK7 z17 κ6 ⟨hV, hfr, (by (try dsimp only); omega)⟩ (by (try dsimp only); omega)
    · refine ⟨(hV.mm hs_h (by decide) rfl), ?_⟩
      intro z18 ez18
      have ebz18 : z18 = some bz1 := (ez18.trans (hfr.1 h (by rw [hs_h]; decide) 12 (by rw [hs_h]; decide)).2.2).trans (ez1.symm.trans ebz1)
      refine ⟨bz1, ebz18, (hV.mm hsz1 (by decide) rfl), ?_⟩
      refine t_Jx4a65c_remove_915e3 hV bz1 hsz1 (by decide) x5 (by omega) (fun z20 κ19 hV fκ19 pz20 => ?_)
      have hfr := hfr.tr fκ19 (by decide)
      (try dsimp only)
      intro z17 ez17
      try have hz17 := i_add ez17 (by omega) (by omega)
      have rg_z17 := i_range z17
      exact hK7 z17 κ19 ⟨hV, hfr, (by (try dsimp only); omega)⟩ (by (try dsimp only); omega)
set_option maxRecDepth 100000 in
set_option maxHeartbeats 4000000 in
theorem t_X11_undoLocks {G : GE} {E : CE} {W : CW} {c : Int} {κ : CS} (hV : CV G E W c κ) (h : Nat) (hs_h : W.1 h = 1) (a1 : Int32)  {post : CS → Prop} (kk : ∀ (κ' : CS), CV G E W c κ' → CF [(43, 0), (43, 2), (53, 0)] W κ κ' → (True) → post κ') : F_X11_undoLocks G h a1 post κ := by
  unfold F_X11_undoLocks
  have hfr : CF [(43, 0), (43, 2), (53, 0)] W κ κ := CF.rf
  have k_m1 : ((-1) : Int32).toInt = (-1) := rfl
  have k_0 : (0 : Int32).toInt = 0 := rfl
  have k_1 : (1 : Int32).toInt = 1 := rfl
  have kl_m1 : ((-1) : Int64).toInt = (-1) := rfl
  have kl_1 : (1 : Int64).toInt = 1 := rfl
  have rg_a1 := i_range a1
  refine ⟨(hV.mm hs_h (by decide) rfl), ?_⟩
  intro z1 ez1
  obtain ⟨bz1, ebz1, hsz1⟩ := hV.1.nn hs_h (by decide) rfl 11 rfl (by decide)
  have ebz1 := ez1.trans ebz1
  refine ⟨bz1, ebz1, (hV.mm hsz1 (by decide) rfl), ?_⟩
  refine t_Jx4a65c_size_8abf5 hV bz1 hsz1 (by decide) (fun z3 pz3 => ?_)
  have rg_z3 := i_range z3
  intro z4 ez4
  try have hz4 := i_sub ez4 (by omega) (by omega)
  have rg_z4 := i_range z4
  refine lc_in (fun (x : Int32) (κ' : CS) => CV G E W c κ' ∧ CF [(43, 0), (43, 2), (53, 0)] W κ κ' ∧ (((-1 ≤ x.toInt) ∧ (x.toInt < (sI κ'.1 bz1 2).toInt)))) (fun (x : Int32) (κ' : CS) => (x.toInt + 2147483648).toNat) ⟨hV, hfr, (by (try dsimp only); omega)⟩ (fun x5 κ6 hJ K7 hK7 => ?_)
  obtain ⟨hV, hfr, hv⟩ := hJ
  (try dsimp only at hv)
  have rg_x5 := i_range x5
  refine jc_dup ?_
  refine ⟨fun c1 => ?_, fun c1 => ?_⟩
  · (try dsimp only)
    exact kk κ6 hV hfr trivial
  · refine ⟨fun c2 => ?_, fun c2 => ?_⟩
    · (try dsimp only)
      exact kk κ6 hV hfr trivial
    · refine ⟨(hV.mm hs_h (by decide) rfl), ?_⟩
      intro z14 ez14
      have ebz14 : z14 = some bz1 := (ez14.trans (hfr.1 h (by rw [hs_h]; decide) 11 (by rw [hs_h]; decide)).2.2).trans (ez1.symm.trans ebz1)
      refine ⟨bz1, ebz14, (hV.mm hsz1 (by decide) rfl), ?_⟩
      refine t_Jx4a65c_remove_915e3 hV bz1 hsz1 (by decide) x5 (by omega) (fun z16 κ15 hV fκ15 pz16 => ?_)
      have hfr := hfr.tr fκ15 (by decide)
      intro z17 ez17
      try have hz17 := i_add ez17 (by omega) (by omega)
      have rg_z17 := i_range z17
      exact hK7 z17 κ15 ⟨hV, hfr, (by (try dsimp only); omega)⟩ (by (try dsimp only); omega)
set_option maxRecDepth 100000 in
set_option maxHeartbeats 4000000 in
theorem t_X11_lookAtFile {G : GE} {E : CE} {W : CW} {c : Int} {κ : CS} (hV : CV G E W c κ) (h : Nat) (hs_h : W.1 h = 1) (a1 : Option Nat) (b_a1 : Nat) (e_a1 : a1 = some b_a1) (hs_a1 : W.1 b_a1 = 8) (a2 : Int32)  {post : Int32 → CS → Prop} (kk : ∀ (r : Int32) (κ' : CS), CV G E W c κ' → CF [(3, 12), (3, 13), (3, 14), (8, 15)] W κ κ' → (True) → post r κ') : F_X11_lookAtFile G h a1 a2 post κ := by
  unfold F_X11_lookAtFile
  have hfr : CF [(3, 12), (3, 13), (3, 14), (8, 15)] W κ κ := CF.rf
  have k_m1073741811 : ((-1073741811) : Int32).toInt = (-1073741811) := rfl
  have k_m1073741528 : ((-1073741528) : Int32).toInt = (-1073741528) := rfl
  have k_0 : (0 : Int32).toInt = 0 := rfl
  have k_1 : (1 : Int32).toInt = 1 := rfl
  have k_8 : (8 : Int32).toInt = 8 := rfl
  have kl_m1073741811 : ((-1073741811) : Int64).toInt = (-1073741811) := rfl
  have kl_m1073741528 : ((-1073741528) : Int64).toInt = (-1073741528) := rfl
  have kl_m1 : ((-1) : Int64).toInt = (-1) := rfl
  have kl_0 : (0 : Int64).toInt = 0 := rfl
  have kl_1 : (1 : Int64).toInt = 1 := rfl
  have kl_8 : (8 : Int64).toInt = 8 := rfl
  have rg_a2 := i_range a2
  refine ⟨b_a1, e_a1, (hV.mm hs_a1 (by decide) rfl), ?_⟩
  intro z1 ez1
  obtain ⟨bz1, ebz1, hsz1⟩ := hV.1.nn hs_a1 (by decide) rfl 0 rfl (by decide)
  have ebz1 := ez1.trans ebz1
  refine ⟨b_a1, e_a1, (hV.mm hs_a1 (by decide) rfl), ?_⟩
  refine t_X0_number hV b_a1 hs_a1 a2 8  (fun z3 pz3 => ?_)
  have rg_z3 := l_range z3
  intro z4 ez4
  try have hz4 := i_add ez4 (by omega) (by omega)
  have rg_z4 := i_range z4
  refine ⟨b_a1, e_a1, (hV.mm hs_a1 (by decide) rfl), ?_⟩
  refine t_X0_number hV b_a1 hs_a1 z4 8  (fun z6 pz6 => ?_)
  have rg_z6 := l_range z6
  refine ⟨b_a1, e_a1, (hV.mm hs_a1 (by decide) rfl), ?_⟩
  refine t_X0_related hV b_a1 hs_a1  (fun z8 pz8 => ?_)
  have rg_z8 := i_range z8
  refine jc_in (fun (x : Int64 × Int64) (κ' : CS) => κ = κ' ∧ ((True))) (fun x9 κ10 hJ => ?_) (fun K11 hK11 => ?_)
  · obtain ⟨hsg, hv⟩ := hJ
    subst hsg
    (try dsimp only at hv)
    have rg_x9_1 := l_range x9.1
    have rg_x9_2 := l_range x9.2
    refine ⟨bz1, ebz1, (hV.mm hsz1 (by decide) rfl), ?_⟩
    refine t_X2_tellFile hV bz1 hsz1 x9.2 x9.1  (fun κ14 hV fκ14 pu4 => ?_)
    have hfr := hfr.tr fκ14 (by decide)
    refine lc_in (fun (x : Int32) (κ' : CS) => κ14 = κ' ∧ (((0 ≤ x.toInt)))) (fun (x : Int32) (κ' : CS) => (2147483647 - x.toInt).toNat) ⟨rfl, (by (try dsimp only); omega)⟩ (fun x16 κ17 hJ K18 hK18 => ?_)
    obtain ⟨hsg, hv⟩ := hJ
    subst hsg
    (try dsimp only at hv)
    have rg_x16 := i_range x16
    refine ⟨(hV.mm hs_h (by decide) rfl), ?_⟩
    intro z20 ez20
    obtain ⟨bz20, ebz20, hsz20⟩ := hV.1.nn hs_h (by decide) rfl 10 rfl (by decide)
    have ebz20 := ez20.trans ebz20
    refine ⟨bz20, ebz20, (hV.mm hsz20 (by decide) rfl), ?_⟩
    refine t_Jx4a65c_size_8abf5 hV bz20 hsz20 (by decide) (fun z22 pz22 => ?_)
    have rg_z22 := i_range z22
    refine ⟨fun c1 => ?_, fun c1 => ?_⟩
    · exact kk (-1073741528) κ14 hV hfr trivial
    · refine ⟨(hV.mm hs_h (by decide) rfl), ?_⟩
      intro z23 ez23
      have ebz23 : z23 = some bz20 := (ez23.trans ez20.symm).trans ebz20
      refine ⟨bz20, ebz23, (hV.mm hsz20 (by decide) rfl), ?_⟩
      refine t_Jx4a65c_get_915e3 hV bz20 hsz20 (by decide) x16 (by omega) (fun z25 pz25 => ?_)
      obtain ⟨bz25, ebz25, hsz25⟩ := pz25
      have hsz25 : W.1 bz25 = 10 := hsz25
      refine ⟨Or.inr ⟨bz25, ebz25, (hV.mm hsz25 (by decide) rfl)⟩, ?_⟩
      refine ⟨bz25, ebz25, (hV.mm hsz25 (by decide) rfl), ?_⟩
      intro z26 ez26
      have vz26 := l_range z26
      have wz26 : z26.toInt = (sJ κ14.1 bz25 0).toInt := by rw [ez26]
      refine jc_dup ?_
      refine ⟨fun c2 => ?_, fun c2 => ?_⟩
      · (try dsimp only)
        intro z32 ez32
        try have hz32 := i_add ez32 (by omega) (by omega)
        have rg_z32 := i_range z32
        exact hK18 z32 κ14 ⟨rfl, (by (try dsimp only); omega)⟩ (by (try dsimp only); omega)
      · refine ⟨fun c3 => ?_, fun c3 => ?_⟩
        · (try dsimp only)
          intro z32 ez32
          try have hz32 := i_add ez32 (by omega) (by omega)
          have rg_z32 := i_range z32
          exact hK18 z32 κ14 ⟨rfl, (by (try dsimp only); omega)⟩ (by (try dsimp only); omega)
        · refine ⟨bz25, ebz25, (hV.mm hsz25 (by decide) rfl), ?_⟩
          intro z33 ez33
          obtain ⟨bz33, ebz33, hsz33⟩ := hV.1.nn hsz25 (by decide) rfl 1 rfl (by decide)
          have ebz33 := ez33.trans ebz33
          refine ⟨b_a1, e_a1, (hV.mm hs_a1 (by decide) rfl), ?_⟩
          intro z34 ez34
          have nz34 := hV.1.nl hs_a1 (by decide) rfl 14 rfl (by decide)
          rw [← ez34] at nz34
          refine ⟨fun c4 => ?_, fun c4 => ?_⟩
          · (try dsimp only)
            intro z32 ez32
            try have hz32 := i_add ez32 (by omega) (by omega)
            have rg_z32 := i_range z32
            exact hK18 z32 κ14 ⟨rfl, (by (try dsimp only); omega)⟩ (by (try dsimp only); omega)
          · refine ⟨b_a1, e_a1, (hV.mm hs_a1 (by decide) rfl), ?_⟩
            intro κ35 eκ35
            have hV := hV.uP (k := 15) (v := z25) hs_a1 rfl (Or.inl (by decide)) (by decide) (by decide) (fun _ => (Or.inr (Or.inr (Or.inr ⟨bz25, ebz25, hsz25⟩)))) eκ35
            have hfr := hfr.uP (k := 15) hs_a1 (by decide) (show ((8, 15) : Nat × Nat) ∈ ([(3, 12), (3, 13), (3, 14), (8, 15)] : List (Nat × Nat)) by decide) eκ35
            exact kk 0 κ35 hV hfr trivial
  · skip
    refine ⟨fun c5 => ?_, fun c5 => ?_⟩
    · exact hK11 (z6, z3) κ ⟨rfl, trivial⟩
    · refine ⟨fun c6 => ?_, fun c6 => ?_⟩
      · exact hK11 (z6, z3) κ ⟨rfl, trivial⟩
      · refine ⟨fun c7 => ?_, fun c7 => ?_⟩
        · exact hK11 (z6, z3) κ ⟨rfl, trivial⟩
        · refine ⟨b_a1, e_a1, (hV.mm hs_a1 (by decide) rfl), ?_⟩
          intro z36 ez36
          have vz36 := hV.1.iv hs_a1 (by decide) rfl 12 0 1 rfl ez36
          have wz36 : z36.toInt = (sI κ.1 b_a1 12).toInt := by rw [ez36]
          refine ⟨fun c8 => ?_, fun c8 => ?_⟩
          · refine ⟨bz1, ebz1, (hV.mm hsz1 (by decide) rfl), ?_⟩
            intro z37 ez37
            have vz37 := l_range z37
            have wz37 : z37.toInt = (sJ κ.1 bz1 13).toInt := by rw [ez37]
            refine ⟨bz1, ebz1, (hV.mm hsz1 (by decide) rfl), ?_⟩
            intro z38 ez38
            have vz38 := l_range z38
            have wz38 : z38.toInt = (sJ κ.1 bz1 14).toInt := by rw [ez38]
            exact hK11 (z38, z37) κ ⟨rfl, trivial⟩
          · exact kk (-1073741811) κ hV hfr trivial

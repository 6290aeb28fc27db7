/-! the class: what is left of its face -/
section R9V
variable {G : GE} {E : CE} {W : CW} {κ : CS} {r : Nat} {c : Int}
theorem t_Jx4a65c_clear_da8c8 (h : CV G E W c κ) (o : Nat) (ho : W.1 o = r) (hr : 40 ≤ r ∧ r < 45) {post : CS → Prop} (kk : ∀ κ' : CS, CV G E W c κ' → CF [(r, 0), (r, 2), (r + 10, 0)] W κ κ' → post κ') : F_Jx4a65c_clear_da8c8 G o post κ := by
  unfold F_Jx4a65c_clear_da8c8
  have lk := ls_k hr
  have m := h.mm ho (by omega) lk.1
  have lr := h.2.2.2.1 o r ho hr.1 hr.2
  have sz := h.lsz ho hr
  have k0 : (0 : Int32).toInt = 0 := rfl
  have k1 : (1 : Int32).toInt = 1 := rfl
  refine ⟨m, fun z1 e1 z2 e2 => ⟨m, fun κ3 k3 => ?_⟩⟩
  have m3 : o ∈ sL κ3.1 ∧ sK κ3.1 o = 7 := by rw [k3]; exact m
  refine ⟨m3, fun z4 e4 => ⟨m3, fun z5 e5 => ⟨m3, fun κ6 k6 => ?_⟩⟩⟩
  have s3 : sI κ3.1 o 2 = sI κ.1 o 2 := by rw [k3]; exact u2_pl (by decide)
  have hz5 : z5.toInt = (sI κ.1 o 2).toInt := by rw [e5, s3]
  have e4' : z4 = sP κ.1 o 1 := by rw [e4, k3]; rfl
  have hI6 : ∀ x i, ¬ (x = o ∧ (i = 0 ∨ i = 2)) → sI κ6.1 x i = sI κ.1 x i := fun x i q => by
    rw [k6]
    show u2 (sI κ3.1) o 2 0 x i = _
    by_cases e : x = o
    · rw [e, u2_pl (fun e' => q ⟨e, Or.inr e'⟩), k3]
      exact u2_pl (fun e' => q ⟨e, Or.inl e'⟩)
    · rw [u2_addr e, k3]
      exact u2_addr e
  have z6 : (sI κ6.1 o 2).toInt = 0 := by
    rw [k6]
    exact congrArg Int32.toInt u2_same
  have L6 : sL κ6.1 = sL κ.1 ∧ sK κ6.1 = sK κ.1 ∧ sN κ6.1 = sN κ.1 ∧ sJ κ6.1 = sJ κ.1 ∧ sP κ6.1 = sP κ.1 ∧ κ6.2 = κ.2 := by
    rw [k6, k3]
    exact ⟨rfl, rfl, rfl, rfl, rfl, rfl⟩
  rcases h.lel ho hr with e | ⟨b, e, hb⟩
  · have s0 := lr.1 e.1 e.2
    refine lc_in (fun (x : Int32) (κ' : CS) => x.toInt = 0 ∧ κ' = κ6) (fun _ _ => 0) ⟨k0, rfl⟩ (fun x7 κ8 hJ K9 hK9 => ⟨fun c1 => ?_, fun c1 => by omega⟩)
    obtain ⟨j1, j2⟩ := hJ
    rw [j2]
    have i0 : sI κ3.1 o 2 = 0 := by
      rw [s3]
      exact Int32.toInt_inj.mp (s0.trans k0.symm)
    have e6 : κ6 = κ3 := by
      rw [k6]
      have : u2 (sI κ3.1) o 2 0 = sI κ3.1 := by
        funext x i
        by_cases q : x = o
        · subst q
          by_cases q2 : i = 2
          · subst q2
            rw [u2_same, i0]
          · rw [u2_pl q2]
        · rw [u2_addr q]
      show ((sL κ3.1, sK κ3.1, sN κ3.1, u2 (sI κ3.1) o 2 0, sJ κ3.1, sP κ3.1), κ3.2) = κ3
      rw [this]
    rw [e6]
    have ob : isOb r = true := by rcases ls_c hr with rfl | rfl | rfl | rfl | rfl <;> rfl
    refine kk κ3 (h.uI (k := 0) (v := z2) ho (Or.inr (by decide)) (Or.inr (by decide)) (Or.inr (Or.inl (by decide))) (fun _ => by have q := i_range z2; rcases ls_c hr with rfl | rfl | rfl | rfl | rfl <;> exact q) k3) (CF.rf.uI (k := 0) ho (by omega) (by unfold ixC; rw [ob]; simp) k3)
  · obtain ⟨g1, g2, g3⟩ := lr.2 b e hb
    have mb := h.mm hb (by omega) lk.2.1
    have lb := h.ln hb (by omega) lk.2.2.1
    have el : ∀ j, j < W.2 b → sP κ.1 b j = none ∨ ∃ y, sP κ.1 b j = some y ∧ W.1 y = elC r := fun j hj => by
      have rv := (h.1.el hb (by omega) lk.2.2.1 j hj).2
      rw [lk.2.2.2.1] at rv
      rcases rv with q | q | q | q
      · exact absurd q lk.2.2.2.2
      · exact Or.inl q.2
      · exact absurd (show (1 : Nat) = 2 from q.1) (by decide)
      · exact Or.inr q
    refine lc_in (fun (x : Int32) (κ' : CS) => 0 ≤ x.toInt ∧ sL κ'.1 = sL κ.1 ∧ sK κ'.1 = sK κ.1 ∧ sN κ'.1 = sN κ.1 ∧ sI κ'.1 = sI κ6.1 ∧ sJ κ'.1 = sJ κ.1 ∧ (∀ y j, y ≠ b → sP κ'.1 y j = sP κ.1 y j) ∧ (∀ j, j < W.2 b → sP κ'.1 b j = none ∨ ∃ y, sP κ'.1 b j = some y ∧ W.1 y = elC r) ∧ κ'.2 = κ.2) (fun (x : Int32) (_ : CS) => (2147483647 - x.toInt).toNat) ⟨by omega, L6.1, L6.2.1, L6.2.2.1, rfl, L6.2.2.2.1, fun y j _ => by rw [L6.2.2.2.2.1], fun j hj => by rw [L6.2.2.2.2.1]; exact el j hj, L6.2.2.2.2.2⟩ (fun x7 κ8 hJ K9 hK9 => ⟨fun c1 => ?_, fun c1 => ?_⟩)
    · obtain ⟨j0, j1, j2, j3, j4, j5, j6, j7, j8⟩ := hJ
      have hL : ∀ x ∈ sL κ.1, x ∈ sL κ8.1 ∧ sK κ8.1 x = sK κ.1 x ∧ sN κ8.1 x = sN κ.1 x := fun x hx => by
        rw [j1, j2, j3]
        exact ⟨hx, rfl, rfl⟩
      have hI : ∀ x i, ¬ (x = o ∧ (i = 0 ∨ i = 2)) → sI κ8.1 x i = sI κ.1 x i := fun x i q => by
        rw [j4]
        exact hI6 x i q
      have z8 : (sI κ8.1 o 2).toInt = 0 := by rw [j4]; exact z6
      have hJ : ∀ x i, sJ κ8.1 x i = sJ κ.1 x i := fun x i => by rw [j5]
      have cv := h.lst (κ' := κ8) (d := 0) ho hr e hb hL hI j6 (by omega) j7 (fun i hi => by omega) (fun _ => by omega) (fun _ => rfl) j8
      exact kk κ8 (cv.dn (by omega)) (CF.lst ho hr hb hL hI hJ j6)
    · obtain ⟨j0, j1, j2, j3, j4, j5, j6, j7, j8⟩ := hJ
      have r7 := i_range x7
      refine ⟨b, e4'.trans e, ?_, ?_, Or.inl rfl, fun κ11 k11 z12 e12 => ?_⟩
      · rw [j1, j2]
        exact ⟨mb.1, by rw [mb.2]; decide, by rw [mb.2]; decide⟩
      · rw [j3, lb]
        omega
      · have hz12 := i_add e12 (by omega) (by omega)
        refine hK9 z12 κ11 ⟨by omega, by rw [k11]; exact j1, by rw [k11]; exact j2, by rw [k11]; exact j3, by rw [k11]; exact j4, by rw [k11]; exact j5, fun y j q => ?_, fun j hj => ?_, by rw [k11]; exact j8⟩ (by (try dsimp only); omega)
        · rw [k11]
          show u2 (sP κ8.1) b x7.toInt.toNat none y j = _
          rw [u2_addr q]
          exact j6 y j q
        · rw [k11]
          show u2 (sP κ8.1) b x7.toInt.toNat none b j = none ∨ ∃ y, u2 (sP κ8.1) b x7.toInt.toNat none b j = some y ∧ _
          by_cases q : j = x7.toInt.toNat
          · rw [q, u2_same]
            exact Or.inl rfl
          · rw [u2_pl q]
            exact j7 j hj
end R9V
set_option maxRecDepth 100000 in
set_option maxHeartbeats 4000000 in
theorem tb_X2_begin {G : GE} {E : CE} {W0 : CW} {c : Int} {κ : CS} (hV : CV G E W0 c κ) (h : Nat) (hs_h : W0.1 h = 3)  (hc : 0 ≤ c) {post : CS → Prop} (kk : ∀ (W' : CW) (κ' : CS), WX W0 W' κ → CV G E W' (c - 0) κ' → CF [(3, 0), (3, 1), (3, 6), (3, 7), (32, 0), (63, 1), (64, 1)] W0 κ κ' → LX W0 κ κ' (0) → (True) → post κ') : F_X2_begin G h post κ := by
  have hs0_h := hs_h
  suffices H_ : ∀ W : CW, WX W0 W κ → CV G E W (c - 0) κ → (W.1 h = 3) → F_X2_begin G h post κ from H_ W0 WX.rf (hV.dn (by omega)) hs_h
  intro W hx hV hs_h
  unfold F_X2_begin
  have hfr : CF [(3, 0), (3, 1), (3, 6), (3, 7), (32, 0), (63, 1), (64, 1)] W0 κ κ := CF.rf
  have hlx : LX W0 κ κ 0 := LX.rf
  have k_0 : (0 : Int32).toInt = 0 := rfl
  have k_1 : (1 : Int32).toInt = 1 := rfl
  refine ⟨by omega, (hV.mm hs_h (by decide) rfl), ?_⟩
  intro κ1 eκ1
  have rv_κ1 := i_range 1
  have hV := hV.uI (k := 0) (v := 1) hs_h (Or.inl rfl) (Or.inl (by decide)) (Or.inl (by decide)) (fun _ => (by omega : (0 : Int) ≤ (1 : Int32).toInt ∧ (1 : Int32).toInt ≤ 1)) eκ1
  have uκ1 : (sI κ1.1 h 0).toInt = (1 : Int32).toInt := by rw [eκ1]; exact congrArg Int32.toInt u2_same
  have f1κ1 : CF [(3, 0)] W κ κ1 := CF.rf.uI (k := 0) hs_h (by decide) (show ((3, 0) : Nat × Nat) ∈ ([(3, 0)] : List (Nat × Nat)) by simp) eκ1
  have hlx := hlx.fr hx.1 f1κ1 (by decide)
  have hfr := hfr.trW hx f1κ1 (by decide)
  refine ⟨by omega, (hV.mm hs_h (by decide) rfl), ?_⟩
  intro κ2 eκ2
  have rv_κ2 := i_range 0
  have hV := hV.uI (k := 1) (v := 0) hs_h (Or.inl rfl) (Or.inl (by decide)) (Or.inl (by decide)) (fun _ => (by omega : (0 : Int) ≤ (0 : Int32).toInt ∧ (0 : Int32).toInt ≤ 1)) eκ2
  have uκ2 : (sI κ2.1 h 1).toInt = (0 : Int32).toInt := by rw [eκ2]; exact congrArg Int32.toInt u2_same
  have f1κ2 : CF [(3, 1)] W κ1 κ2 := CF.rf.uI (k := 1) hs_h (by decide) (show ((3, 1) : Nat × Nat) ∈ ([(3, 1)] : List (Nat × Nat)) by simp) eκ2
  have hlx := hlx.fr hx.1 f1κ2 (by decide)
  have hfr := hfr.trW hx f1κ2 (by decide)
  refine ⟨(hV.mm hs_h (by decide) rfl), ?_⟩
  intro z3 ez3
  obtain ⟨bz3, ebz3, hsz3⟩ := hV.1.nn hs_h (by decide) rfl 2 rfl (by decide)
  have ebz3 := ez3.trans ebz3
  refine ⟨bz3, ebz3, (hV.mm hsz3 (by decide) rfl), ?_⟩
  have lv_κ4 : 0 ≤ (sI κ2.1 bz3 1).toInt ∧ (sI κ2.1 bz3 1).toInt ≤ 4004 := hV.1.iv hsz3 (by decide) rfl 1 0 4004 rfl rfl
  intro κ4 eκ4
  obtain ⟨rbκ4, reκ4, rsκ4⟩ := hV.1.nn hsz3 (by decide) rfl 0 rfl (by decide)
  have roκ4 := (hV.2.1 bz3 (by rw [hsz3]; rfl) rbκ4 reκ4).1
  have hV := hV.uRL hsz3 rfl reκ4 (by show 0 ≤ (0 : Int32).toInt ∧ (0 : Int32).toInt ≤ 4004; omega) (by omega) eκ4
  have uκ4 : (sI κ4.1 bz3 1).toInt = (0 : Int32).toInt := by rw [eκ4]; exact congrArg Int32.toInt u2_same
  have hlx := hlx.put (d := 0) (v := 0) eκ4 (by omega)
  have f1κ4 : CF [(64, 1)] W κ2 κ4 := CF.rf.uI (k := 1) hsz3 (by decide) (show ((64, 1) : Nat × Nat) ∈ ([(64, 1)] : List (Nat × Nat)) by simp) eκ4
  have hfr := hfr.trW hx f1κ4 (by decide)
  refine ⟨(hV.mm hs_h (by decide) rfl), ?_⟩
  intro z5 ez5
  obtain ⟨bz5, ebz5, hsz5⟩ := hV.1.nn hs_h (by decide) rfl 4 rfl (by decide)
  have ebz5 := ez5.trans ebz5
  refine ⟨bz5, ebz5, (hV.mm hsz5 (by decide) rfl), ?_⟩
  intro κ6 eκ6
  obtain ⟨rbκ6, reκ6, rsκ6⟩ := hV.1.nn hsz5 (by decide) rfl 0 rfl (by decide)
  have roκ6 := (hV.2.1 bz5 (by rw [hsz5]; rfl) rbκ6 reκ6).1
  have hV := hV.uRL hsz5 rfl reκ6 (by show 0 ≤ (0 : Int32).toInt ∧ (0 : Int32).toInt ≤ 16000; omega) (by omega) eκ6
  have uκ6 : (sI κ6.1 bz5 1).toInt = (0 : Int32).toInt := by rw [eκ6]; exact congrArg Int32.toInt u2_same
  have f1κ6 : CF [(63, 1)] W κ4 κ6 := CF.rf.uI (k := 1) hsz5 (by decide) (show ((63, 1) : Nat × Nat) ∈ ([(63, 1)] : List (Nat × Nat)) by simp) eκ6
  have hlx := hlx.fr hx.1 f1κ6 (by decide)
  have hfr := hfr.trW hx f1κ6 (by decide)
  refine ⟨(hV.mm hs_h (by decide) rfl), ?_⟩
  intro z7 ez7
  obtain ⟨bz7, ebz7, hsz7⟩ := hV.1.nn hs_h (by decide) rfl 5 rfl (by decide)
  have ebz7 := ez7.trans ebz7
  have ln_ := hV.ln hsz7 (by decide) rfl
  have lx_ := hV.1.fx hsz7 (by decide) rfl 16 rfl (by decide)
  refine ⟨bz7, ebz7, (hV.mm hsz7 (by decide) rfl), by omega, ?_⟩
  intro κ8 eκ8
  have hV := hV.uJ eκ8
  have f1κ8 : CF [(32, 0)] W κ6 κ8 := CF.rf.uJ (k := (0 : Int32).toInt.toNat) hsz7 (by decide) (show ((32, 0) : Nat × Nat) ∈ ([(32, 0)] : List (Nat × Nat)) by simp) eκ8
  have hlx := hlx.fr hx.1 f1κ8 (by decide)
  have hfr := hfr.trW hx f1κ8 (by decide)
  refine ⟨(hV.mm hs_h (by decide) rfl), ?_⟩
  intro κ9 eκ9
  have rv_κ9 := i_range 1
  have hV := hV.uI (k := 6) (v := 1) hs_h (Or.inl rfl) (Or.inl (by decide)) (Or.inl (by decide)) (fun _ => (by omega : (0 : Int) ≤ (1 : Int32).toInt ∧ (1 : Int32).toInt ≤ 16)) eκ9
  have uκ9 : (sI κ9.1 h 6).toInt = (1 : Int32).toInt := by rw [eκ9]; exact congrArg Int32.toInt u2_same
  have f1κ9 : CF [(3, 6)] W κ8 κ9 := CF.rf.uI (k := 6) hs_h (by decide) (show ((3, 6) : Nat × Nat) ∈ ([(3, 6)] : List (Nat × Nat)) by simp) eκ9
  have hlx := hlx.fr hx.1 f1κ9 (by decide)
  have hfr := hfr.trW hx f1κ9 (by decide)
  refine ⟨(hV.mm hs_h (by decide) rfl), ?_⟩
  intro κ10 eκ10
  have hV := hV.uJ eκ10
  have f1κ10 : CF [(3, 7)] W κ9 κ10 := CF.rf.uJ (k := 7) hs_h (by decide) (show ((3, 7) : Nat × Nat) ∈ ([(3, 7)] : List (Nat × Nat)) by simp) eκ10
  have hlx := hlx.fr hx.1 f1κ10 (by decide)
  have hfr := hfr.trW hx f1κ10 (by decide)
  exact kk W κ10 hx (hV.dn (by omega)) hfr (hlx.up (by omega)) trivial
set_option maxRecDepth 100000 in
set_option maxHeartbeats 4000000 in
theorem tb_X2_vanish {G : GE} {E : CE} {W0 : CW} {c : Int} {κ : CS} (hV : CV G E W0 c κ) (h : Nat) (hs_h : W0.1 h = 3)  (hc : 0 ≤ c) {post : CS → Prop} (kk : ∀ (W' : CW) (κ' : CS), WX W0 W' κ → CV G E W' (c - 0) κ' → CF [(3, 0), (63, 1), (64, 1)] W0 κ κ' → LX W0 κ κ' (0) → (True) → post κ') : F_X2_vanish G h post κ := by
  have hs0_h := hs_h
  suffices H_ : ∀ W : CW, WX W0 W κ → CV G E W (c - 0) κ → (W.1 h = 3) → F_X2_vanish G h post κ from H_ W0 WX.rf (hV.dn (by omega)) hs_h
  intro W hx hV hs_h
  unfold F_X2_vanish
  have hfr : CF [(3, 0), (63, 1), (64, 1)] W0 κ κ := CF.rf
  have hlx : LX W0 κ κ 0 := LX.rf
  have k_0 : (0 : Int32).toInt = 0 := rfl
  refine ⟨by omega, (hV.mm hs_h (by decide) rfl), ?_⟩
  intro κ1 eκ1
  have rv_κ1 := i_range 0
  have hV := hV.uI (k := 0) (v := 0) hs_h (Or.inl rfl) (Or.inl (by decide)) (Or.inl (by decide)) (fun _ => (by omega : (0 : Int) ≤ (0 : Int32).toInt ∧ (0 : Int32).toInt ≤ 1)) eκ1
  have uκ1 : (sI κ1.1 h 0).toInt = (0 : Int32).toInt := by rw [eκ1]; exact congrArg Int32.toInt u2_same
  have f1κ1 : CF [(3, 0)] W κ κ1 := CF.rf.uI (k := 0) hs_h (by decide) (show ((3, 0) : Nat × Nat) ∈ ([(3, 0)] : List (Nat × Nat)) by simp) eκ1
  have hlx := hlx.fr hx.1 f1κ1 (by decide)
  have hfr := hfr.trW hx f1κ1 (by decide)
  refine ⟨(hV.mm hs_h (by decide) rfl), ?_⟩
  intro z2 ez2
  obtain ⟨bz2, ebz2, hsz2⟩ := hV.1.nn hs_h (by decide) rfl 2 rfl (by decide)
  have ebz2 := ez2.trans ebz2
  refine ⟨bz2, ebz2, (hV.mm hsz2 (by decide) rfl), ?_⟩
  have lv_κ3 : 0 ≤ (sI κ1.1 bz2 1).toInt ∧ (sI κ1.1 bz2 1).toInt ≤ 4004 := hV.1.iv hsz2 (by decide) rfl 1 0 4004 rfl rfl
  intro κ3 eκ3
  obtain ⟨rbκ3, reκ3, rsκ3⟩ := hV.1.nn hsz2 (by decide) rfl 0 rfl (by decide)
  have roκ3 := (hV.2.1 bz2 (by rw [hsz2]; rfl) rbκ3 reκ3).1
  have hV := hV.uRL hsz2 rfl reκ3 (by show 0 ≤ (0 : Int32).toInt ∧ (0 : Int32).toInt ≤ 4004; omega) (by omega) eκ3
  have uκ3 : (sI κ3.1 bz2 1).toInt = (0 : Int32).toInt := by rw [eκ3]; exact congrArg Int32.toInt u2_same
  have hlx := hlx.put (d := 0) (v := 0) eκ3 (by omega)
  have f1κ3 : CF [(64, 1)] W κ1 κ3 := CF.rf.uI (k := 1) hsz2 (by decide) (show ((64, 1) : Nat × Nat) ∈ ([(64, 1)] : List (Nat × Nat)) by simp) eκ3
  have hfr := hfr.trW hx f1κ3 (by decide)
  refine ⟨(hV.mm hs_h (by decide) rfl), ?_⟩
  intro z4 ez4
  obtain ⟨bz4, ebz4, hsz4⟩ := hV.1.nn hs_h (by decide) rfl 4 rfl (by decide)
  have ebz4 := ez4.trans ebz4
  refine ⟨bz4, ebz4, (hV.mm hsz4 (by decide) rfl), ?_⟩
  intro κ5 eκ5
  obtain ⟨rbκ5, reκ5, rsκ5⟩ := hV.1.nn hsz4 (by decide) rfl 0 rfl (by decide)
  have roκ5 := (hV.2.1 bz4 (by rw [hsz4]; rfl) rbκ5 reκ5).1
  have hV := hV.uRL hsz4 rfl reκ5 (by show 0 ≤ (0 : Int32).toInt ∧ (0 : Int32).toInt ≤ 16000; omega) (by omega) eκ5
  have uκ5 : (sI κ5.1 bz4 1).toInt = (0 : Int32).toInt := by rw [eκ5]; exact congrArg Int32.toInt u2_same
  have f1κ5 : CF [(63, 1)] W κ3 κ5 := CF.rf.uI (k := 1) hsz4 (by decide) (show ((63, 1) : Nat × Nat) ∈ ([(63, 1)] : List (Nat × Nat)) by simp) eκ5
  have hlx := hlx.fr hx.1 f1κ5 (by decide)
  have hfr := hfr.trW hx f1κ5 (by decide)
  exact kk W κ5 hx (hV.dn (by omega)) hfr (hlx.up (by omega)) trivial
set_option maxRecDepth 100000 in
set_option maxHeartbeats 4000000 in
theorem tb_X11_connect {G : GE} {E : CE} {W0 : CW} {c : Int} {κ : CS} (hV : CV G E W0 c κ) (h : Nat) (hs_h : W0.1 h = 1) (a1 : Int32)  (hc : 0 ≤ c) {post : Int32 → CS → Prop} (kk : ∀ (r : Int32) (W' : CW) (κ' : CS), WX W0 W' κ → CV G E W' (c - 0) κ' → CF [(3, 0), (3, 1), (3, 6), (3, 7), (32, 0), (63, 1), (64, 1)] W0 κ κ' → LX W0 κ κ' (0) → (0 ≤ r.toInt ∧ r.toInt ≤ 1) → post r κ') : F_X11_connect G h a1 post κ := by
  have hs0_h := hs_h
  suffices H_ : ∀ W : CW, WX W0 W κ → CV G E W (c - 0) κ → (W.1 h = 1) → F_X11_connect G h a1 post κ from H_ W0 WX.rf (hV.dn (by omega)) hs_h
  intro W hx hV hs_h
  unfold F_X11_connect
  have hfr : CF [(3, 0), (3, 1), (3, 6), (3, 7), (32, 0), (63, 1), (64, 1)] W0 κ κ := CF.rf
  have hlx : LX W0 κ κ 0 := LX.rf
  have k_0 : (0 : Int32).toInt = 0 := rfl
  have k_1 : (1 : Int32).toInt = 1 := rfl
  have kl_0 : (0 : Int64).toInt = 0 := rfl
  have kl_1 : (1 : Int64).toInt = 1 := rfl
  have rg_a1 := i_range a1
  refine ⟨(hV.mm hs_h (by decide) rfl), ?_⟩
  refine t_X11_connection hV h hs_h a1  (fun z2 pz2 => ?_)
  refine jc_dup ?_
  refine ⟨fun c1 => ?_, fun c1 => ?_⟩
  · (try dsimp only)
    refine ⟨by omega, ?_⟩
    exact kk 0 W κ hx (hV.dn (by omega)) hfr (hlx.up (by omega)) (by omega)
  · obtain ⟨bn2, ebn2, hsn2⟩ := pz2.resolve_left c1
    refine ⟨bn2, ebn2, (hV.mm hsn2 (by decide) rfl), ?_⟩
    intro z8 ez8
    have vz8 := hV.1.iv hsn2 (by decide) rfl 0 0 1 rfl ez8
    have wz8 : z8.toInt = (sI κ.1 bn2 0).toInt := by rw [ez8]
    refine ⟨fun c2 => ?_, fun c2 => ?_⟩
    · refine ⟨bn2, ebn2, (hV.mm hsn2 (by decide) rfl), ?_⟩
      refine tb_X2_begin hV bn2 hsn2  (by omega) (fun W κ9 x1_ hV fκ9 lκ9 pu3 => ?_)
      have hV : CV G E W (c - 0) κ9 := hV.dn (by omega)
      have hlx := hlx.tr hx.1 lκ9
      have hx2 := hx.tr x1_ hfr.sl
      have hfr := hfr.trW hx fκ9 (by decide)
      have hs_h := WLe.at (x1_).1 hs_h (by decide)
      have hsn2 := WLe.at (x1_).1 hsn2 (by decide)
      have hx := hx2
      refine ⟨by omega, ?_⟩
      exact kk 1 W κ9 hx (hV.dn (by omega)) hfr (hlx.up (by omega)) (by omega)
    · (try dsimp only)
      refine ⟨by omega, ?_⟩
      exact kk 0 W κ hx (hV.dn (by omega)) hfr (hlx.up (by omega)) (by omega)
set_option maxRecDepth 100000 in
set_option maxHeartbeats 4000000 in
theorem t_X11_crash {G : GE} {E : CE} {W0 : CW} {c : Int} {κ : CS} (hV : CV G E W0 c κ) (h : Nat) (hs_h : W0.1 h = 1) (a1 : Int32)  (hc : 0 ≤ c) {post : Int32 → CS → Prop} (kk : ∀ (r : Int32) (W' : CW) (κ' : CS), WX W0 W' κ → CV G E W' (c - 0) κ' → CF [(1, 6), (20, 0), (3, 0), (30, 0), (33, 0), (40, 0), (40, 2), (41, 0), (41, 2), (42, 0), (42, 2), (43, 0), (43, 2), (44, 0), (44, 2), (5, 1), (5, 10), (5, 11), (5, 12), (5, 13), (5, 2), (5, 3), (5, 4), (5, 6), (5, 7), (5, 8), (5, 9), (50, 0), (51, 0), (52, 0), (53, 0), (54, 0), (6, 1), (63, 1), (64, 1)] W0 κ κ' → LX W0 κ κ' (0) → (True) → post r κ') : F_X11_crash G h a1 post κ := by
  have hs0_h := hs_h
  suffices H_ : ∀ W : CW, WX W0 W κ → CV G E W (c - 0) κ → (W.1 h = 1) → F_X11_crash G h a1 post κ from H_ W0 WX.rf (hV.dn (by omega)) hs_h
  intro W hx hV hs_h
  unfold F_X11_crash
  have hfr : CF [(1, 6), (20, 0), (3, 0), (30, 0), (33, 0), (40, 0), (40, 2), (41, 0), (41, 2), (42, 0), (42, 2), (43, 0), (43, 2), (44, 0), (44, 2), (5, 1), (5, 10), (5, 11), (5, 12), (5, 13), (5, 2), (5, 3), (5, 4), (5, 6), (5, 7), (5, 8), (5, 9), (50, 0), (51, 0), (52, 0), (53, 0), (54, 0), (6, 1), (63, 1), (64, 1)] W0 κ κ := CF.rf
  have hlx : LX W0 κ κ 0 := LX.rf
  have k_m1 : ((-1) : Int32).toInt = (-1) := rfl
  have k_0 : (0 : Int32).toInt = 0 := rfl
  have k_1 : (1 : Int32).toInt = 1 := rfl
  have kl_m1 : ((-1) : Int64).toInt = (-1) := rfl
  have kl_0 : (0 : Int64).toInt = 0 := rfl
  have kl_1 : (1 : Int64).toInt = 1 := rfl
  have rg_a1 := i_range a1
  refine jc_dup ?_
  refine ⟨fun c1 => ?_, fun c1 => ?_⟩
  · (try dsimp only)
    exact kk (-1) W κ hx (hV.dn (by omega)) hfr (hlx.up (by omega)) trivial
  · refine ⟨(hV.mm hs_h (by decide) rfl), ?_⟩
    intro z6 ez6
    have vz6 := hV.1.iv hs_h (by decide) rfl 6 (-2147483648) 2147483647 rfl ez6
    have wz6 : z6.toInt = (sI κ.1 h 6).toInt := by rw [ez6]
    refine ⟨fun c2 => ?_, fun c2 => ?_⟩
    · refine ⟨(hV.mm hs_h (by decide) rfl), ?_⟩
      intro z7 ez7
      have vz7 := hV.1.iv hs_h (by decide) rfl 6 (-2147483648) 2147483647 rfl ez7
      have wz7 : z7.toInt = (sI κ.1 h 6).toInt := by rw [ez7]
      refine ⟨(hV.mm hs_h (by decide) rfl), ?_⟩
      intro κ8 eκ8
      have rv_κ8 := i_range a1
      have hV := hV.uI (k := 6) (v := a1) hs_h (Or.inl rfl) (Or.inl (by decide)) (Or.inl (by decide)) (fun _ => (by omega : (-2147483648 : Int) ≤ (a1 : Int32).toInt ∧ (a1 : Int32).toInt ≤ 2147483647)) eκ8
      have uκ8 : (sI κ8.1 h 6).toInt = (a1 : Int32).toInt := by rw [eκ8]; exact congrArg Int32.toInt u2_same
      have f1κ8 : CF [(1, 6)] W κ κ8 := CF.rf.uI (k := 6) hs_h (by decide) (show ((1, 6) : Nat × Nat) ∈ ([(1, 6)] : List (Nat × Nat)) by simp) eκ8
      have hlx := hlx.fr hx.1 f1κ8 (by decide)
      have hfr := hfr.trW hx f1κ8 (by decide)
      refine ⟨(hV.mm hs_h (by decide) rfl), ?_⟩
      refine t_X11_comeToDisk hV h hs_h  (by omega) (fun W κ9 x1_ hV fκ9 pu1 => ?_)
      have hV : CV G E W (c - 0) κ9 := hV.dn (by omega)
      have hlx := hlx.fr hx.1 fκ9 (by decide)
      have hx2 := hx.tr x1_ hfr.sl
      have hfr := hfr.trW hx fκ9 (by decide)
      have hs_h := WLe.at (x1_).1 hs_h (by decide)
      have hx := hx2
      refine ⟨(hV.mm hs_h (by decide) rfl), ?_⟩
      intro z11 ez11
      obtain ⟨bz11, ebz11, hsz11⟩ := hV.1.nn hs_h (by decide) rfl 3 rfl (by decide)
      have ebz11 := ez11.trans ebz11
      refine ⟨(hV.mm hs_h (by decide) rfl), ?_⟩
      intro z12 ez12
      obtain ⟨bz12, ebz12, hsz12⟩ := hV.1.nn hs_h (by decide) rfl 4 rfl (by decide)
      have ebz12 := ez12.trans ebz12
      refine ⟨bz11, ebz11, (hV.mm hsz11 (by decide) rfl), ?_⟩
      refine t_X9_copyFrom hV bz11 hsz11 z12 bz12 ebz12 hsz12  (by omega) (fun W κ13 x1_ hV fκ13 pu2 => ?_)
      have hV : CV G E W (c - 0) κ13 := hV.dn (by omega)
      have hlx := hlx.fr hx.1 fκ13 (by decide)
      have hx2 := hx.tr x1_ hfr.sl
      have hfr := hfr.trW hx fκ13 (by decide)
      have hs_h := WLe.at (x1_).1 hs_h (by decide)
      have hsz11 := WLe.at (x1_).1 hsz11 (by decide)
      have hsz12 := WLe.at (x1_).1 hsz12 (by decide)
      have hx := hx2
      refine lc_in (fun (x : Int32) (κ' : CS) => ∃ W' : CW, WLe W W' ∧ WX W0 W' κ ∧ CV G E W' (c - 0) κ' ∧ CF [(1, 6), (20, 0), (3, 0), (30, 0), (33, 0), (40, 0), (40, 2), (41, 0), (41, 2), (42, 0), (42, 2), (43, 0), (43, 2), (44, 0), (44, 2), (5, 1), (5, 10), (5, 11), (5, 12), (5, 13), (5, 2), (5, 3), (5, 4), (5, 6), (5, 7), (5, 8), (5, 9), (50, 0), (51, 0), (52, 0), (53, 0), (54, 0), (6, 1), (63, 1), (64, 1)] W0 κ κ' ∧ LX W0 κ κ' (0) ∧ (((0 ≤ x.toInt)))) (fun (x : Int32) (κ' : CS) => (2147483647 - x.toInt).toNat) ⟨W, WLe.rf, hx, hV.dn (by (try dsimp only); omega), hfr, hlx.up (by (try dsimp only); omega), (by (try dsimp only); omega)⟩ (fun x15 κ16 hJ K17 hK17 => ?_)
      obtain ⟨W, le41, hx, hV, hfr, hlx, hv⟩ := hJ
      have hs_h := WLe.at le41 hs_h (by decide)
      have hsz11 := WLe.at le41 hsz11 (by decide)
      have hsz12 := WLe.at le41 hsz12 (by decide)
      (try dsimp only at hv)
      have rg_x15 := i_range x15
      refine ⟨(hV.mm hs_h (by decide) rfl), ?_⟩
      intro z19 ez19
      obtain ⟨bz19, ebz19, hsz19⟩ := hV.1.nn hs_h (by decide) rfl 1 rfl (by decide)
      have ebz19 := ez19.trans ebz19
      refine ⟨(W.2 bz19), (AL.of hV ebz19 hsz19 (by decide) rfl (by decide)), ?_⟩
      intro z20 ez20
      have lnz20 := nI_ln ez20 (hV.lm hsz19 (by decide) rfl)
      have lmz20 := (hV.lm hsz19 (by decide) rfl)
      have lxz20 := hV.1.fx hsz19 (by decide) rfl 6 rfl (by decide)
      refine ⟨fun c3 => ?_, fun c3 => ?_⟩
      · refine ⟨(hV.mm hs_h (by decide) rfl), ?_⟩
        intro z21 ez21
        obtain ⟨bz21, ebz21, hsz21⟩ := hV.1.nn hs_h (by decide) rfl 8 rfl (by decide)
        have ebz21 := ez21.trans ebz21
        refine ⟨bz21, ebz21, (hV.mm hsz21 (by decide) rfl), ?_⟩
        refine t_Jx4a65c_clear_da8c8 hV bz21 hsz21 (by decide) (fun κ22 hV fκ22 => ?_)
        have hlx := hlx.fr hx.1 fκ22 (by decide)
        have hfr := hfr.trW hx fκ22 (by decide)
        refine ⟨(hV.mm hs_h (by decide) rfl), ?_⟩
        intro z24 ez24
        obtain ⟨bz24, ebz24, hsz24⟩ := hV.1.nn hs_h (by decide) rfl 9 rfl (by decide)
        have ebz24 := ez24.trans ebz24
        refine ⟨bz24, ebz24, (hV.mm hsz24 (by decide) rfl), ?_⟩
        refine t_Jx4a65c_clear_da8c8 hV bz24 hsz24 (by decide) (fun κ25 hV fκ25 => ?_)
        have hlx := hlx.fr hx.1 fκ25 (by decide)
        have hfr := hfr.trW hx fκ25 (by decide)
        refine ⟨(hV.mm hs_h (by decide) rfl), ?_⟩
        intro z27 ez27
        obtain ⟨bz27, ebz27, hsz27⟩ := hV.1.nn hs_h (by decide) rfl 10 rfl (by decide)
        have ebz27 := ez27.trans ebz27
        refine ⟨bz27, ebz27, (hV.mm hsz27 (by decide) rfl), ?_⟩
        refine t_Jx4a65c_clear_da8c8 hV bz27 hsz27 (by decide) (fun κ28 hV fκ28 => ?_)
        have hlx := hlx.fr hx.1 fκ28 (by decide)
        have hfr := hfr.trW hx fκ28 (by decide)
        refine ⟨(hV.mm hs_h (by decide) rfl), ?_⟩
        intro z30 ez30
        obtain ⟨bz30, ebz30, hsz30⟩ := hV.1.nn hs_h (by decide) rfl 11 rfl (by decide)
        have ebz30 := ez30.trans ebz30
        refine ⟨bz30, ebz30, (hV.mm hsz30 (by decide) rfl), ?_⟩
        refine t_Jx4a65c_clear_da8c8 hV bz30 hsz30 (by decide) (fun κ31 hV fκ31 => ?_)
        have hlx := hlx.fr hx.1 fκ31 (by decide)
        have hfr := hfr.trW hx fκ31 (by decide)
        refine ⟨(hV.mm hs_h (by decide) rfl), ?_⟩
        intro z33 ez33
        obtain ⟨bz33, ebz33, hsz33⟩ := hV.1.nn hs_h (by decide) rfl 12 rfl (by decide)
        have ebz33 := ez33.trans ebz33
        refine ⟨bz33, ebz33, (hV.mm hsz33 (by decide) rfl), ?_⟩
        refine t_Jx4a65c_clear_da8c8 hV bz33 hsz33 (by decide) (fun κ34 hV fκ34 => ?_)
        have hlx := hlx.fr hx.1 fκ34 (by decide)
        have hfr := hfr.trW hx fκ34 (by decide)
        refine ⟨(hV.mm hs_h (by decide) rfl), ?_⟩
        intro z36 ez36
        obtain ⟨bz36, ebz36, hsz36⟩ := hV.1.nn hs_h (by decide) rfl 13 rfl (by decide)
        have ebz36 := ez36.trans ebz36
        refine t_J7_fill_d0a16 hV z36 bz36 ebz36 hsz36 0  (fun κ37 hV fκ37 pu3 => ?_)
        have hlx := hlx.fr hx.1 fκ37 (by decide)
        have hfr := hfr.trW hx fκ37 (by decide)
        exact kk z7 W κ37 hx (hV.dn (by omega)) hfr (hlx.up (by omega)) trivial
      · refine ⟨(hV.mm hs_h (by decide) rfl), ?_⟩
        intro z39 ez39
        have ebz39 : z39 = some bz19 := (ez39.trans ez19.symm).trans ebz19
        have ln_ := hV.ln hsz19 (by decide) rfl
        have lx_ := hV.1.fx hsz19 (by decide) rfl 6 rfl (by decide)
        refine ⟨bz19, ebz39, ⟨(hV.mm hsz19 (by decide) rfl).1, by rw [(hV.mm hsz19 (by decide) rfl).2]; decide⟩, by omega, ?_⟩
        intro z40 ez40
        obtain ⟨bz40, ebz40, hsz40⟩ := (hV.1.el hsz19 (by decide) rfl x15.toInt.toNat (by omega)).2.nn (by decide)
        rw [← ez40] at ebz40
        refine ⟨bz40, ebz40, (hV.mm hsz40 (by decide) rfl), ?_⟩
        refine tb_X2_vanish hV bz40 hsz40  (by omega) (fun W κ41 x1_ hV fκ41 lκ41 pu4 => ?_)
        have hV : CV G E W (c - 0) κ41 := hV.dn (by omega)
        have hlx := hlx.tr hx.1 lκ41
        have hx2 := hx.tr x1_ hfr.sl
        have hfr := hfr.trW hx fκ41 (by decide)
        have hs_h := WLe.at (x1_).1 hs_h (by decide)
        have hsz11 := WLe.at (x1_).1 hsz11 (by decide)
        have hsz12 := WLe.at (x1_).1 hsz12 (by decide)
        have wl_bz19 := ((x1_).1 bz19 (by rw [hsz19]; decide)).2
        have hsz19 := WLe.at (x1_).1 hsz19 (by decide)
        have hsz40 := WLe.at (x1_).1 hsz40 (by decide)
        have le41 := WLe.tr le41 (x1_).1
        have hx := hx2
        intro z43 ez43
        try have hz43 := i_add ez43 (by omega) (by omega)
        have rg_z43 := i_range z43
        exact hK17 z43 κ41 ⟨W, le41, hx, hV.dn (by (try dsimp only); omega), hfr, hlx.up (by (try dsimp only); omega), (by (try dsimp only); omega)⟩ (by (try dsimp only); omega)
    · (try dsimp only)
      exact kk (-1) W κ hx (hV.dn (by omega)) hfr (hlx.up (by omega)) trivial
set_option maxRecDepth 100000 in
set_option maxHeartbeats 4000000 in
theorem tb_X11_feed {G : GE} {E : CE} {W0 : CW} {c : Int} {κ : CS} (hV : CV G E W0 c κ) (h : Nat) (hs_h : W0.1 h = 1) (a1 : Int32) (a2 : Int32) (a3 : Int32) (a4 : Int32) (a5 : Int32) (hk0 : ∃ b, sP κ.1 h 0 = some b ∧ W0.1 b = 60 ∧ (True))  (hc : 0 ≤ c) {post : Int32 → CS → Prop} (kk : ∀ (r : Int32) (W' : CW) (κ' : CS), WX W0 W' κ → CV G E W' (c - 0) κ' → CF [(20, 0), (60, 0), (60, 1)] W0 κ κ' → (∀ t, sP κ.1 h 0 = some t → (sI κ'.1 t 1).toInt ≤ (sI κ.1 t 1).toInt + 20) → post r κ') : F_X11_feed G h a1 a2 a3 a4 a5 post κ := by
  have hs0_h := hs_h
  have hk00 := hk0
  suffices H_ : ∀ W : CW, WX W0 W κ → CV G E W (c - 0) κ → (W.1 h = 1) → (∃ b, sP κ.1 h 0 = some b ∧ W.1 b = 60 ∧ (True)) → F_X11_feed G h a1 a2 a3 a4 a5 post κ from H_ W0 WX.rf (hV.dn (by omega)) hs_h hk0
  intro W hx hV hs_h hk0
  unfold F_X11_feed
  have hfr : CF [(20, 0), (60, 0), (60, 1)] W0 κ κ := CF.rf
  have k_m1 : ((-1) : Int32).toInt = (-1) := rfl
  have k_0 : (0 : Int32).toInt = 0 := rfl
  have k_20 : (20 : Int32).toInt = 20 := rfl
  have k_8000 : (8000 : Int32).toInt = 8000 := rfl
  have kl_m1 : ((-1) : Int64).toInt = (-1) := rfl
  have kl_20 : (20 : Int64).toInt = 20 := rfl
  have rg_a1 := i_range a1
  have rg_a2 := i_range a2
  have rg_a3 := i_range a3
  have rg_a4 := i_range a4
  have rg_a5 := i_range a5
  obtain ⟨bp0, ep0, wp0, xp0⟩ := hk0
  have lt_ : 0 ≤ (sI κ.1 bp0 1).toInt ∧ (sI κ.1 bp0 1).toInt ≤ 8000 := hV.1.iv wp0 (by decide) rfl 1 0 8000 rfl rfl
  refine ⟨(hV.mm hs_h (by decide) rfl), ?_⟩
  intro z1 ez1
  have ebz1 : z1 = some bp0 := ez1.trans ep0
  refine ⟨bp0, ebz1, (hV.mm wp0 (by decide) rfl), ?_⟩
  intro z2 ez2
  have vz2 := hV.1.iv wp0 (by decide) rfl 1 0 8000 rfl ez2
  have wz2 : z2.toInt = (sI κ.1 bp0 1).toInt := by rw [ez2]
  intro z3 ez3
  try have hz3 := i_add ez3 (by omega) (by omega)
  have rg_z3 := i_range z3
  refine ⟨fun c1 => ?_, fun c1 => ?_⟩
  · refine ⟨(hV.mm hs_h (by decide) rfl), ?_⟩
    intro z4 ez4
    have ebz4 : z4 = some bp0 := ez4.trans ep0
    refine ⟨bp0, ebz4, (hV.mm wp0 (by decide) rfl), ?_⟩
    refine t_X6_addHighestFirst hV bp0 wp0 a1 (by omega) (by omega) (fun W κ5 x1_ hV fκ5 pu1 => ?_)
    have hV : CV G E W (c - 0) κ5 := hV.dn (by omega)
    have pk1 := (fκ5.1 h (by rw [hs_h]; decide) 0 (by rw [hs_h]; decide)).2.2.trans ep0
    have hx2 := hx.tr x1_ hfr.sl
    have hfr := hfr.trW hx fκ5 (by decide)
    have hs_h := WLe.at (x1_).1 hs_h (by decide)
    have wp0 := WLe.at (x1_).1 wp0 (by decide)
    have hx := hx2
    refine ⟨(hV.mm hs_h (by decide) rfl), ?_⟩
    intro z7 ez7
    have ebz7 : z7 = some bp0 := ez7.trans pk1
    refine ⟨bp0, ebz7, (hV.mm wp0 (by decide) rfl), ?_⟩
    refine t_X6_addHighestFirst hV bp0 wp0 a2 (by omega) (by omega) (fun W κ8 x1_ hV fκ8 pu2 => ?_)
    have hV : CV G E W (c - 0) κ8 := hV.dn (by omega)
    have pk2 := (fκ8.1 h (by rw [hs_h]; decide) 0 (by rw [hs_h]; decide)).2.2.trans pk1
    have hx2 := hx.tr x1_ hfr.sl
    have hfr := hfr.trW hx fκ8 (by decide)
    have hs_h := WLe.at (x1_).1 hs_h (by decide)
    have wp0 := WLe.at (x1_).1 wp0 (by decide)
    have hx := hx2
    refine ⟨(hV.mm hs_h (by decide) rfl), ?_⟩
    intro z10 ez10
    have ebz10 : z10 = some bp0 := ez10.trans pk2
    refine ⟨bp0, ebz10, (hV.mm wp0 (by decide) rfl), ?_⟩
    refine t_X6_addHighestFirst hV bp0 wp0 a3 (by omega) (by omega) (fun W κ11 x1_ hV fκ11 pu3 => ?_)
    have hV : CV G E W (c - 0) κ11 := hV.dn (by omega)
    have pk3 := (fκ11.1 h (by rw [hs_h]; decide) 0 (by rw [hs_h]; decide)).2.2.trans pk2
    have hx2 := hx.tr x1_ hfr.sl
    have hfr := hfr.trW hx fκ11 (by decide)
    have hs_h := WLe.at (x1_).1 hs_h (by decide)
    have wp0 := WLe.at (x1_).1 wp0 (by decide)
    have hx := hx2
    refine ⟨(hV.mm hs_h (by decide) rfl), ?_⟩
    intro z13 ez13
    have ebz13 : z13 = some bp0 := ez13.trans pk3
    refine ⟨bp0, ebz13, (hV.mm wp0 (by decide) rfl), ?_⟩
    refine t_X6_addHighestFirst hV bp0 wp0 a4 (by omega) (by omega) (fun W κ14 x1_ hV fκ14 pu4 => ?_)
    have hV : CV G E W (c - 0) κ14 := hV.dn (by omega)
    have pk4 := (fκ14.1 h (by rw [hs_h]; decide) 0 (by rw [hs_h]; decide)).2.2.trans pk3
    have hx2 := hx.tr x1_ hfr.sl
    have hfr := hfr.trW hx fκ14 (by decide)
    have hs_h := WLe.at (x1_).1 hs_h (by decide)
    have wp0 := WLe.at (x1_).1 wp0 (by decide)
    have hx := hx2
    refine ⟨(hV.mm hs_h (by decide) rfl), ?_⟩
    intro z16 ez16
    have ebz16 : z16 = some bp0 := ez16.trans pk4
    refine ⟨bp0, ebz16, (hV.mm wp0 (by decide) rfl), ?_⟩
    refine t_X6_addHighestFirst hV bp0 wp0 a5 (by omega) (by omega) (fun W κ17 x1_ hV fκ17 pu5 => ?_)
    have hV : CV G E W (c - 0) κ17 := hV.dn (by omega)
    have pk5 := (fκ17.1 h (by rw [hs_h]; decide) 0 (by rw [hs_h]; decide)).2.2.trans pk4
    have hx2 := hx.tr x1_ hfr.sl
    have hfr := hfr.trW hx fκ17 (by decide)
    have hs_h := WLe.at (x1_).1 hs_h (by decide)
    have wp0 := WLe.at (x1_).1 wp0 (by decide)
    have hx := hx2
    refine ⟨(hV.mm hs_h (by decide) rfl), ?_⟩
    intro z19 ez19
    have ebz19 : z19 = some bp0 := ez19.trans pk5
    refine ⟨bp0, ebz19, (hV.mm wp0 (by decide) rfl), ?_⟩
    intro z20 ez20
    have vz20 := hV.1.iv wp0 (by decide) rfl 1 0 8000 rfl ez20
    have wz20 : z20.toInt = (sI κ17.1 bp0 1).toInt := by rw [ez20]
    exact kk z20 W κ17 hx (hV.dn (by omega)) hfr (fun t e => by rw [show t = bp0 from Option.some.inj (e.symm.trans ep0)]; omega)
  · exact kk (-1) W κ hx (hV.dn (by omega)) hfr (fun t e => by rw [show t = bp0 from Option.some.inj (e.symm.trans ep0)]; omega)
set_option maxRecDepth 100000 in
set_option maxHeartbeats 4000000 in
theorem tb_X11_cut {G : GE} {E : CE} {W0 : CW} {c : Int} {κ : CS} (hV : CV G E W0 c κ) (h : Nat) (hs_h : W0.1 h = 1) (a1 : Int32) (hk0 : ∃ b, sP κ.1 h 0 = some b ∧ W0.1 b = 60 ∧ (True))  (hc : 0 ≤ c) {post : Int32 → CS → Prop} (kk : ∀ (r : Int32) (W' : CW) (κ' : CS), WX W0 W' κ → CV G E W' (c - 0) κ' → CF [(60, 1)] W0 κ κ' → (∀ t, sP κ.1 h 0 = some t → (sI κ'.1 t 1).toInt ≤ (sI κ.1 t 1).toInt + 0) → post r κ') : F_X11_cut G h a1 post κ := by
  have hs0_h := hs_h
  have hk00 := hk0
  suffices H_ : ∀ W : CW, WX W0 W κ → CV G E W (c - 0) κ → (W.1 h = 1) → (∃ b, sP κ.1 h 0 = some b ∧ W.1 b = 60 ∧ (True)) → F_X11_cut G h a1 post κ from H_ W0 WX.rf (hV.dn (by omega)) hs_h hk0
  intro W hx hV hs_h hk0
  unfold F_X11_cut
  have hfr : CF [(60, 1)] W0 κ κ := CF.rf
  have k_m1 : ((-1) : Int32).toInt = (-1) := rfl
  have k_0 : (0 : Int32).toInt = 0 := rfl
  have kl_m1 : ((-1) : Int64).toInt = (-1) := rfl
  have rg_a1 := i_range a1
  obtain ⟨bp0, ep0, wp0, xp0⟩ := hk0
  have lt_ : 0 ≤ (sI κ.1 bp0 1).toInt ∧ (sI κ.1 bp0 1).toInt ≤ 8000 := hV.1.iv wp0 (by decide) rfl 1 0 8000 rfl rfl
  refine jc_dup ?_
  refine ⟨fun c1 => ?_, fun c1 => ?_⟩
  · (try dsimp only)
    exact kk (-1) W κ hx (hV.dn (by omega)) hfr (fun t e => by rw [show t = bp0 from Option.some.inj (e.symm.trans ep0)]; omega)
  · refine ⟨(hV.mm hs_h (by decide) rfl), ?_⟩
    intro z6 ez6
    have ebz6 : z6 = some bp0 := ez6.trans ep0
    refine ⟨bp0, ebz6, (hV.mm wp0 (by decide) rfl), ?_⟩
    intro z7 ez7
    have vz7 := hV.1.iv wp0 (by decide) rfl 1 0 8000 rfl ez7
    have wz7 : z7.toInt = (sI κ.1 bp0 1).toInt := by rw [ez7]
    refine ⟨fun c2 => ?_, fun c2 => ?_⟩
    · refine ⟨(hV.mm hs_h (by decide) rfl), ?_⟩
      intro z8 ez8
      have ebz8 : z8 = some bp0 := ez8.trans ep0
      refine ⟨bp0, ebz8, (hV.mm wp0 (by decide) rfl), ?_⟩
      intro z9 ez9
      have vz9 := hV.1.iv wp0 (by decide) rfl 1 0 8000 rfl ez9
      have wz9 : z9.toInt = (sI κ.1 bp0 1).toInt := by rw [ez9]
      intro z10 ez10
      try have hz10 := i_sub ez10 (by omega) (by omega)
      have rg_z10 := i_range z10
      refine ⟨(hV.mm hs_h (by decide) rfl), ?_⟩
      intro z11 ez11
      have ebz11 : z11 = some bp0 := ez11.trans ep0
      refine ⟨bp0, ebz11, (hV.mm wp0 (by decide) rfl), ?_⟩
      intro κ12 eκ12
      obtain ⟨rbκ12, reκ12, rsκ12⟩ := hV.1.nn wp0 (by decide) rfl 0 rfl (by decide)
      have roκ12 := (hV.2.1 bp0 (by rw [wp0]; rfl) rbκ12 reκ12).1
      have hV := hV.uRL wp0 rfl reκ12 (by show 0 ≤ (a1 : Int32).toInt ∧ (a1 : Int32).toInt ≤ 8000; omega) (by omega) eκ12
      have uκ12 : (sI κ12.1 bp0 1).toInt = (a1 : Int32).toInt := by rw [eκ12]; exact congrArg Int32.toInt u2_same
      have f1κ12 : CF [(60, 1)] W κ κ12 := CF.rf.uI (k := 1) wp0 (by decide) (show ((60, 1) : Nat × Nat) ∈ ([(60, 1)] : List (Nat × Nat)) by simp) eκ12
      have pk1 := (f1κ12.1 h (by rw [hs_h]; decide) 0 (by rw [hs_h]; decide)).2.2.trans ep0
      have hfr := hfr.trW hx f1κ12 (by decide)
      exact kk z10 W κ12 hx (hV.dn (by omega)) hfr (fun t e => by rw [show t = bp0 from Option.some.inj (e.symm.trans ep0)]; omega)
    · (try dsimp only)
      exact kk (-1) W κ hx (hV.dn (by omega)) hfr (fun t e => by rw [show t = bp0 from Option.some.inj (e.symm.trans ep0)]; omega)
set_option maxRecDepth 100000 in
set_option maxHeartbeats 4000000 in
theorem tb_X11_share {G : GE} {E : CE} {W0 : CW} {c : Int} {κ : CS} (hV : CV G E W0 c κ) (h : Nat) (hs_h : W0.1 h = 1) (a1 : Int32) (hk0 : ∃ b, sP κ.1 h 0 = some b ∧ W0.1 b = 60 ∧ (True))  (hc : 0 ≤ c) {post : Int32 → CS → Prop} (kk : ∀ (r : Int32) (W' : CW) (κ' : CS), WX W0 W' κ → CV G E W' (c - 0) κ' → CF [(1, 6), (20, 0), (30, 0), (34, 0), (4, 0), (4, 1), (4, 10), (4, 11), (4, 12), (4, 13), (4, 2), (4, 3), (4, 5), (4, 6), (4, 7), (4, 8), (4, 9), (5, 1), (5, 10), (5, 11), (5, 12), (5, 13), (5, 2), (5, 3), (5, 4), (5, 6), (5, 7), (5, 8), (5, 9), (6, 1), (60, 1)] W0 κ κ' → (∀ t, sP κ.1 h 0 = some t → (sI κ'.1 t 1).toInt ≤ (sI κ.1 t 1).toInt + 0) → post r κ') : F_X11_share G h a1 post κ := by
  have hs0_h := hs_h
  have hk00 := hk0
  suffices H_ : ∀ W : CW, WX W0 W κ → CV G E W (c - 0) κ → (W.1 h = 1) → (∃ b, sP κ.1 h 0 = some b ∧ W.1 b = 60 ∧ (True)) → F_X11_share G h a1 post κ from H_ W0 WX.rf (hV.dn (by omega)) hs_h hk0
  intro W hx hV hs_h hk0
  unfold F_X11_share
  have hfr : CF [(1, 6), (20, 0), (30, 0), (34, 0), (4, 0), (4, 1), (4, 10), (4, 11), (4, 12), (4, 13), (4, 2), (4, 3), (4, 5), (4, 6), (4, 7), (4, 8), (4, 9), (5, 1), (5, 10), (5, 11), (5, 12), (5, 13), (5, 2), (5, 3), (5, 4), (5, 6), (5, 7), (5, 8), (5, 9), (6, 1), (60, 1)] W0 κ κ := CF.rf
  have k_m1 : ((-1) : Int32).toInt = (-1) := rfl
  have k_0 : (0 : Int32).toInt = 0 := rfl
  have k_1 : (1 : Int32).toInt = 1 := rfl
  have k_80 : (80 : Int32).toInt = 80 := rfl
  have kl_0 : (0 : Int64).toInt = 0 := rfl
  have kl_1 : (1 : Int64).toInt = 1 := rfl
  have rg_a1 := i_range a1
  obtain ⟨bp0, ep0, wp0, xp0⟩ := hk0
  have lt_ : 0 ≤ (sI κ.1 bp0 1).toInt ∧ (sI κ.1 bp0 1).toInt ≤ 8000 := hV.1.iv wp0 (by decide) rfl 1 0 8000 rfl rfl
  refine jc_in (fun (x : Int32) (κ' : CS) => κ = κ' ∧ (((0 ≤ x.toInt ∧ x.toInt ≤ 1) ∧ (x.toInt = 0 ∨ (0 ≤ a1.toInt ∧ a1.toInt < 4))))) (fun x1 κ2 hJ => ?_) (fun K3 hK3 => ?_)
  · obtain ⟨hsg, hv⟩ := hJ
    subst hsg
    (try dsimp only at hv)
    have rg_x1 := i_range x1
    refine jc_dup ?_
    refine ⟨fun c1 => ?_, fun c1 => ?_⟩
    · (try dsimp only)
      refine ⟨(hV.mm hs_h (by decide) rfl), ?_⟩
      intro z11 ez11
      have ebz11 : z11 = some bp0 := ez11.trans ep0
      refine ⟨bp0, ebz11, (hV.mm wp0 (by decide) rfl), ?_⟩
      intro κ12 eκ12
      obtain ⟨rbκ12, reκ12, rsκ12⟩ := hV.1.nn wp0 (by decide) rfl 0 rfl (by decide)
      have roκ12 := (hV.2.1 bp0 (by rw [wp0]; rfl) rbκ12 reκ12).1
      have hV := hV.uRL wp0 rfl reκ12 (by show 0 ≤ (0 : Int32).toInt ∧ (0 : Int32).toInt ≤ 8000; omega) (by omega) eκ12
      have uκ12 : (sI κ12.1 bp0 1).toInt = (0 : Int32).toInt := by rw [eκ12]; exact congrArg Int32.toInt u2_same
      have f1κ12 : CF [(60, 1)] W κ κ12 := CF.rf.uI (k := 1) wp0 (by decide) (show ((60, 1) : Nat × Nat) ∈ ([(60, 1)] : List (Nat × Nat)) by simp) eκ12
      have pk1 := (f1κ12.1 h (by rw [hs_h]; decide) 0 (by rw [hs_h]; decide)).2.2.trans ep0
      have hfr := hfr.trW hx f1κ12 (by decide)
      refine ⟨by omega, ?_⟩
      exact kk x1 W κ12 hx (hV.dn (by omega)) hfr (fun t e => by rw [show t = bp0 from Option.some.inj (e.symm.trans ep0)]; omega)
    · refine ⟨(hV.mm hs_h (by decide) rfl), ?_⟩
      intro z13 ez13
      obtain ⟨bz13, ebz13, hsz13⟩ := hV.1.nn hs_h (by decide) rfl 2 rfl (by decide)
      have ebz13 := ez13.trans ebz13
      refine ⟨(hV.mm hs_h (by decide) rfl), ?_⟩
      refine t_X11_makeRoot hV h hs_h  (by omega) (fun z15 W κ14 x1_ hV fκ14 pz15 => ?_)
      have hV : CV G E W (c - 0) κ14 := hV.dn (by omega)
      have tk2 : (sI κ14.1 bp0 1).toInt = (sI κ.1 bp0 1).toInt := by rw [(fκ14.1 bp0 (by rw [wp0]; decide) 1 (by rw [wp0]; decide)).1]
      have pk3 := (fκ14.1 h (by rw [hs_h]; decide) 0 (by rw [hs_h]; decide)).2.2.trans ep0
      have hx2 := hx.tr x1_ hfr.sl
      have hfr := hfr.trW hx fκ14 (by decide)
      have hs_h := WLe.at (x1_).1 hs_h (by decide)
      have wp0 := WLe.at (x1_).1 wp0 (by decide)
      have wl_bz13 := ((x1_).1 bz13 (by rw [hsz13]; decide)).2
      have hsz13 := WLe.at (x1_).1 hsz13 (by decide)
      have hx := hx2
      have rg_z15 := i_range z15
      have ln_ := hV.ln hsz13 (by decide) rfl
      have lx_ := hV.1.fx hsz13 (by decide) rfl 4 rfl (by decide)
      refine ⟨bz13, ebz13, (hV.mm hsz13 (by decide) rfl), by omega, ?_⟩
      intro κ16 eκ16
      have hV := hV.uI (k := a1.toInt.toNat) (v := z15) hsz13 (Or.inl rfl) (Or.inl (by decide)) (Or.inl (by decide)) (fun _ => (by have q := i_range z15; exact q)) eκ16
      have f1κ16 : CF [(34, 0)] W κ14 κ16 := CF.rf.uI (k := a1.toInt.toNat) hsz13 (by decide) (show ((34, 0) : Nat × Nat) ∈ ([(34, 0)] : List (Nat × Nat)) by simp) eκ16
      have tk4 : (sI κ16.1 bp0 1).toInt = (sI κ14.1 bp0 1).toInt := by rw [(f1κ16.1 bp0 (by rw [wp0]; decide) 1 (by rw [wp0]; decide)).1]
      have pk5 := (f1κ16.1 h (by rw [hs_h]; decide) 0 (by rw [hs_h]; decide)).2.2.trans pk3
      have hfr := hfr.trW hx f1κ16 (by decide)
      (try dsimp only)
      refine ⟨(hV.mm hs_h (by decide) rfl), ?_⟩
      intro z11 ez11
      have ebz11 : z11 = some bp0 := ez11.trans pk5
      refine ⟨bp0, ebz11, (hV.mm wp0 (by decide) rfl), ?_⟩
      intro κ12 eκ12
      obtain ⟨rbκ12, reκ12, rsκ12⟩ := hV.1.nn wp0 (by decide) rfl 0 rfl (by decide)
      have roκ12 := (hV.2.1 bp0 (by rw [wp0]; rfl) rbκ12 reκ12).1
      have hV := hV.uRL wp0 rfl reκ12 (by show 0 ≤ (0 : Int32).toInt ∧ (0 : Int32).toInt ≤ 8000; omega) (by omega) eκ12
      have uκ12 : (sI κ12.1 bp0 1).toInt = (0 : Int32).toInt := by rw [eκ12]; exact congrArg Int32.toInt u2_same
      have f1κ12 : CF [(60, 1)] W κ16 κ12 := CF.rf.uI (k := 1) wp0 (by decide) (show ((60, 1) : Nat × Nat) ∈ ([(60, 1)] : List (Nat × Nat)) by simp) eκ12
      have pk6 := (f1κ12.1 h (by rw [hs_h]; decide) 0 (by rw [hs_h]; decide)).2.2.trans pk5
      have hfr := hfr.trW hx f1κ12 (by decide)
      refine ⟨by omega, ?_⟩
      exact kk x1 W κ12 hx (hV.dn (by omega)) hfr (fun t e => by rw [show t = bp0 from Option.some.inj (e.symm.trans ep0)]; omega)
  · skip
    refine jc_dup ?_
    refine ⟨fun c2 => ?_, fun c2 => ?_⟩
    · (try dsimp only)
      exact hK3 0 κ ⟨rfl, (by (try dsimp only); omega)⟩
    · refine ⟨(hV.mm hs_h (by decide) rfl), ?_⟩
      intro z22 ez22
      obtain ⟨bz22, ebz22, hsz22⟩ := hV.1.nn hs_h (by decide) rfl 2 rfl (by decide)
      have ebz22 := ez22.trans ebz22
      refine ⟨(W.2 bz22), (AL.of hV ebz22 hsz22 (by decide) rfl (by decide)), ?_⟩
      intro z23 ez23
      have lnz23 := nI_ln ez23 (hV.lm hsz22 (by decide) rfl)
      have lmz23 := (hV.lm hsz22 (by decide) rfl)
      have lxz23 := hV.1.fx hsz22 (by decide) rfl 4 rfl (by decide)
      refine ⟨fun c3 => ?_, fun c3 => ?_⟩
      · (try dsimp only)
        exact hK3 0 κ ⟨rfl, (by (try dsimp only); omega)⟩
      · refine ⟨(hV.mm hs_h (by decide) rfl), ?_⟩
        intro z24 ez24
        have ebz24 : z24 = some bz22 := (ez24.trans ez22.symm).trans ebz22
        have ln_ := hV.ln hsz22 (by decide) rfl
        have lx_ := hV.1.fx hsz22 (by decide) rfl 4 rfl (by decide)
        refine ⟨bz22, ebz24, (hV.mm hsz22 (by decide) rfl), by omega, ?_⟩
        intro z25 ez25
        have rg_z25 := i_range z25
        refine ⟨fun c4 => ?_, fun c4 => ?_⟩
        · (try dsimp only)
          exact hK3 0 κ ⟨rfl, (by (try dsimp only); omega)⟩
        · refine ⟨(hV.mm hs_h (by decide) rfl), ?_⟩
          refine t_X11_tapeIsShareName hV h hs_h  (fun z27 pz27 => ?_)
          have rg_z27 := i_range z27
          refine ⟨fun c5 => ?_, fun c5 => ?_⟩
          · (try dsimp only)
            exact hK3 0 κ ⟨rfl, (by (try dsimp only); omega)⟩
          · refine ⟨(hV.mm hs_h (by decide) rfl), ?_⟩
            intro z28 ez28
            have ebz28 : z28 = some bp0 := ez28.trans ep0
            refine ⟨(hV.mm hs_h (by decide) rfl), ?_⟩
            intro z29 ez29
            have ebz29 : z29 = some bp0 := ez29.trans ep0
            refine ⟨bp0, ebz29, (hV.mm wp0 (by decide) rfl), ?_⟩
            intro z30 ez30
            have vz30 := hV.1.iv wp0 (by decide) rfl 1 0 8000 rfl ez30
            have wz30 : z30.toInt = (sI κ.1 bp0 1).toInt := by rw [ez30]
            refine ⟨(hV.mm hs_h (by decide) rfl), ?_⟩
            refine t_X11_rootNamed hV h hs_h z28 bp0 ebz28 wp0 (by rfl) 0 1 z30  (fun z32 pz32 => ?_)
            refine ⟨fun c6 => ?_, fun c6 => ?_⟩
            · obtain ⟨bn4, ebn4, hsn4⟩ := pz32.resolve_left c6
              (try dsimp only)
              exact hK3 0 κ ⟨rfl, (by (try dsimp only); omega)⟩
            · refine ⟨(hV.mm hs_h (by decide) rfl), ?_⟩
              intro z33 ez33
              obtain ⟨bz33, ebz33, hsz33⟩ := hV.1.nn hs_h (by decide) rfl 3 rfl (by decide)
              have ebz33 := ez33.trans ebz33
              refine ⟨bz33, ebz33, (hV.mm hsz33 (by decide) rfl), ?_⟩
              intro z34 ez34
              have vz34 := hV.1.iv hsz33 (by decide) rfl 1 (-2147483648) 2147483647 rfl ez34
              have wz34 : z34.toInt = (sI κ.1 bz33 1).toInt := by rw [ez34]
              refine ⟨fun c7 => ?_, fun c7 => ?_⟩
              · (try dsimp only)
                exact hK3 0 κ ⟨rfl, (by (try dsimp only); omega)⟩
              · exact hK3 1 κ ⟨rfl, (by (try dsimp only); omega)⟩

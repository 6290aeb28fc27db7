/-! the class: rows that grow -/
set_option maxRecDepth 100000 in
set_option maxHeartbeats 4000000 in
theorem t_X6_begin {G : GE} {E : CE} {W0 : CW} {c : Int} {κ : CS} (hV : CV G E W0 c κ) (h : Nat) (hs_h : W0.1 h = 61) (a1 : Int32) (hz : a1.toInt ≤ 1200) (hc : 0 ≤ c) {post : CS → Prop} (kk : ∀ (W' : CW) (κ' : CS), WX W0 W' κ → CV G E W' (c - 0) κ' → CF [(20, 0), (61, 0), (61, 1)] W0 κ κ' → (∃ b, sP κ'.1 h 0 = some b ∧ a1.toInt ≤ W'.2 b) → post κ') : F_X6_begin G h a1 post κ := by
  have hs0_h := hs_h
  suffices H_ : ∀ W : CW, WX W0 W κ → CV G E W (c - 0) κ → (W.1 h = 61) → F_X6_begin G h a1 post κ from H_ W0 WX.rf (hV.dn (by omega)) hs_h
  intro W hx hV hs_h
  unfold F_X6_begin
  have hfr : CF [(20, 0), (61, 0), (61, 1)] W0 κ κ := CF.rf
  have k_0 : (0 : Int32).toInt = 0 := rfl
  have k_64 : (64 : Int32).toInt = 64 := rfl
  have kl_0 : (0 : Int64).toInt = 0 := rfl
  have kl_64 : (64 : Int64).toInt = 64 := rfl
  have rg_a1 := i_range a1
  intro z2 mz2
  have rg_z2 := i_range z2
  refine ⟨(hV.mm hs_h (by decide) rfl), ?_⟩
  intro z3 ez3
  obtain ⟨bz3, ebz3, hsz3⟩ := hV.1.nn hs_h (by decide) rfl 0 rfl (by decide)
  have pk_z3 := ebz3
  have ebz3 := ez3.trans ebz3
  refine ⟨(W.2 bz3), (AL.of hV ebz3 hsz3 (by decide) rfl (by decide)), ?_⟩
  intro z4 ez4
  have lnz4 := nI_ln ez4 (hV.lm hsz3 (by decide) rfl)
  have lmz4 := (hV.lm hsz3 (by decide) rfl)
  refine jc_dup ?_
  refine ⟨fun c1 => ?_, fun c1 => ?_⟩
  · (try dsimp only)
    refine ⟨(hV.mm hs_h (by decide) rfl), ?_⟩
    intro z10 ez10
    have ebz10 : z10 = some bz3 := (ez10.trans ez3.symm).trans ebz3
    refine t_J7_fill_eb02e hV z10 bz3 ebz10 hsz3 0 z2 0 (by omega) (fun κ11 hV fκ11 pu1 => ?_)
    have pk1 := (fκ11.1 h (by rw [hs_h]; decide) 0 (by rw [hs_h]; decide)).2.2.trans pk_z3
    have hfr := hfr.trW hx fκ11 (by decide)
    refine ⟨(hV.mm hs_h (by decide) rfl), ?_⟩
    intro κ13 eκ13
    have roκ13 := hV.2.1 h (by rw [hs_h]; rfl) bz3 pk1
    have hV := hV.uRL hs_h rfl pk1 (by show 0 ≤ (z2 : Int32).toInt ∧ (z2 : Int32).toInt ≤ 1200; omega) (by omega) eκ13
    have uκ13 : (sI κ13.1 h 1).toInt = (z2 : Int32).toInt := by rw [eκ13]; exact congrArg Int32.toInt u2_same
    have f1κ13 : CF [(61, 1)] W κ11 κ13 := CF.rf.uI (k := 1) hs_h (by decide) (show ((61, 1) : Nat × Nat) ∈ ([(61, 1)] : List (Nat × Nat)) by simp) eκ13
    have pk2 := (f1κ13.1 h (by rw [hs_h]; decide) 0 (by rw [hs_h]; decide)).2.2.trans pk1
    have hfr := hfr.trW hx f1κ13 (by decide)
    exact kk W κ13 hx (hV.dn (by omega)) hfr ⟨bz3, pk2, by omega⟩
  · intro z14 ez14
    try have hz14 := i_add ez14 (by omega) (by omega)
    have rg_z14 := i_range z14
    have pr_ : ((21 * (1400 - W.2 bz3) : Nat) : Int) + (c - 0) ≤ κ.2 := hV.potR (by omega) hs_h rfl pk_z3
    have ro_ := hV.2.1 h (by rw [hs_h]; rfl) bz3 pk_z3
    refine ⟨by omega, by omega, ?_⟩
    intro o15 hn_o15 κ16 eκ16
    obtain ⟨W, x1_, hV, hs_o15, wn_o15, f1κ16⟩ := hV.mkA (M := []) (r := 20) (n := z14.toInt.toNat) hn_o15 rfl rfl (Or.inl rfl) (by omega) (fun h => absurd h (by decide)) (by decide) (Or.inl rfl) (by omega) eκ16
    have pk3 := (f1κ16.1 h (by rw [hs_h]; decide) 0 (by rw [hs_h]; decide)).2.2.trans pk_z3
    have hx2 := hx.tr x1_ hfr.sl
    have hfr := hfr.trW hx f1κ16 (by decide)
    have hs_h := WLe.at (x1_).1 hs_h (by decide)
    have wl_bz3 := ((x1_).1 bz3 (by rw [hsz3]; decide)).2
    have hsz3 := WLe.at (x1_).1 hsz3 (by decide)
    have hx := hx2
    refine ⟨(hV.mm hs_h (by decide) rfl), ?_⟩
    intro κ17 eκ17
    have ro_ := hV.2.1 h (by rw [hs_h]; rfl) bz3 pk3
    have hV := hV.uRB (d := 21 * (W.2 o15 - W.2 bz3)) hs_h rfl pk3 hs_o15 (by omega) (by omega) (by show W.2 o15 ≤ 1400; omega) (by show _ + 21 * (1400 - W.2 o15) ≤ 21 * (1400 - W.2 bz3); omega) eκ17
    have hV : CV G E W (c - 0) κ17 := hV.dn (by omega)
    have f1κ17 : CF [(61, 0)] W κ16 κ17 := CF.rf.uP (k := 0) hs_h (by decide) (show ((61, 0) : Nat × Nat) ∈ ([(61, 0)] : List (Nat × Nat)) by simp) eκ17
    have hfr := hfr.trW hx f1κ17 (by decide)
    have pk_κ17 : sP κ17.1 h 0 = some o15 := by rw [eκ17]; first | exact u2_same | exact u2_same.trans rfl
    (try dsimp only)
    refine ⟨(hV.mm hs_h (by decide) rfl), ?_⟩
    intro z10 ez10
    have ebz10 : z10 = some o15 := ez10.trans pk_κ17
    refine t_J7_fill_eb02e hV z10 o15 ebz10 hs_o15 0 z2 0 (by omega) (fun κ11 hV fκ11 pu2 => ?_)
    have pk4 := (fκ11.1 h (by rw [hs_h]; decide) 0 (by rw [hs_h]; decide)).2.2.trans pk_κ17
    have hfr := hfr.trW hx fκ11 (by decide)
    refine ⟨(hV.mm hs_h (by decide) rfl), ?_⟩
    intro κ13 eκ13
    have roκ13 := hV.2.1 h (by rw [hs_h]; rfl) o15 pk4
    have hV := hV.uRL hs_h rfl pk4 (by show 0 ≤ (z2 : Int32).toInt ∧ (z2 : Int32).toInt ≤ 1200; omega) (by omega) eκ13
    have uκ13 : (sI κ13.1 h 1).toInt = (z2 : Int32).toInt := by rw [eκ13]; exact congrArg Int32.toInt u2_same
    have f1κ13 : CF [(61, 1)] W κ11 κ13 := CF.rf.uI (k := 1) hs_h (by decide) (show ((61, 1) : Nat × Nat) ∈ ([(61, 1)] : List (Nat × Nat)) by simp) eκ13
    have pk5 := (f1κ13.1 h (by rw [hs_h]; decide) 0 (by rw [hs_h]; decide)).2.2.trans pk4
    have hfr := hfr.trW hx f1κ13 (by decide)
    exact kk W κ13 hx (hV.dn (by omega)) hfr ⟨o15, pk5, by omega⟩
set_option maxRecDepth 100000 in
set_option maxHeartbeats 4000000 in
theorem t62_X6_begin {G : GE} {E : CE} {W0 : CW} {c : Int} {κ : CS} (hV : CV G E W0 c κ) (h : Nat) (hs_h : W0.1 h = 62) (a1 : Int32) (hz : a1.toInt ≤ 0) (hc : 0 ≤ c) {post : CS → Prop} (kk : ∀ (W' : CW) (κ' : CS), WX W0 W' κ → CV G E W' (c - 0) κ' → CF [(20, 0), (62, 0), (62, 1)] W0 κ κ' → (∃ b, sP κ'.1 h 0 = some b ∧ a1.toInt ≤ W'.2 b) → post κ') : F_X6_begin G h a1 post κ := by
  have hs0_h := hs_h
  suffices H_ : ∀ W : CW, WX W0 W κ → CV G E W (c - 0) κ → (W.1 h = 62) → F_X6_begin G h a1 post κ from H_ W0 WX.rf (hV.dn (by omega)) hs_h
  intro W hx hV hs_h
  unfold F_X6_begin
  have hfr : CF [(20, 0), (62, 0), (62, 1)] W0 κ κ := CF.rf
  have k_0 : (0 : Int32).toInt = 0 := rfl
  have k_64 : (64 : Int32).toInt = 64 := rfl
  have kl_0 : (0 : Int64).toInt = 0 := rfl
  have kl_64 : (64 : Int64).toInt = 64 := rfl
  have rg_a1 := i_range a1
  intro z2 mz2
  have rg_z2 := i_range z2
  refine ⟨(hV.mm hs_h (by decide) rfl), ?_⟩
  intro z3 ez3
  obtain ⟨bz3, ebz3, hsz3⟩ := hV.1.nn hs_h (by decide) rfl 0 rfl (by decide)
  have pk_z3 := ebz3
  have ebz3 := ez3.trans ebz3
  refine ⟨(W.2 bz3), (AL.of hV ebz3 hsz3 (by decide) rfl (by decide)), ?_⟩
  intro z4 ez4
  have lnz4 := nI_ln ez4 (hV.lm hsz3 (by decide) rfl)
  have lmz4 := (hV.lm hsz3 (by decide) rfl)
  refine jc_dup ?_
  refine ⟨fun c1 => ?_, fun c1 => ?_⟩
  · (try dsimp only)
    refine ⟨(hV.mm hs_h (by decide) rfl), ?_⟩
    intro z10 ez10
    have ebz10 : z10 = some bz3 := (ez10.trans ez3.symm).trans ebz3
    refine t_J7_fill_eb02e hV z10 bz3 ebz10 hsz3 0 z2 0 (by omega) (fun κ11 hV fκ11 pu1 => ?_)
    have pk1 := (fκ11.1 h (by rw [hs_h]; decide) 0 (by rw [hs_h]; decide)).2.2.trans pk_z3
    have hfr := hfr.trW hx fκ11 (by decide)
    refine ⟨(hV.mm hs_h (by decide) rfl), ?_⟩
    intro κ13 eκ13
    have roκ13 := hV.2.1 h (by rw [hs_h]; rfl) bz3 pk1
    have hV := hV.uRL hs_h rfl pk1 (by show 0 ≤ (z2 : Int32).toInt ∧ (z2 : Int32).toInt ≤ 80000; omega) (by omega) eκ13
    have uκ13 : (sI κ13.1 h 1).toInt = (z2 : Int32).toInt := by rw [eκ13]; exact congrArg Int32.toInt u2_same
    have f1κ13 : CF [(62, 1)] W κ11 κ13 := CF.rf.uI (k := 1) hs_h (by decide) (show ((62, 1) : Nat × Nat) ∈ ([(62, 1)] : List (Nat × Nat)) by simp) eκ13
    have pk2 := (f1κ13.1 h (by rw [hs_h]; decide) 0 (by rw [hs_h]; decide)).2.2.trans pk1
    have hfr := hfr.trW hx f1κ13 (by decide)
    exact kk W κ13 hx (hV.dn (by omega)) hfr ⟨bz3, pk2, by omega⟩
  · intro z14 ez14
    try have hz14 := i_add ez14 (by omega) (by omega)
    have rg_z14 := i_range z14
    have pr_ : ((3 * (160000 - W.2 bz3) : Nat) : Int) + (c - 0) ≤ κ.2 := hV.potR (by omega) hs_h rfl pk_z3
    have ro_ := hV.2.1 h (by rw [hs_h]; rfl) bz3 pk_z3
    refine ⟨by omega, by omega, ?_⟩
    intro o15 hn_o15 κ16 eκ16
    obtain ⟨W, x1_, hV, hs_o15, wn_o15, f1κ16⟩ := hV.mkA (M := []) (r := 20) (n := z14.toInt.toNat) hn_o15 rfl rfl (Or.inl rfl) (by omega) (fun h => absurd h (by decide)) (by decide) (Or.inl rfl) (by omega) eκ16
    have pk3 := (f1κ16.1 h (by rw [hs_h]; decide) 0 (by rw [hs_h]; decide)).2.2.trans pk_z3
    have hx2 := hx.tr x1_ hfr.sl
    have hfr := hfr.trW hx f1κ16 (by decide)
    have hs_h := WLe.at (x1_).1 hs_h (by decide)
    have wl_bz3 := ((x1_).1 bz3 (by rw [hsz3]; decide)).2
    have hsz3 := WLe.at (x1_).1 hsz3 (by decide)
    have hx := hx2
    refine ⟨(hV.mm hs_h (by decide) rfl), ?_⟩
    intro κ17 eκ17
    have ro_ := hV.2.1 h (by rw [hs_h]; rfl) bz3 pk3
    have hV := hV.uRB (d := 3 * (W.2 o15 - W.2 bz3)) hs_h rfl pk3 hs_o15 (by omega) (by omega) (by show W.2 o15 ≤ 160000; omega) (by show _ + 3 * (160000 - W.2 o15) ≤ 3 * (160000 - W.2 bz3); omega) eκ17
    have hV : CV G E W (c - 0) κ17 := hV.dn (by omega)
    have f1κ17 : CF [(62, 0)] W κ16 κ17 := CF.rf.uP (k := 0) hs_h (by decide) (show ((62, 0) : Nat × Nat) ∈ ([(62, 0)] : List (Nat × Nat)) by simp) eκ17
    have hfr := hfr.trW hx f1κ17 (by decide)
    have pk_κ17 : sP κ17.1 h 0 = some o15 := by rw [eκ17]; first | exact u2_same | exact u2_same.trans rfl
    (try dsimp only)
    refine ⟨(hV.mm hs_h (by decide) rfl), ?_⟩
    intro z10 ez10
    have ebz10 : z10 = some o15 := ez10.trans pk_κ17
    refine t_J7_fill_eb02e hV z10 o15 ebz10 hs_o15 0 z2 0 (by omega) (fun κ11 hV fκ11 pu2 => ?_)
    have pk4 := (fκ11.1 h (by rw [hs_h]; decide) 0 (by rw [hs_h]; decide)).2.2.trans pk_κ17
    have hfr := hfr.trW hx fκ11 (by decide)
    refine ⟨(hV.mm hs_h (by decide) rfl), ?_⟩
    intro κ13 eκ13
    have roκ13 := hV.2.1 h (by rw [hs_h]; rfl) o15 pk4
    have hV := hV.uRL hs_h rfl pk4 (by show 0 ≤ (z2 : Int32).toInt ∧ (z2 : Int32).toInt ≤ 80000; omega) (by omega) eκ13
    have uκ13 : (sI κ13.1 h 1).toInt = (z2 : Int32).toInt := by rw [eκ13]; exact congrArg Int32.toInt u2_same
    have f1κ13 : CF [(62, 1)] W κ11 κ13 := CF.rf.uI (k := 1) hs_h (by decide) (show ((62, 1) : Nat × Nat) ∈ ([(62, 1)] : List (Nat × Nat)) by simp) eκ13
    have pk5 := (f1κ13.1 h (by rw [hs_h]; decide) 0 (by rw [hs_h]; decide)).2.2.trans pk4
    have hfr := hfr.trW hx f1κ13 (by decide)
    exact kk W κ13 hx (hV.dn (by omega)) hfr ⟨o15, pk5, by omega⟩
set_option maxRecDepth 100000 in
set_option maxHeartbeats 4000000 in
theorem t60_X6_add {G : GE} {E : CE} {W0 : CW} {c : Int} {κ : CS} (hV : CV G E W0 c κ) (h : Nat) (hs_h : W0.1 h = 60) (a1 : Int32) (hz : (sI κ.1 h 1).toInt ≤ 7999) (hc : 0 ≤ c) {post : CS → Prop} (kk : ∀ (W' : CW) (κ' : CS), WX W0 W' κ → CV G E W' (c - 0) κ' → CF [(20, 0), (60, 0), (60, 1)] W0 κ κ' → ((sI κ'.1 h 1).toInt = (sI κ.1 h 1).toInt + 1) → post κ') : F_X6_add G h a1 post κ := by
  have hs0_h := hs_h
  suffices H_ : ∀ W : CW, WX W0 W κ → CV G E W (c - 0) κ → (W.1 h = 60) → F_X6_add G h a1 post κ from H_ W0 WX.rf (hV.dn (by omega)) hs_h
  intro W hx hV hs_h
  unfold F_X6_add
  have hfr : CF [(20, 0), (60, 0), (60, 1)] W0 κ κ := CF.rf
  have k_0 : (0 : Int32).toInt = 0 := rfl
  have k_1 : (1 : Int32).toInt = 1 := rfl
  have k_2 : (2 : Int32).toInt = 2 := rfl
  have k_64 : (64 : Int32).toInt = 64 := rfl
  have kl_1 : (1 : Int64).toInt = 1 := rfl
  have kl_2 : (2 : Int64).toInt = 2 := rfl
  have kl_64 : (64 : Int64).toInt = 64 := rfl
  have rg_a1 := i_range a1
  refine ⟨(hV.mm hs_h (by decide) rfl), ?_⟩
  intro z1 ez1
  have vz1 := hV.1.iv hs_h (by decide) rfl 1 0 8000 rfl ez1
  have wz1 : z1.toInt = (sI κ.1 h 1).toInt := by rw [ez1]
  refine ⟨(hV.mm hs_h (by decide) rfl), ?_⟩
  intro z2 ez2
  obtain ⟨bz2, ebz2, hsz2⟩ := hV.1.nn hs_h (by decide) rfl 0 rfl (by decide)
  have pk_z2 := ebz2
  have ebz2 := ez2.trans ebz2
  refine ⟨(W.2 bz2), (AL.of hV ebz2 hsz2 (by decide) rfl (by decide)), ?_⟩
  intro z3 ez3
  have lnz3 := nI_ln ez3 (hV.lm hsz2 (by decide) rfl)
  have lmz3 := (hV.lm hsz2 (by decide) rfl)
  refine jc_dup ?_
  refine ⟨fun c1 => ?_, fun c1 => ?_⟩
  · (try dsimp only)
    refine ⟨(hV.mm hs_h (by decide) rfl), ?_⟩
    intro z9 ez9
    have ebz9 : z9 = some bz2 := (ez9.trans ez2.symm).trans ebz2
    refine ⟨(hV.mm hs_h (by decide) rfl), ?_⟩
    intro z10 ez10
    have vz10 := hV.1.iv hs_h (by decide) rfl 1 0 8000 rfl ez10
    have wz10 : z10.toInt = (sI κ.1 h 1).toInt := by rw [ez10]
    intro z11 ez11
    have hz11 := i_b8 ez11
    have rg_z11 := i_range z11
    have ln_ := hV.ln hsz2 (by decide) rfl
    refine ⟨bz2, ebz9, (hV.mm hsz2 (by decide) rfl), by omega, ?_⟩
    intro κ12 eκ12
    have hV := hV.uI (k := z10.toInt.toNat) (v := (vp_nar .byte z11)) hsz2 (Or.inl rfl) (Or.inl (by decide)) (Or.inl (by decide)) (fun _ => (i_byte _)) eκ12
    have f1κ12 : CF [(20, 0)] W κ κ12 := CF.rf.uI (k := z10.toInt.toNat) hsz2 (by decide) (show ((20, 0) : Nat × Nat) ∈ ([(20, 0)] : List (Nat × Nat)) by simp) eκ12
    have tk1 : (sI κ12.1 h 1).toInt = (sI κ.1 h 1).toInt := by rw [(f1κ12.1 h (by rw [hs_h]; decide) 1 (by rw [hs_h]; decide)).1]
    have pk2 := (f1κ12.1 h (by rw [hs_h]; decide) 0 (by rw [hs_h]; decide)).2.2.trans pk_z2
    have hfr := hfr.trW hx f1κ12 (by decide)
    refine ⟨(hV.mm hs_h (by decide) rfl), ?_⟩
    intro z13 ez13
    have vz13 := hV.1.iv hs_h (by decide) rfl 1 0 8000 rfl ez13
    have wz13 : z13.toInt = (sI κ12.1 h 1).toInt := by rw [ez13]
    intro z14 ez14
    try have hz14 := i_add ez14 (by omega) (by omega)
    have rg_z14 := i_range z14
    refine ⟨(hV.mm hs_h (by decide) rfl), ?_⟩
    intro κ15 eκ15
    have roκ15 := hV.2.1 h (by rw [hs_h]; rfl) bz2 pk2
    have hV := hV.uRL hs_h rfl pk2 (by show 0 ≤ (z14 : Int32).toInt ∧ (z14 : Int32).toInt ≤ 8000; omega) (by omega) eκ15
    have uκ15 : (sI κ15.1 h 1).toInt = (z14 : Int32).toInt := by rw [eκ15]; exact congrArg Int32.toInt u2_same
    have f1κ15 : CF [(60, 1)] W κ12 κ15 := CF.rf.uI (k := 1) hs_h (by decide) (show ((60, 1) : Nat × Nat) ∈ ([(60, 1)] : List (Nat × Nat)) by simp) eκ15
    have pk3 := (f1κ15.1 h (by rw [hs_h]; decide) 0 (by rw [hs_h]; decide)).2.2.trans pk2
    have hfr := hfr.trW hx f1κ15 (by decide)
    exact kk W κ15 hx (hV.dn (by omega)) hfr (by omega)
  · refine ⟨(hV.mm hs_h (by decide) rfl), ?_⟩
    intro z16 ez16
    have ebz16 : z16 = some bz2 := (ez16.trans ez2.symm).trans ebz2
    refine ⟨(hV.mm hs_h (by decide) rfl), ?_⟩
    intro z17 ez17
    have vz17 := hV.1.iv hs_h (by decide) rfl 1 0 8000 rfl ez17
    have wz17 : z17.toInt = (sI κ.1 h 1).toInt := by rw [ez17]
    intro z18 ez18
    try have hz18 := i_mulk 2 rfl ez18 (by omega) (by omega)
    have rg_z18 := i_range z18
    intro z19 ez19
    try have hz19 := i_add ez19 (by omega) (by omega)
    have rg_z19 := i_range z19
    have pr_ : ((3 * (16064 - W.2 bz2) : Nat) : Int) + (c - 0) ≤ κ.2 := hV.potR (by omega) hs_h rfl pk_z2
    have ro_ := hV.2.1 h (by rw [hs_h]; rfl) bz2 pk_z2
    refine t_J7_copyOf_9075b hV z16 ebz16 hsz2 z19 (by omega) (by omega) (fun z21 qz21 W κ20 ez21 x1_ hV fκ20 hs_qz21 wn_qz21 => ?_)
    have tk4 : (sI κ20.1 h 1).toInt = (sI κ.1 h 1).toInt := by rw [(fκ20.1 h (by rw [hs_h]; decide) 1 (by rw [hs_h]; decide)).1]
    have pk5 := (fκ20.1 h (by rw [hs_h]; decide) 0 (by rw [hs_h]; decide)).2.2.trans pk_z2
    have hx2 := hx.tr x1_ hfr.sl
    have hfr := hfr.trW hx fκ20 (by decide)
    have hs_h := WLe.at (x1_).1 hs_h (by decide)
    have wl_bz2 := ((x1_).1 bz2 (by rw [hsz2]; decide)).2
    have hsz2 := WLe.at (x1_).1 hsz2 (by decide)
    have hx := hx2
    refine ⟨(hV.mm hs_h (by decide) rfl), ?_⟩
    intro κ22 eκ22
    have ro_ := hV.2.1 h (by rw [hs_h]; rfl) bz2 pk5
    rw [ez21] at eκ22
    have hV := hV.uRB (d := 3 * (W.2 qz21 - W.2 bz2)) hs_h rfl pk5 hs_qz21 (by omega) (by omega) (by show W.2 qz21 ≤ 16064; omega) (by show _ + 3 * (16064 - W.2 qz21) ≤ 3 * (16064 - W.2 bz2); omega) eκ22
    have hV : CV G E W (c - 0) κ22 := hV.dn (by omega)
    have f1κ22 : CF [(60, 0)] W κ20 κ22 := CF.rf.uP (k := 0) hs_h (by decide) (show ((60, 0) : Nat × Nat) ∈ ([(60, 0)] : List (Nat × Nat)) by simp) eκ22
    have tk6 : (sI κ22.1 h 1).toInt = (sI κ20.1 h 1).toInt := by rw [(f1κ22.1 h (by rw [hs_h]; decide) 1 (by rw [hs_h]; decide)).1]
    have hfr := hfr.trW hx f1κ22 (by decide)
    have pk_κ22 : sP κ22.1 h 0 = some qz21 := by rw [eκ22]; first | exact u2_same | exact u2_same.trans ez21
    (try dsimp only)
    refine ⟨(hV.mm hs_h (by decide) rfl), ?_⟩
    intro z9 ez9
    have ebz9 : z9 = some qz21 := ez9.trans pk_κ22
    refine ⟨(hV.mm hs_h (by decide) rfl), ?_⟩
    intro z10 ez10
    have vz10 := hV.1.iv hs_h (by decide) rfl 1 0 8000 rfl ez10
    have wz10 : z10.toInt = (sI κ22.1 h 1).toInt := by rw [ez10]
    intro z11 ez11
    have hz11 := i_b8 ez11
    have rg_z11 := i_range z11
    have ln_ := hV.ln hs_qz21 (by decide) rfl
    refine ⟨qz21, ebz9, (hV.mm hs_qz21 (by decide) rfl), by omega, ?_⟩
    intro κ12 eκ12
    have hV := hV.uI (k := z10.toInt.toNat) (v := (vp_nar .byte z11)) hs_qz21 (Or.inl rfl) (Or.inl (by decide)) (Or.inl (by decide)) (fun _ => (i_byte _)) eκ12
    have f1κ12 : CF [(20, 0)] W κ22 κ12 := CF.rf.uI (k := z10.toInt.toNat) hs_qz21 (by decide) (show ((20, 0) : Nat × Nat) ∈ ([(20, 0)] : List (Nat × Nat)) by simp) eκ12
    have tk7 : (sI κ12.1 h 1).toInt = (sI κ22.1 h 1).toInt := by rw [(f1κ12.1 h (by rw [hs_h]; decide) 1 (by rw [hs_h]; decide)).1]
    have pk8 := (f1κ12.1 h (by rw [hs_h]; decide) 0 (by rw [hs_h]; decide)).2.2.trans pk_κ22
    have hfr := hfr.trW hx f1κ12 (by decide)
    refine ⟨(hV.mm hs_h (by decide) rfl), ?_⟩
    intro z13 ez13
    have vz13 := hV.1.iv hs_h (by decide) rfl 1 0 8000 rfl ez13
    have wz13 : z13.toInt = (sI κ12.1 h 1).toInt := by rw [ez13]
    intro z14 ez14
    try have hz14 := i_add ez14 (by omega) (by omega)
    have rg_z14 := i_range z14
    refine ⟨(hV.mm hs_h (by decide) rfl), ?_⟩
    intro κ15 eκ15
    have roκ15 := hV.2.1 h (by rw [hs_h]; rfl) qz21 pk8
    have hV := hV.uRL hs_h rfl pk8 (by show 0 ≤ (z14 : Int32).toInt ∧ (z14 : Int32).toInt ≤ 8000; omega) (by omega) eκ15
    have uκ15 : (sI κ15.1 h 1).toInt = (z14 : Int32).toInt := by rw [eκ15]; exact congrArg Int32.toInt u2_same
    have f1κ15 : CF [(60, 1)] W κ12 κ15 := CF.rf.uI (k := 1) hs_h (by decide) (show ((60, 1) : Nat × Nat) ∈ ([(60, 1)] : List (Nat × Nat)) by simp) eκ15
    have pk9 := (f1κ15.1 h (by rw [hs_h]; decide) 0 (by rw [hs_h]; decide)).2.2.trans pk8
    have hfr := hfr.trW hx f1κ15 (by decide)
    exact kk W κ15 hx (hV.dn (by omega)) hfr (by omega)
set_option maxRecDepth 100000 in
set_option maxHeartbeats 4000000 in
theorem t64_X6_add {G : GE} {E : CE} {W0 : CW} {c : Int} {κ : CS} (hV : CV G E W0 c κ) (h : Nat) (hs_h : W0.1 h = 64) (a1 : Int32) (hz : (sI κ.1 h 1).toInt ≤ 4003) (hc : 0 ≤ c) {post : CS → Prop} (kk : ∀ (W' : CW) (κ' : CS), WX W0 W' κ → CV G E W' (c - 0) κ' → CF [(20, 0), (64, 0), (64, 1)] W0 κ κ' → ((sI κ'.1 h 1).toInt = (sI κ.1 h 1).toInt + 1) → post κ') : F_X6_add G h a1 post κ := by
  have hs0_h := hs_h
  suffices H_ : ∀ W : CW, WX W0 W κ → CV G E W (c - 0) κ → (W.1 h = 64) → F_X6_add G h a1 post κ from H_ W0 WX.rf (hV.dn (by omega)) hs_h
  intro W hx hV hs_h
  unfold F_X6_add
  have hfr : CF [(20, 0), (64, 0), (64, 1)] W0 κ κ := CF.rf
  have k_0 : (0 : Int32).toInt = 0 := rfl
  have k_1 : (1 : Int32).toInt = 1 := rfl
  have k_2 : (2 : Int32).toInt = 2 := rfl
  have k_64 : (64 : Int32).toInt = 64 := rfl
  have kl_1 : (1 : Int64).toInt = 1 := rfl
  have kl_2 : (2 : Int64).toInt = 2 := rfl
  have kl_64 : (64 : Int64).toInt = 64 := rfl
  have rg_a1 := i_range a1
  refine ⟨(hV.mm hs_h (by decide) rfl), ?_⟩
  intro z1 ez1
  have vz1 := hV.1.iv hs_h (by decide) rfl 1 0 4004 rfl ez1
  have wz1 : z1.toInt = (sI κ.1 h 1).toInt := by rw [ez1]
  refine ⟨(hV.mm hs_h (by decide) rfl), ?_⟩
  intro z2 ez2
  obtain ⟨bz2, ebz2, hsz2⟩ := hV.1.nn hs_h (by decide) rfl 0 rfl (by decide)
  have pk_z2 := ebz2
  have ebz2 := ez2.trans ebz2
  refine ⟨(W.2 bz2), (AL.of hV ebz2 hsz2 (by decide) rfl (by decide)), ?_⟩
  intro z3 ez3
  have lnz3 := nI_ln ez3 (hV.lm hsz2 (by decide) rfl)
  have lmz3 := (hV.lm hsz2 (by decide) rfl)
  refine jc_dup ?_
  refine ⟨fun c1 => ?_, fun c1 => ?_⟩
  · (try dsimp only)
    refine ⟨(hV.mm hs_h (by decide) rfl), ?_⟩
    intro z9 ez9
    have ebz9 : z9 = some bz2 := (ez9.trans ez2.symm).trans ebz2
    refine ⟨(hV.mm hs_h (by decide) rfl), ?_⟩
    intro z10 ez10
    have vz10 := hV.1.iv hs_h (by decide) rfl 1 0 4004 rfl ez10
    have wz10 : z10.toInt = (sI κ.1 h 1).toInt := by rw [ez10]
    intro z11 ez11
    have hz11 := i_b8 ez11
    have rg_z11 := i_range z11
    have ln_ := hV.ln hsz2 (by decide) rfl
    refine ⟨bz2, ebz9, (hV.mm hsz2 (by decide) rfl), by omega, ?_⟩
    intro κ12 eκ12
    have hV := hV.uI (k := z10.toInt.toNat) (v := (vp_nar .byte z11)) hsz2 (Or.inl rfl) (Or.inl (by decide)) (Or.inl (by decide)) (fun _ => (i_byte _)) eκ12
    have f1κ12 : CF [(20, 0)] W κ κ12 := CF.rf.uI (k := z10.toInt.toNat) hsz2 (by decide) (show ((20, 0) : Nat × Nat) ∈ ([(20, 0)] : List (Nat × Nat)) by simp) eκ12
    have tk1 : (sI κ12.1 h 1).toInt = (sI κ.1 h 1).toInt := by rw [(f1κ12.1 h (by rw [hs_h]; decide) 1 (by rw [hs_h]; decide)).1]
    have pk2 := (f1κ12.1 h (by rw [hs_h]; decide) 0 (by rw [hs_h]; decide)).2.2.trans pk_z2
    have hfr := hfr.trW hx f1κ12 (by decide)
    refine ⟨(hV.mm hs_h (by decide) rfl), ?_⟩
    intro z13 ez13
    have vz13 := hV.1.iv hs_h (by decide) rfl 1 0 4004 rfl ez13
    have wz13 : z13.toInt = (sI κ12.1 h 1).toInt := by rw [ez13]
    intro z14 ez14
    try have hz14 := i_add ez14 (by omega) (by omega)
    have rg_z14 := i_range z14
    refine ⟨(hV.mm hs_h (by decide) rfl), ?_⟩
    intro κ15 eκ15
    have roκ15 := hV.2.1 h (by rw [hs_h]; rfl) bz2 pk2
    have hV := hV.uRL hs_h rfl pk2 (by show 0 ≤ (z14 : Int32).toInt ∧ (z14 : Int32).toInt ≤ 4004; omega) (by omega) eκ15
    have uκ15 : (sI κ15.1 h 1).toInt = (z14 : Int32).toInt := by rw [eκ15]; exact congrArg Int32.toInt u2_same
    have f1κ15 : CF [(64, 1)] W κ12 κ15 := CF.rf.uI (k := 1) hs_h (by decide) (show ((64, 1) : Nat × Nat) ∈ ([(64, 1)] : List (Nat × Nat)) by simp) eκ15
    have pk3 := (f1κ15.1 h (by rw [hs_h]; decide) 0 (by rw [hs_h]; decide)).2.2.trans pk2
    have hfr := hfr.trW hx f1κ15 (by decide)
    exact kk W κ15 hx (hV.dn (by omega)) hfr (by omega)
  · refine ⟨(hV.mm hs_h (by decide) rfl), ?_⟩
    intro z16 ez16
    have ebz16 : z16 = some bz2 := (ez16.trans ez2.symm).trans ebz2
    refine ⟨(hV.mm hs_h (by decide) rfl), ?_⟩
    intro z17 ez17
    have vz17 := hV.1.iv hs_h (by decide) rfl 1 0 4004 rfl ez17
    have wz17 : z17.toInt = (sI κ.1 h 1).toInt := by rw [ez17]
    intro z18 ez18
    try have hz18 := i_mulk 2 rfl ez18 (by omega) (by omega)
    have rg_z18 := i_range z18
    intro z19 ez19
    try have hz19 := i_add ez19 (by omega) (by omega)
    have rg_z19 := i_range z19
    have pr_ : ((3 * (8072 - W.2 bz2) : Nat) : Int) + (c - 0) ≤ κ.2 := hV.potR (by omega) hs_h rfl pk_z2
    have ro_ := hV.2.1 h (by rw [hs_h]; rfl) bz2 pk_z2
    refine t_J7_copyOf_9075b hV z16 ebz16 hsz2 z19 (by omega) (by omega) (fun z21 qz21 W κ20 ez21 x1_ hV fκ20 hs_qz21 wn_qz21 => ?_)
    have tk4 : (sI κ20.1 h 1).toInt = (sI κ.1 h 1).toInt := by rw [(fκ20.1 h (by rw [hs_h]; decide) 1 (by rw [hs_h]; decide)).1]
    have pk5 := (fκ20.1 h (by rw [hs_h]; decide) 0 (by rw [hs_h]; decide)).2.2.trans pk_z2
    have hx2 := hx.tr x1_ hfr.sl
    have hfr := hfr.trW hx fκ20 (by decide)
    have hs_h := WLe.at (x1_).1 hs_h (by decide)
    have wl_bz2 := ((x1_).1 bz2 (by rw [hsz2]; decide)).2
    have hsz2 := WLe.at (x1_).1 hsz2 (by decide)
    have hx := hx2
    refine ⟨(hV.mm hs_h (by decide) rfl), ?_⟩
    intro κ22 eκ22
    have ro_ := hV.2.1 h (by rw [hs_h]; rfl) bz2 pk5
    rw [ez21] at eκ22
    have hV := hV.uRB (d := 3 * (W.2 qz21 - W.2 bz2)) hs_h rfl pk5 hs_qz21 (by omega) (by omega) (by show W.2 qz21 ≤ 8072; omega) (by show _ + 3 * (8072 - W.2 qz21) ≤ 3 * (8072 - W.2 bz2); omega) eκ22
    have hV : CV G E W (c - 0) κ22 := hV.dn (by omega)
    have f1κ22 : CF [(64, 0)] W κ20 κ22 := CF.rf.uP (k := 0) hs_h (by decide) (show ((64, 0) : Nat × Nat) ∈ ([(64, 0)] : List (Nat × Nat)) by simp) eκ22
    have tk6 : (sI κ22.1 h 1).toInt = (sI κ20.1 h 1).toInt := by rw [(f1κ22.1 h (by rw [hs_h]; decide) 1 (by rw [hs_h]; decide)).1]
    have hfr := hfr.trW hx f1κ22 (by decide)
    have pk_κ22 : sP κ22.1 h 0 = some qz21 := by rw [eκ22]; first | exact u2_same | exact u2_same.trans ez21
    (try dsimp only)
    refine ⟨(hV.mm hs_h (by decide) rfl), ?_⟩
    intro z9 ez9
    have ebz9 : z9 = some qz21 := ez9.trans pk_κ22
    refine ⟨(hV.mm hs_h (by decide) rfl), ?_⟩
    intro z10 ez10
    have vz10 := hV.1.iv hs_h (by decide) rfl 1 0 4004 rfl ez10
    have wz10 : z10.toInt = (sI κ22.1 h 1).toInt := by rw [ez10]
    intro z11 ez11
    have hz11 := i_b8 ez11
    have rg_z11 := i_range z11
    have ln_ := hV.ln hs_qz21 (by decide) rfl
    refine ⟨qz21, ebz9, (hV.mm hs_qz21 (by decide) rfl), by omega, ?_⟩
    intro κ12 eκ12
    have hV := hV.uI (k := z10.toInt.toNat) (v := (vp_nar .byte z11)) hs_qz21 (Or.inl rfl) (Or.inl (by decide)) (Or.inl (by decide)) (fun _ => (i_byte _)) eκ12
    have f1κ12 : CF [(20, 0)] W κ22 κ12 := CF.rf.uI (k := z10.toInt.toNat) hs_qz21 (by decide) (show ((20, 0) : Nat × Nat) ∈ ([(20, 0)] : List (Nat × Nat)) by simp) eκ12
    have tk7 : (sI κ12.1 h 1).toInt = (sI κ22.1 h 1).toInt := by rw [(f1κ12.1 h (by rw [hs_h]; decide) 1 (by rw [hs_h]; decide)).1]
    have pk8 := (f1κ12.1 h (by rw [hs_h]; decide) 0 (by rw [hs_h]; decide)).2.2.trans pk_κ22
    have hfr := hfr.trW hx f1κ12 (by decide)
    refine ⟨(hV.mm hs_h (by decide) rfl), ?_⟩
    intro z13 ez13
    have vz13 := hV.1.iv hs_h (by decide) rfl 1 0 4004 rfl ez13
    have wz13 : z13.toInt = (sI κ12.1 h 1).toInt := by rw [ez13]
    intro z14 ez14
    try have hz14 := i_add ez14 (by omega) (by omega)
    have rg_z14 := i_range z14
    refine ⟨(hV.mm hs_h (by decide) rfl), ?_⟩
    intro κ15 eκ15
    have roκ15 := hV.2.1 h (by rw [hs_h]; rfl) qz21 pk8
    have hV := hV.uRL hs_h rfl pk8 (by show 0 ≤ (z14 : Int32).toInt ∧ (z14 : Int32).toInt ≤ 4004; omega) (by omega) eκ15
    have uκ15 : (sI κ15.1 h 1).toInt = (z14 : Int32).toInt := by rw [eκ15]; exact congrArg Int32.toInt u2_same
    have f1κ15 : CF [(64, 1)] W κ12 κ15 := CF.rf.uI (k := 1) hs_h (by decide) (show ((64, 1) : Nat × Nat) ∈ ([(64, 1)] : List (Nat × Nat)) by simp) eκ15
    have pk9 := (f1κ15.1 h (by rw [hs_h]; decide) 0 (by rw [hs_h]; decide)).2.2.trans pk8
    have hfr := hfr.trW hx f1κ15 (by decide)
    exact kk W κ15 hx (hV.dn (by omega)) hfr (by omega)
set_option maxRecDepth 100000 in
set_option maxHeartbeats 4000000 in
theorem t_X6_addHighestFirst {G : GE} {E : CE} {W0 : CW} {c : Int} {κ : CS} (hV : CV G E W0 c κ) (h : Nat) (hs_h : W0.1 h = 60) (a1 : Int32) (hz : (sI κ.1 h 1).toInt ≤ 7996) (hc : 0 ≤ c) {post : CS → Prop} (kk : ∀ (W' : CW) (κ' : CS), WX W0 W' κ → CV G E W' (c - 0) κ' → CF [(20, 0), (60, 0), (60, 1)] W0 κ κ' → ((sI κ'.1 h 1).toInt = (sI κ.1 h 1).toInt + 4) → post κ') : F_X6_addHighestFirst G h a1 post κ := by
  have hs0_h := hs_h
  suffices H_ : ∀ W : CW, WX W0 W κ → CV G E W (c - 0) κ → (W.1 h = 60) → F_X6_addHighestFirst G h a1 post κ from H_ W0 WX.rf (hV.dn (by omega)) hs_h
  intro W hx hV hs_h
  unfold F_X6_addHighestFirst
  have hfr : CF [(20, 0), (60, 0), (60, 1)] W0 κ κ := CF.rf
  have k_0 : (0 : Int32).toInt = 0 := rfl
  have k_8 : (8 : Int32).toInt = 8 := rfl
  have k_16 : (16 : Int32).toInt = 16 := rfl
  have k_24 : (24 : Int32).toInt = 24 := rfl
  have kl_8 : (8 : Int64).toInt = 8 := rfl
  have kl_16 : (16 : Int64).toInt = 16 := rfl
  have kl_24 : (24 : Int64).toInt = 24 := rfl
  have rg_a1 := i_range a1
  intro z1 ez1
  have rg_z1 := i_range z1
  refine ⟨(hV.mm hs_h (by decide) rfl), ?_⟩
  refine t60_X6_add hV h hs_h z1 (by omega) (by omega) (fun W κ2 x1_ hV fκ2 pu1 => ?_)
  have hV : CV G E W (c - 0) κ2 := hV.dn (by omega)
  have hx2 := hx.tr x1_ hfr.sl
  have hfr := hfr.trW hx fκ2 (by decide)
  have hs_h := WLe.at (x1_).1 hs_h (by decide)
  have hx := hx2
  intro z4 ez4
  have rg_z4 := i_range z4
  refine ⟨(hV.mm hs_h (by decide) rfl), ?_⟩
  refine t60_X6_add hV h hs_h z4 (by omega) (by omega) (fun W κ5 x1_ hV fκ5 pu2 => ?_)
  have hV : CV G E W (c - 0) κ5 := hV.dn (by omega)
  have hx2 := hx.tr x1_ hfr.sl
  have hfr := hfr.trW hx fκ5 (by decide)
  have hs_h := WLe.at (x1_).1 hs_h (by decide)
  have hx := hx2
  intro z7 ez7
  have rg_z7 := i_range z7
  refine ⟨(hV.mm hs_h (by decide) rfl), ?_⟩
  refine t60_X6_add hV h hs_h z7 (by omega) (by omega) (fun W κ8 x1_ hV fκ8 pu3 => ?_)
  have hV : CV G E W (c - 0) κ8 := hV.dn (by omega)
  have hx2 := hx.tr x1_ hfr.sl
  have hfr := hfr.trW hx fκ8 (by decide)
  have hs_h := WLe.at (x1_).1 hs_h (by decide)
  have hx := hx2
  refine ⟨(hV.mm hs_h (by decide) rfl), ?_⟩
  refine t60_X6_add hV h hs_h a1 (by omega) (by omega) (fun W κ10 x1_ hV fκ10 pu4 => ?_)
  have hV : CV G E W (c - 0) κ10 := hV.dn (by omega)
  have hx2 := hx.tr x1_ hfr.sl
  have hfr := hfr.trW hx fκ10 (by decide)
  have hs_h := WLe.at (x1_).1 hs_h (by decide)
  have hx := hx2
  exact kk W κ10 hx (hV.dn (by omega)) hfr (by omega)
set_option maxRecDepth 100000 in
set_option maxHeartbeats 4000000 in
theorem t_X6_chain {G : GE} {E : CE} {W0 : CW} {c : Int} {κ : CS} (hV : CV G E W0 c κ) (h : Nat) (hs_h : W0.1 h = 62) (a1 : Option Nat) (b_a1 : Nat) (e_a1 : a1 = some b_a1) (hs_a1 : W0.1 b_a1 = 61) (a2 : Int32) (hz : (sI κ.1 h 1).toInt ≤ 78000) (hc : 0 ≤ c) {post : Int32 → CS → Prop} (kk : ∀ (r : Int32) (W' : CW) (κ' : CS), WX W0 W' κ → CV G E W' (c - 0) κ' → CF [(20, 0), (62, 0), (62, 1)] W0 κ κ' → ((sI κ'.1 h 1).toInt ≤ (sI κ.1 h 1).toInt + 1207) → post r κ') : F_X6_chain G h a1 a2 post κ := by
  have hs0_h := hs_h
  have hs0_a1 := hs_a1
  suffices H_ : ∀ W : CW, WX W0 W κ → CV G E W (c - 0) κ → (W.1 h = 62) → (W.1 b_a1 = 61) → F_X6_chain G h a1 a2 post κ from H_ W0 WX.rf (hV.dn (by omega)) hs_h hs_a1
  intro W hx hV hs_h hs_a1
  unfold F_X6_chain
  have hfr : CF [(20, 0), (62, 0), (62, 1)] W0 κ κ := CF.rf
  have k_0 : (0 : Int32).toInt = 0 := rfl
  have k_2 : (2 : Int32).toInt = 2 := rfl
  have k_4 : (4 : Int32).toInt = 4 := rfl
  have k_7 : (7 : Int32).toInt = 7 := rfl
  have k_8 : (8 : Int32).toInt = 8 := rfl
  have k_20 : (20 : Int32).toInt = 20 := rfl
  have kl_0 : (0 : Int64).toInt = 0 := rfl
  have kl_2 : (2 : Int64).toInt = 2 := rfl
  have kl_4 : (4 : Int64).toInt = 4 := rfl
  have kl_7 : (7 : Int64).toInt = 7 := rfl
  have kl_8 : (8 : Int64).toInt = 8 := rfl
  have kl_20 : (20 : Int64).toInt = 20 := rfl
  have rg_a2 := i_range a2
  refine ⟨(hV.mm hs_h (by decide) rfl), ?_⟩
  intro z1 ez1
  have vz1 := hV.1.iv hs_h (by decide) rfl 1 0 80000 rfl ez1
  have wz1 : z1.toInt = (sI κ.1 h 1).toInt := by rw [ez1]
  intro z2 ez2
  try have hz2 := i_add ez2 (by omega) (by omega)
  have rg_z2 := i_range z2
  refine ⟨(hV.mm hs_h (by decide) rfl), ?_⟩
  intro z3 ez3
  have vz3 := hV.1.iv hs_h (by decide) rfl 1 0 80000 rfl ez3
  have wz3 : z3.toInt = (sI κ.1 h 1).toInt := by rw [ez3]
  intro z4 ez4
  try have hz4 := i_add ez4 (by omega) (by omega)
  have rg_z4 := i_range z4
  intro z5 ez5
  try have hz5 := i_rem 8 rfl ez5 (by omega) (by omega)
  have rg_z5 := i_range z5
  intro z6 ez6
  try have hz6 := i_sub ez6 (by omega) (by omega)
  have rg_z6 := i_range z6
  refine ⟨b_a1, e_a1, (hV.mm hs_a1 (by decide) rfl), ?_⟩
  intro z7 ez7
  have vz7 := hV.1.iv hs_a1 (by decide) rfl 1 0 1200 rfl ez7
  have wz7 : z7.toInt = (sI κ.1 b_a1 1).toInt := by rw [ez7]
  intro z8 ez8
  try have hz8 := i_add ez8 (by omega) (by omega)
  have rg_z8 := i_range z8
  refine ⟨(hV.mm hs_h (by decide) rfl), ?_⟩
  intro z9 ez9
  obtain ⟨bz9, ebz9, hsz9⟩ := hV.1.nn hs_h (by decide) rfl 0 rfl (by decide)
  have pk_z9 := ebz9
  have ebz9 := ez9.trans ebz9
  refine ⟨(W.2 bz9), (AL.of hV ebz9 hsz9 (by decide) rfl (by decide)), ?_⟩
  intro z10 ez10
  have lnz10 := nI_ln ez10 (hV.lm hsz9 (by decide) rfl)
  have lmz10 := (hV.lm hsz9 (by decide) rfl)
  refine jc_dup ?_
  refine ⟨fun c1 => ?_, fun c1 => ?_⟩
  · (try dsimp only)
    refine ⟨(hV.mm hs_h (by decide) rfl), ?_⟩
    intro z16 ez16
    have ebz16 : z16 = some bz9 := (ez16.trans ez9.symm).trans ebz9
    refine ⟨(hV.mm hs_h (by decide) rfl), ?_⟩
    intro z17 ez17
    have vz17 := hV.1.iv hs_h (by decide) rfl 1 0 80000 rfl ez17
    have wz17 : z17.toInt = (sI κ.1 h 1).toInt := by rw [ez17]
    refine t_J7_fill_eb02e hV z16 bz9 ebz16 hsz9 z17 z6 0 (by omega) (fun κ18 hV fκ18 pu1 => ?_)
    have tk1 : (sI κ18.1 h 1).toInt = (sI κ.1 h 1).toInt := by rw [(fκ18.1 h (by rw [hs_h]; decide) 1 (by rw [hs_h]; decide)).1]
    have tk2 : (sI κ18.1 b_a1 1).toInt = (sI κ.1 b_a1 1).toInt := by rw [(fκ18.1 b_a1 (by rw [hs_a1]; decide) 1 (by rw [hs_a1]; decide)).1]
    have pk3 := (fκ18.1 h (by rw [hs_h]; decide) 0 (by rw [hs_h]; decide)).2.2.trans pk_z9
    have hfr := hfr.trW hx fκ18 (by decide)
    refine ⟨b_a1, e_a1, (hV.mm hs_a1 (by decide) rfl), ?_⟩
    intro z20 ez20
    obtain ⟨bz20, ebz20, hsz20⟩ := hV.1.nn hs_a1 (by decide) rfl 0 rfl (by decide)
    have pk_z20 := ebz20
    have ebz20 := ez20.trans ebz20
    refine ⟨(hV.mm hs_h (by decide) rfl), ?_⟩
    intro z21 ez21
    have ebz21 : z21 = some bz9 := ez21.trans pk3
    refine ⟨b_a1, e_a1, (hV.mm hs_a1 (by decide) rfl), ?_⟩
    intro z22 ez22
    have vz22 := hV.1.iv hs_a1 (by decide) rfl 1 0 1200 rfl ez22
    have wz22 : z22.toInt = (sI κ18.1 b_a1 1).toInt := by rw [ez22]
    have w0z22 : z22.toInt = (sI κ.1 b_a1 1).toInt := by rw [ez22, (hfr.1 b_a1 (by rw [hs0_a1]; decide) 1 (by rw [hs0_a1]; decide)).1]
    have rr_h := hV.2.1 h (by rw [hs_h]; rfl) bz9 pk3
    have rr_b_a1 := hV.2.1 b_a1 (by rw [hs_a1]; rfl) bz20 pk_z20
    have ln0_ := hV.ln hsz20 (by decide) rfl
    have ln1_ := hV.ln hsz9 (by decide) rfl
    refine ⟨bz20, ebz20, bz9, ebz21, (hV.mm hsz20 (by decide) rfl), (hV.mm hsz9 (by decide) rfl), (by omega), fun j hj => (hV.1.el hsz20 (by decide) rfl _ (by omega)).1, ?_⟩
    intro κ23 eκ23
    have hV := hV.cpI hsz20 rfl hsz9 rfl (by omega) eκ23
    have f1κ23 : CF [(20, 0)] W κ18 κ23 := CF.rf.cpI hsz9 rfl (by decide) eκ23
    have tk4 : (sI κ23.1 h 1).toInt = (sI κ18.1 h 1).toInt := by rw [(f1κ23.1 h (by rw [hs_h]; decide) 1 (by rw [hs_h]; decide)).1]
    have tk5 : (sI κ23.1 b_a1 1).toInt = (sI κ18.1 b_a1 1).toInt := by rw [(f1κ23.1 b_a1 (by rw [hs_a1]; decide) 1 (by rw [hs_a1]; decide)).1]
    have pk6 := (f1κ23.1 h (by rw [hs_h]; decide) 0 (by rw [hs_h]; decide)).2.2.trans pk3
    have pk7 := (f1κ23.1 b_a1 (by rw [hs_a1]; decide) 0 (by rw [hs_a1]; decide)).2.2.trans pk_z20
    have hfr := hfr.trW hx f1κ23 (by decide)
    refine ⟨(hV.mm hs_h (by decide) rfl), ?_⟩
    intro κ24 eκ24
    have roκ24 := hV.2.1 h (by rw [hs_h]; rfl) bz9 pk6
    have hV := hV.uRL hs_h rfl pk6 (by show 0 ≤ (z8 : Int32).toInt ∧ (z8 : Int32).toInt ≤ 80000; omega) (by omega) eκ24
    have uκ24 : (sI κ24.1 h 1).toInt = (z8 : Int32).toInt := by rw [eκ24]; exact congrArg Int32.toInt u2_same
    have f1κ24 : CF [(62, 1)] W κ23 κ24 := CF.rf.uI (k := 1) hs_h (by decide) (show ((62, 1) : Nat × Nat) ∈ ([(62, 1)] : List (Nat × Nat)) by simp) eκ24
    have tk8 : (sI κ24.1 b_a1 1).toInt = (sI κ23.1 b_a1 1).toInt := by rw [(f1κ24.1 b_a1 (by rw [hs_a1]; decide) 1 (by rw [hs_a1]; decide)).1]
    have pk9 := (f1κ24.1 h (by rw [hs_h]; decide) 0 (by rw [hs_h]; decide)).2.2.trans pk6
    have pk10 := (f1κ24.1 b_a1 (by rw [hs_a1]; decide) 0 (by rw [hs_a1]; decide)).2.2.trans pk7
    have hfr := hfr.trW hx f1κ24 (by decide)
    refine jc_dup ?_
    refine ⟨fun c2 => ?_, fun c2 => ?_⟩
    · (try dsimp only)
      exact kk z6 W κ24 hx (hV.dn (by omega)) hfr (by omega)
    · intro z30 ez30
      try have hz30 := i_add ez30 (by omega) (by omega)
      have rg_z30 := i_range z30
      intro z31 ez31
      try have hz31 := i_sub ez31 (by omega) (by omega)
      have rg_z31 := i_range z31
      intro z32 ez32
      have hz32 := i_tol ez32
      have rg_z32 := l_range z32
      refine ⟨(hV.mm hs_h (by decide) rfl), ?_⟩
      refine t_X6_put hV h hs_h rfl z30 4 z32  (fun κ33 hV fκ33 pu2 => ?_)
      have tk11 : (sI κ33.1 h 1).toInt = (sI κ24.1 h 1).toInt := by rw [(fκ33.1 h (by rw [hs_h]; decide) 1 (by rw [hs_h]; decide)).1]
      have tk12 : (sI κ33.1 b_a1 1).toInt = (sI κ24.1 b_a1 1).toInt := by rw [(fκ33.1 b_a1 (by rw [hs_a1]; decide) 1 (by rw [hs_a1]; decide)).1]
      have pk13 := (fκ33.1 h (by rw [hs_h]; decide) 0 (by rw [hs_h]; decide)).2.2.trans pk9
      have pk14 := (fκ33.1 b_a1 (by rw [hs_a1]; decide) 0 (by rw [hs_a1]; decide)).2.2.trans pk10
      have hfr := hfr.trW hx fκ33 (by decide)
      (try dsimp only)
      exact kk z6 W κ33 hx (hV.dn (by omega)) hfr (by omega)
  · refine ⟨(hV.mm hs_h (by decide) rfl), ?_⟩
    intro z35 ez35
    have ebz35 : z35 = some bz9 := (ez35.trans ez9.symm).trans ebz9
    intro z36 ez36
    try have hz36 := i_mulk 2 rfl ez36 (by omega) (by omega)
    have rg_z36 := i_range z36
    have pr_ : ((3 * (160000 - W.2 bz9) : Nat) : Int) + (c - 0) ≤ κ.2 := hV.potR (by omega) hs_h rfl pk_z9
    have ro_ := hV.2.1 h (by rw [hs_h]; rfl) bz9 pk_z9
    refine t_J7_copyOf_9075b hV z35 ebz35 hsz9 z36 (by omega) (by omega) (fun z38 qz38 W κ37 ez38 x1_ hV fκ37 hs_qz38 wn_qz38 => ?_)
    have tk15 : (sI κ37.1 h 1).toInt = (sI κ.1 h 1).toInt := by rw [(fκ37.1 h (by rw [hs_h]; decide) 1 (by rw [hs_h]; decide)).1]
    have tk16 : (sI κ37.1 b_a1 1).toInt = (sI κ.1 b_a1 1).toInt := by rw [(fκ37.1 b_a1 (by rw [hs_a1]; decide) 1 (by rw [hs_a1]; decide)).1]
    have pk17 := (fκ37.1 h (by rw [hs_h]; decide) 0 (by rw [hs_h]; decide)).2.2.trans pk_z9
    have hx2 := hx.tr x1_ hfr.sl
    have hfr := hfr.trW hx fκ37 (by decide)
    have hs_h := WLe.at (x1_).1 hs_h (by decide)
    have hs_a1 := WLe.at (x1_).1 hs_a1 (by decide)
    have wl_bz9 := ((x1_).1 bz9 (by rw [hsz9]; decide)).2
    have hsz9 := WLe.at (x1_).1 hsz9 (by decide)
    have hx := hx2
    refine ⟨(hV.mm hs_h (by decide) rfl), ?_⟩
    intro κ39 eκ39
    have ro_ := hV.2.1 h (by rw [hs_h]; rfl) bz9 pk17
    rw [ez38] at eκ39
    have hV := hV.uRB (d := 3 * (W.2 qz38 - W.2 bz9)) hs_h rfl pk17 hs_qz38 (by omega) (by omega) (by show W.2 qz38 ≤ 160000; omega) (by show _ + 3 * (160000 - W.2 qz38) ≤ 3 * (160000 - W.2 bz9); omega) eκ39
    have hV : CV G E W (c - 0) κ39 := hV.dn (by omega)
    have f1κ39 : CF [(62, 0)] W κ37 κ39 := CF.rf.uP (k := 0) hs_h (by decide) (show ((62, 0) : Nat × Nat) ∈ ([(62, 0)] : List (Nat × Nat)) by simp) eκ39
    have tk18 : (sI κ39.1 h 1).toInt = (sI κ37.1 h 1).toInt := by rw [(f1κ39.1 h (by rw [hs_h]; decide) 1 (by rw [hs_h]; decide)).1]
    have tk19 : (sI κ39.1 b_a1 1).toInt = (sI κ37.1 b_a1 1).toInt := by rw [(f1κ39.1 b_a1 (by rw [hs_a1]; decide) 1 (by rw [hs_a1]; decide)).1]
    have hfr := hfr.trW hx f1κ39 (by decide)
    have pk_κ39 : sP κ39.1 h 0 = some qz38 := by rw [eκ39]; first | exact u2_same | exact u2_same.trans ez38
    (try dsimp only)
    refine ⟨(hV.mm hs_h (by decide) rfl), ?_⟩
    intro z16 ez16
    have ebz16 : z16 = some qz38 := ez16.trans pk_κ39
    refine ⟨(hV.mm hs_h (by decide) rfl), ?_⟩
    intro z17 ez17
    have vz17 := hV.1.iv hs_h (by decide) rfl 1 0 80000 rfl ez17
    have wz17 : z17.toInt = (sI κ39.1 h 1).toInt := by rw [ez17]
    refine t_J7_fill_eb02e hV z16 qz38 ebz16 hs_qz38 z17 z6 0 (by omega) (fun κ18 hV fκ18 pu3 => ?_)
    have tk20 : (sI κ18.1 h 1).toInt = (sI κ39.1 h 1).toInt := by rw [(fκ18.1 h (by rw [hs_h]; decide) 1 (by rw [hs_h]; decide)).1]
    have tk21 : (sI κ18.1 b_a1 1).toInt = (sI κ39.1 b_a1 1).toInt := by rw [(fκ18.1 b_a1 (by rw [hs_a1]; decide) 1 (by rw [hs_a1]; decide)).1]
    have pk22 := (fκ18.1 h (by rw [hs_h]; decide) 0 (by rw [hs_h]; decide)).2.2.trans pk_κ39
    have hfr := hfr.trW hx fκ18 (by decide)
    refine ⟨b_a1, e_a1, (hV.mm hs_a1 (by decide) rfl), ?_⟩
    intro z20 ez20
    obtain ⟨bz20, ebz20, hsz20⟩ := hV.1.nn hs_a1 (by decide) rfl 0 rfl (by decide)
    have pk_z20 := ebz20
    have ebz20 := ez20.trans ebz20
    refine ⟨(hV.mm hs_h (by decide) rfl), ?_⟩
    intro z21 ez21
    have ebz21 : z21 = some qz38 := ez21.trans pk22
    refine ⟨b_a1, e_a1, (hV.mm hs_a1 (by decide) rfl), ?_⟩
    intro z22 ez22
    have vz22 := hV.1.iv hs_a1 (by decide) rfl 1 0 1200 rfl ez22
    have wz22 : z22.toInt = (sI κ18.1 b_a1 1).toInt := by rw [ez22]
    have w0z22 : z22.toInt = (sI κ.1 b_a1 1).toInt := by rw [ez22, (hfr.1 b_a1 (by rw [hs0_a1]; decide) 1 (by rw [hs0_a1]; decide)).1]
    have rr_h := hV.2.1 h (by rw [hs_h]; rfl) qz38 pk22
    have rr_b_a1 := hV.2.1 b_a1 (by rw [hs_a1]; rfl) bz20 pk_z20
    have ln0_ := hV.ln hsz20 (by decide) rfl
    have ln1_ := hV.ln hs_qz38 (by decide) rfl
    refine ⟨bz20, ebz20, qz38, ebz21, (hV.mm hsz20 (by decide) rfl), (hV.mm hs_qz38 (by decide) rfl), (by omega), fun j hj => (hV.1.el hsz20 (by decide) rfl _ (by omega)).1, ?_⟩
    intro κ23 eκ23
    have hV := hV.cpI hsz20 rfl hs_qz38 rfl (by omega) eκ23
    have f1κ23 : CF [(20, 0)] W κ18 κ23 := CF.rf.cpI hs_qz38 rfl (by decide) eκ23
    have tk23 : (sI κ23.1 h 1).toInt = (sI κ18.1 h 1).toInt := by rw [(f1κ23.1 h (by rw [hs_h]; decide) 1 (by rw [hs_h]; decide)).1]
    have tk24 : (sI κ23.1 b_a1 1).toInt = (sI κ18.1 b_a1 1).toInt := by rw [(f1κ23.1 b_a1 (by rw [hs_a1]; decide) 1 (by rw [hs_a1]; decide)).1]
    have pk25 := (f1κ23.1 h (by rw [hs_h]; decide) 0 (by rw [hs_h]; decide)).2.2.trans pk22
    have pk26 := (f1κ23.1 b_a1 (by rw [hs_a1]; decide) 0 (by rw [hs_a1]; decide)).2.2.trans pk_z20
    have hfr := hfr.trW hx f1κ23 (by decide)
    refine ⟨(hV.mm hs_h (by decide) rfl), ?_⟩
    intro κ24 eκ24
    have roκ24 := hV.2.1 h (by rw [hs_h]; rfl) qz38 pk25
    have hV := hV.uRL hs_h rfl pk25 (by show 0 ≤ (z8 : Int32).toInt ∧ (z8 : Int32).toInt ≤ 80000; omega) (by omega) eκ24
    have uκ24 : (sI κ24.1 h 1).toInt = (z8 : Int32).toInt := by rw [eκ24]; exact congrArg Int32.toInt u2_same
    have f1κ24 : CF [(62, 1)] W κ23 κ24 := CF.rf.uI (k := 1) hs_h (by decide) (show ((62, 1) : Nat × Nat) ∈ ([(62, 1)] : List (Nat × Nat)) by simp) eκ24
    have tk27 : (sI κ24.1 b_a1 1).toInt = (sI κ23.1 b_a1 1).toInt := by rw [(f1κ24.1 b_a1 (by rw [hs_a1]; decide) 1 (by rw [hs_a1]; decide)).1]
    have pk28 := (f1κ24.1 h (by rw [hs_h]; decide) 0 (by rw [hs_h]; decide)).2.2.trans pk25
    have pk29 := (f1κ24.1 b_a1 (by rw [hs_a1]; decide) 0 (by rw [hs_a1]; decide)).2.2.trans pk26
    have hfr := hfr.trW hx f1κ24 (by decide)
    refine jc_dup ?_
    refine ⟨fun c3 => ?_, fun c3 => ?_⟩
    · (try dsimp only)
      exact kk z6 W κ24 hx (hV.dn (by omega)) hfr (by omega)
    · intro z30 ez30
      try have hz30 := i_add ez30 (by omega) (by omega)
      have rg_z30 := i_range z30
      intro z31 ez31
      try have hz31 := i_sub ez31 (by omega) (by omega)
      have rg_z31 := i_range z31
      intro z32 ez32
      have hz32 := i_tol ez32
      have rg_z32 := l_range z32
      refine ⟨(hV.mm hs_h (by decide) rfl), ?_⟩
      refine t_X6_put hV h hs_h rfl z30 4 z32  (fun κ33 hV fκ33 pu4 => ?_)
      have tk30 : (sI κ33.1 h 1).toInt = (sI κ24.1 h 1).toInt := by rw [(fκ33.1 h (by rw [hs_h]; decide) 1 (by rw [hs_h]; decide)).1]
      have tk31 : (sI κ33.1 b_a1 1).toInt = (sI κ24.1 b_a1 1).toInt := by rw [(fκ33.1 b_a1 (by rw [hs_a1]; decide) 1 (by rw [hs_a1]; decide)).1]
      have pk32 := (fκ33.1 h (by rw [hs_h]; decide) 0 (by rw [hs_h]; decide)).2.2.trans pk28
      have pk33 := (fκ33.1 b_a1 (by rw [hs_a1]; decide) 0 (by rw [hs_a1]; decide)).2.2.trans pk29
      have hfr := hfr.trW hx fκ33 (by decide)
      (try dsimp only)
      exact kk z6 W κ33 hx (hV.dn (by omega)) hfr (by omega)
set_option maxRecDepth 100000 in
set_option maxHeartbeats 4000000 in
theorem t61_X2_post {G : GE} {E : CE} {W0 : CW} {c : Int} {κ : CS} (hV : CV G E W0 c κ) (h : Nat) (hs_h : W0.1 h = 3) (a1 : Option Nat) (b_a1 : Nat) (e_a1 : a1 = some b_a1) (hs_a1 : W0.1 b_a1 = 61)  (hc : 0 ≤ c) {post : CS → Prop} (kk : ∀ (W' : CW) (κ' : CS), WX W0 W' κ → CV G E W' (c - 0) κ' → CF [(20, 0), (63, 0), (63, 1)] W0 κ κ' → (True) → post κ') : F_X2_post G h a1 post κ := by
  have hs0_h := hs_h
  have hs0_a1 := hs_a1
  suffices H_ : ∀ W : CW, WX W0 W κ → CV G E W (c - 0) κ → (W.1 h = 3) → (W.1 b_a1 = 61) → F_X2_post G h a1 post κ from H_ W0 WX.rf (hV.dn (by omega)) hs_h hs_a1
  intro W hx hV hs_h hs_a1
  unfold F_X2_post
  have hfr : CF [(20, 0), (63, 0), (63, 1)] W0 κ κ := CF.rf
  have k_0 : (0 : Int32).toInt = 0 := rfl
  have k_1 : (1 : Int32).toInt = 1 := rfl
  have k_2 : (2 : Int32).toInt = 2 := rfl
  have k_3 : (3 : Int32).toInt = 3 := rfl
  have k_4 : (4 : Int32).toInt = 4 := rfl
  have k_8 : (8 : Int32).toInt = 8 := rfl
  have k_16 : (16 : Int32).toInt = 16 := rfl
  have k_16000 : (16000 : Int32).toInt = 16000 := rfl
  have kl_1 : (1 : Int64).toInt = 1 := rfl
  have kl_2 : (2 : Int64).toInt = 2 := rfl
  have kl_3 : (3 : Int64).toInt = 3 := rfl
  have kl_4 : (4 : Int64).toInt = 4 := rfl
  have kl_8 : (8 : Int64).toInt = 8 := rfl
  have kl_16 : (16 : Int64).toInt = 16 := rfl
  refine ⟨(hV.mm hs_h (by decide) rfl), ?_⟩
  intro z1 ez1
  obtain ⟨bz1, ebz1, hsz1⟩ := hV.1.nn hs_h (by decide) rfl 4 rfl (by decide)
  have pk_z1 := ebz1
  have ebz1 := ez1.trans ebz1
  refine ⟨bz1, ebz1, (hV.mm hsz1 (by decide) rfl), ?_⟩
  intro z2 ez2
  have vz2 := hV.1.iv hsz1 (by decide) rfl 1 0 16000 rfl ez2
  have wz2 : z2.toInt = (sI κ.1 bz1 1).toInt := by rw [ez2]
  intro z3 ez3
  try have hz3 := i_add ez3 (by omega) (by omega)
  have rg_z3 := i_range z3
  refine ⟨b_a1, e_a1, (hV.mm hs_a1 (by decide) rfl), ?_⟩
  intro z4 ez4
  have vz4 := hV.1.iv hs_a1 (by decide) rfl 1 0 1200 rfl ez4
  have wz4 : z4.toInt = (sI κ.1 b_a1 1).toInt := by rw [ez4]
  intro z5 ez5
  try have hz5 := i_add ez5 (by omega) (by omega)
  have rg_z5 := i_range z5
  refine ⟨(hV.mm hs_h (by decide) rfl), ?_⟩
  intro z6 ez6
  have vz6 := hV.1.iv hs_h (by decide) rfl 0 0 1 rfl ez6
  have wz6 : z6.toInt = (sI κ.1 h 0).toInt := by rw [ez6]
  refine jc_dup ?_
  refine ⟨fun c1 => ?_, fun c1 => ?_⟩
  · (try dsimp only)
    exact kk W κ hx (hV.dn (by omega)) hfr trivial
  · refine ⟨b_a1, e_a1, (hV.mm hs_a1 (by decide) rfl), ?_⟩
    intro z12 ez12
    have vz12 := hV.1.iv hs_a1 (by decide) rfl 1 0 1200 rfl ez12
    have wz12 : z12.toInt = (sI κ.1 b_a1 1).toInt := by rw [ez12]
    refine ⟨fun c2 => ?_, fun c2 => ?_⟩
    · (try dsimp only)
      exact kk W κ hx (hV.dn (by omega)) hfr trivial
    · refine ⟨fun c3 => ?_, fun c3 => ?_⟩
      · refine ⟨(hV.mm hs_h (by decide) rfl), ?_⟩
        intro z13 ez13
        have ebz13 : z13 = some bz1 := (ez13.trans ez1.symm).trans ebz1
        refine ⟨bz1, ebz13, (hV.mm hsz1 (by decide) rfl), ?_⟩
        intro z14 ez14
        obtain ⟨bz14, ebz14, hsz14⟩ := hV.1.nn hsz1 (by decide) rfl 0 rfl (by decide)
        have pk_z14 := ebz14
        have ebz14 := ez14.trans ebz14
        refine ⟨(W.2 bz14), (AL.of hV ebz14 hsz14 (by decide) rfl (by decide)), ?_⟩
        intro z15 ez15
        have lnz15 := nI_ln ez15 (hV.lm hsz14 (by decide) rfl)
        have lmz15 := (hV.lm hsz14 (by decide) rfl)
        refine jc_dup ?_
        refine ⟨fun c4 => ?_, fun c4 => ?_⟩
        · (try dsimp only)
          refine ⟨(hV.mm hs_h (by decide) rfl), ?_⟩
          intro z21 ez21
          have ebz21 : z21 = some bz1 := (ez21.trans ez1.symm).trans ebz1
          refine ⟨bz1, ebz21, (hV.mm hsz1 (by decide) rfl), ?_⟩
          intro z22 ez22
          have ebz22 : z22 = some bz14 := (ez22.trans ez14.symm).trans ebz14
          have rr_bz1 := hV.2.1 bz1 (by rw [hsz1]; rfl) bz14 pk_z14
          have ln_ := hV.ln hsz14 (by decide) rfl
          refine ⟨bz14, ebz22, (hV.mm hsz14 (by decide) rfl), by omega, ?_⟩
          intro κ23 eκ23
          have hV := hV.uI (k := z2.toInt.toNat) (v := (vp_nar .byte 0)) hsz14 (Or.inl rfl) (Or.inl (by decide)) (Or.inl (by decide)) (fun _ => (i_byte _)) eκ23
          have f1κ23 : CF [(20, 0)] W κ κ23 := CF.rf.uI (k := z2.toInt.toNat) hsz14 (by decide) (show ((20, 0) : Nat × Nat) ∈ ([(20, 0)] : List (Nat × Nat)) by simp) eκ23
          have tk1 : (sI κ23.1 bz1 1).toInt = (sI κ.1 bz1 1).toInt := by rw [(f1κ23.1 bz1 (by rw [hsz1]; decide) 1 (by rw [hsz1]; decide)).1]
          have tk2 : (sI κ23.1 b_a1 1).toInt = (sI κ.1 b_a1 1).toInt := by rw [(f1κ23.1 b_a1 (by rw [hs_a1]; decide) 1 (by rw [hs_a1]; decide)).1]
          have pk3 := (f1κ23.1 h (by rw [hs_h]; decide) 4 (by rw [hs_h]; decide)).2.2.trans pk_z1
          have pk4 := (f1κ23.1 bz1 (by rw [hsz1]; decide) 0 (by rw [hsz1]; decide)).2.2.trans pk_z14
          have hfr := hfr.trW hx f1κ23 (by decide)
          refine ⟨(hV.mm hs_h (by decide) rfl), ?_⟩
          intro z24 ez24
          have ebz24 : z24 = some bz1 := ez24.trans pk3
          refine ⟨bz1, ebz24, (hV.mm hsz1 (by decide) rfl), ?_⟩
          intro z25 ez25
          have ebz25 : z25 = some bz14 := ez25.trans pk4
          intro z26 ez26
          try have hz26 := i_add ez26 (by omega) (by omega)
          have rg_z26 := i_range z26
          refine ⟨b_a1, e_a1, (hV.mm hs_a1 (by decide) rfl), ?_⟩
          intro z27 ez27
          have vz27 := hV.1.iv hs_a1 (by decide) rfl 1 0 1200 rfl ez27
          have wz27 : z27.toInt = (sI κ23.1 b_a1 1).toInt := by rw [ez27]
          have w0z27 : z27.toInt = (sI κ.1 b_a1 1).toInt := by rw [ez27, (hfr.1 b_a1 (by rw [hs0_a1]; decide) 1 (by rw [hs0_a1]; decide)).1]
          intro z28 ez28
          have rg_z28 := i_range z28
          intro z29 ez29
          have hz29 := i_b8 ez29
          have rg_z29 := i_range z29
          have rr_bz1 := hV.2.1 bz1 (by rw [hsz1]; rfl) bz14 pk4
          have ln_ := hV.ln hsz14 (by decide) rfl
          refine ⟨bz14, ebz25, (hV.mm hsz14 (by decide) rfl), by omega, ?_⟩
          intro κ30 eκ30
          have hV := hV.uI (k := z26.toInt.toNat) (v := (vp_nar .byte z29)) hsz14 (Or.inl rfl) (Or.inl (by decide)) (Or.inl (by decide)) (fun _ => (i_byte _)) eκ30
          have f1κ30 : CF [(20, 0)] W κ23 κ30 := CF.rf.uI (k := z26.toInt.toNat) hsz14 (by decide) (show ((20, 0) : Nat × Nat) ∈ ([(20, 0)] : List (Nat × Nat)) by simp) eκ30
          have tk5 : (sI κ30.1 bz1 1).toInt = (sI κ23.1 bz1 1).toInt := by rw [(f1κ30.1 bz1 (by rw [hsz1]; decide) 1 (by rw [hsz1]; decide)).1]
          have tk6 : (sI κ30.1 b_a1 1).toInt = (sI κ23.1 b_a1 1).toInt := by rw [(f1κ30.1 b_a1 (by rw [hs_a1]; decide) 1 (by rw [hs_a1]; decide)).1]
          have pk7 := (f1κ30.1 h (by rw [hs_h]; decide) 4 (by rw [hs_h]; decide)).2.2.trans pk3
          have pk8 := (f1κ30.1 bz1 (by rw [hsz1]; decide) 0 (by rw [hsz1]; decide)).2.2.trans pk4
          have hfr := hfr.trW hx f1κ30 (by decide)
          refine ⟨(hV.mm hs_h (by decide) rfl), ?_⟩
          intro z31 ez31
          have ebz31 : z31 = some bz1 := ez31.trans pk7
          refine ⟨bz1, ebz31, (hV.mm hsz1 (by decide) rfl), ?_⟩
          intro z32 ez32
          have ebz32 : z32 = some bz14 := ez32.trans pk8
          intro z33 ez33
          try have hz33 := i_add ez33 (by omega) (by omega)
          have rg_z33 := i_range z33
          refine ⟨b_a1, e_a1, (hV.mm hs_a1 (by decide) rfl), ?_⟩
          intro z34 ez34
          have vz34 := hV.1.iv hs_a1 (by decide) rfl 1 0 1200 rfl ez34
          have wz34 : z34.toInt = (sI κ30.1 b_a1 1).toInt := by rw [ez34]
          have w0z34 : z34.toInt = (sI κ.1 b_a1 1).toInt := by rw [ez34, (hfr.1 b_a1 (by rw [hs0_a1]; decide) 1 (by rw [hs0_a1]; decide)).1]
          intro z35 ez35
          have rg_z35 := i_range z35
          intro z36 ez36
          have hz36 := i_b8 ez36
          have rg_z36 := i_range z36
          have rr_bz1 := hV.2.1 bz1 (by rw [hsz1]; rfl) bz14 pk8
          have ln_ := hV.ln hsz14 (by decide) rfl
          refine ⟨bz14, ebz32, (hV.mm hsz14 (by decide) rfl), by omega, ?_⟩
          intro κ37 eκ37
          have hV := hV.uI (k := z33.toInt.toNat) (v := (vp_nar .byte z36)) hsz14 (Or.inl rfl) (Or.inl (by decide)) (Or.inl (by decide)) (fun _ => (i_byte _)) eκ37
          have f1κ37 : CF [(20, 0)] W κ30 κ37 := CF.rf.uI (k := z33.toInt.toNat) hsz14 (by decide) (show ((20, 0) : Nat × Nat) ∈ ([(20, 0)] : List (Nat × Nat)) by simp) eκ37
          have tk9 : (sI κ37.1 bz1 1).toInt = (sI κ30.1 bz1 1).toInt := by rw [(f1κ37.1 bz1 (by rw [hsz1]; decide) 1 (by rw [hsz1]; decide)).1]
          have tk10 : (sI κ37.1 b_a1 1).toInt = (sI κ30.1 b_a1 1).toInt := by rw [(f1κ37.1 b_a1 (by rw [hs_a1]; decide) 1 (by rw [hs_a1]; decide)).1]
          have pk11 := (f1κ37.1 h (by rw [hs_h]; decide) 4 (by rw [hs_h]; decide)).2.2.trans pk7
          have pk12 := (f1κ37.1 bz1 (by rw [hsz1]; decide) 0 (by rw [hsz1]; decide)).2.2.trans pk8
          have hfr := hfr.trW hx f1κ37 (by decide)
          refine ⟨(hV.mm hs_h (by decide) rfl), ?_⟩
          intro z38 ez38
          have ebz38 : z38 = some bz1 := ez38.trans pk11
          refine ⟨bz1, ebz38, (hV.mm hsz1 (by decide) rfl), ?_⟩
          intro z39 ez39
          have ebz39 : z39 = some bz14 := ez39.trans pk12
          intro z40 ez40
          try have hz40 := i_add ez40 (by omega) (by omega)
          have rg_z40 := i_range z40
          refine ⟨b_a1, e_a1, (hV.mm hs_a1 (by decide) rfl), ?_⟩
          intro z41 ez41
          have vz41 := hV.1.iv hs_a1 (by decide) rfl 1 0 1200 rfl ez41
          have wz41 : z41.toInt = (sI κ37.1 b_a1 1).toInt := by rw [ez41]
          have w0z41 : z41.toInt = (sI κ.1 b_a1 1).toInt := by rw [ez41, (hfr.1 b_a1 (by rw [hs0_a1]; decide) 1 (by rw [hs0_a1]; decide)).1]
          intro z42 ez42
          have hz42 := i_b8 ez42
          have rg_z42 := i_range z42
          have rr_bz1 := hV.2.1 bz1 (by rw [hsz1]; rfl) bz14 pk12
          have ln_ := hV.ln hsz14 (by decide) rfl
          refine ⟨bz14, ebz39, (hV.mm hsz14 (by decide) rfl), by omega, ?_⟩
          intro κ43 eκ43
          have hV := hV.uI (k := z40.toInt.toNat) (v := (vp_nar .byte z42)) hsz14 (Or.inl rfl) (Or.inl (by decide)) (Or.inl (by decide)) (fun _ => (i_byte _)) eκ43
          have f1κ43 : CF [(20, 0)] W κ37 κ43 := CF.rf.uI (k := z40.toInt.toNat) hsz14 (by decide) (show ((20, 0) : Nat × Nat) ∈ ([(20, 0)] : List (Nat × Nat)) by simp) eκ43
          have tk13 : (sI κ43.1 bz1 1).toInt = (sI κ37.1 bz1 1).toInt := by rw [(f1κ43.1 bz1 (by rw [hsz1]; decide) 1 (by rw [hsz1]; decide)).1]
          have tk14 : (sI κ43.1 b_a1 1).toInt = (sI κ37.1 b_a1 1).toInt := by rw [(f1κ43.1 b_a1 (by rw [hs_a1]; decide) 1 (by rw [hs_a1]; decide)).1]
          have pk15 := (f1κ43.1 h (by rw [hs_h]; decide) 4 (by rw [hs_h]; decide)).2.2.trans pk11
          have pk16 := (f1κ43.1 bz1 (by rw [hsz1]; decide) 0 (by rw [hsz1]; decide)).2.2.trans pk12
          have hfr := hfr.trW hx f1κ43 (by decide)
          refine ⟨b_a1, e_a1, (hV.mm hs_a1 (by decide) rfl), ?_⟩
          intro z44 ez44
          obtain ⟨bz44, ebz44, hsz44⟩ := hV.1.nn hs_a1 (by decide) rfl 0 rfl (by decide)
          have pk_z44 := ebz44
          have ebz44 := ez44.trans ebz44
          refine ⟨(hV.mm hs_h (by decide) rfl), ?_⟩
          intro z45 ez45
          have ebz45 : z45 = some bz1 := ez45.trans pk15
          refine ⟨bz1, ebz45, (hV.mm hsz1 (by decide) rfl), ?_⟩
          intro z46 ez46
          have ebz46 : z46 = some bz14 := ez46.trans pk16
          intro z47 ez47
          try have hz47 := i_add ez47 (by omega) (by omega)
          have rg_z47 := i_range z47
          refine ⟨b_a1, e_a1, (hV.mm hs_a1 (by decide) rfl), ?_⟩
          intro z48 ez48
          have vz48 := hV.1.iv hs_a1 (by decide) rfl 1 0 1200 rfl ez48
          have wz48 : z48.toInt = (sI κ43.1 b_a1 1).toInt := by rw [ez48]
          have w0z48 : z48.toInt = (sI κ.1 b_a1 1).toInt := by rw [ez48, (hfr.1 b_a1 (by rw [hs0_a1]; decide) 1 (by rw [hs0_a1]; decide)).1]
          have rr_b_a1 := hV.2.1 b_a1 (by rw [hs_a1]; rfl) bz44 pk_z44
          have rr_bz1 := hV.2.1 bz1 (by rw [hsz1]; rfl) bz14 pk16
          have ln0_ := hV.ln hsz44 (by decide) rfl
          have ln1_ := hV.ln hsz14 (by decide) rfl
          refine ⟨bz44, ebz44, bz14, ebz46, (hV.mm hsz44 (by decide) rfl), (hV.mm hsz14 (by decide) rfl), (by omega), fun j hj => (hV.1.el hsz44 (by decide) rfl _ (by omega)).1, ?_⟩
          intro κ49 eκ49
          have hV := hV.cpI hsz44 rfl hsz14 rfl (by omega) eκ49
          have f1κ49 : CF [(20, 0)] W κ43 κ49 := CF.rf.cpI hsz14 rfl (by decide) eκ49
          have tk17 : (sI κ49.1 bz1 1).toInt = (sI κ43.1 bz1 1).toInt := by rw [(f1κ49.1 bz1 (by rw [hsz1]; decide) 1 (by rw [hsz1]; decide)).1]
          have tk18 : (sI κ49.1 b_a1 1).toInt = (sI κ43.1 b_a1 1).toInt := by rw [(f1κ49.1 b_a1 (by rw [hs_a1]; decide) 1 (by rw [hs_a1]; decide)).1]
          have pk19 := (f1κ49.1 h (by rw [hs_h]; decide) 4 (by rw [hs_h]; decide)).2.2.trans pk15
          have pk20 := (f1κ49.1 bz1 (by rw [hsz1]; decide) 0 (by rw [hsz1]; decide)).2.2.trans pk16
          have pk21 := (f1κ49.1 b_a1 (by rw [hs_a1]; decide) 0 (by rw [hs_a1]; decide)).2.2.trans pk_z44
          have hfr := hfr.trW hx f1κ49 (by decide)
          refine ⟨(hV.mm hs_h (by decide) rfl), ?_⟩
          intro z50 ez50
          have ebz50 : z50 = some bz1 := ez50.trans pk19
          refine ⟨bz1, ebz50, (hV.mm hsz1 (by decide) rfl), ?_⟩
          intro κ51 eκ51
          have roκ51 := hV.2.1 bz1 (by rw [hsz1]; rfl) bz14 pk20
          have hV := hV.uRL hsz1 rfl pk20 (by show 0 ≤ (z5 : Int32).toInt ∧ (z5 : Int32).toInt ≤ 16000; omega) (by omega) eκ51
          have uκ51 : (sI κ51.1 bz1 1).toInt = (z5 : Int32).toInt := by rw [eκ51]; exact congrArg Int32.toInt u2_same
          have f1κ51 : CF [(63, 1)] W κ49 κ51 := CF.rf.uI (k := 1) hsz1 (by decide) (show ((63, 1) : Nat × Nat) ∈ ([(63, 1)] : List (Nat × Nat)) by simp) eκ51
          have tk22 : (sI κ51.1 b_a1 1).toInt = (sI κ49.1 b_a1 1).toInt := by rw [(f1κ51.1 b_a1 (by rw [hs_a1]; decide) 1 (by rw [hs_a1]; decide)).1]
          have pk23 := (f1κ51.1 h (by rw [hs_h]; decide) 4 (by rw [hs_h]; decide)).2.2.trans pk19
          have pk24 := (f1κ51.1 bz1 (by rw [hsz1]; decide) 0 (by rw [hsz1]; decide)).2.2.trans pk20
          have pk25 := (f1κ51.1 b_a1 (by rw [hs_a1]; decide) 0 (by rw [hs_a1]; decide)).2.2.trans pk21
          have hfr := hfr.trW hx f1κ51 (by decide)
          exact kk W κ51 hx (hV.dn (by omega)) hfr trivial
        · refine ⟨(hV.mm hs_h (by decide) rfl), ?_⟩
          intro z52 ez52
          have ebz52 : z52 = some bz1 := (ez52.trans ez1.symm).trans ebz1
          refine ⟨(hV.mm hs_h (by decide) rfl), ?_⟩
          intro z53 ez53
          have ebz53 : z53 = some bz1 := (ez53.trans ez1.symm).trans ebz1
          refine ⟨bz1, ebz53, (hV.mm hsz1 (by decide) rfl), ?_⟩
          intro z54 ez54
          have ebz54 : z54 = some bz14 := (ez54.trans ez14.symm).trans ebz14
          intro z55 ez55
          try have hz55 := i_mulk 2 rfl ez55 (by omega) (by omega)
          have rg_z55 := i_range z55
          have pr_ : ((3 * (32000 - W.2 bz14) : Nat) : Int) + (c - 0) ≤ κ.2 := hV.potR (by omega) hsz1 rfl pk_z14
          have ro_ := hV.2.1 bz1 (by rw [hsz1]; rfl) bz14 pk_z14
          refine t_J7_copyOf_9075b hV z54 ebz54 hsz14 z55 (by omega) (by omega) (fun z57 qz57 W κ56 ez57 x1_ hV fκ56 hs_qz57 wn_qz57 => ?_)
          have tk26 : (sI κ56.1 bz1 1).toInt = (sI κ.1 bz1 1).toInt := by rw [(fκ56.1 bz1 (by rw [hsz1]; decide) 1 (by rw [hsz1]; decide)).1]
          have tk27 : (sI κ56.1 b_a1 1).toInt = (sI κ.1 b_a1 1).toInt := by rw [(fκ56.1 b_a1 (by rw [hs_a1]; decide) 1 (by rw [hs_a1]; decide)).1]
          have pk28 := (fκ56.1 h (by rw [hs_h]; decide) 4 (by rw [hs_h]; decide)).2.2.trans pk_z1
          have pk29 := (fκ56.1 bz1 (by rw [hsz1]; decide) 0 (by rw [hsz1]; decide)).2.2.trans pk_z14
          have hx2 := hx.tr x1_ hfr.sl
          have hfr := hfr.trW hx fκ56 (by decide)
          have hs_h := WLe.at (x1_).1 hs_h (by decide)
          have hs_a1 := WLe.at (x1_).1 hs_a1 (by decide)
          have hsz1 := WLe.at (x1_).1 hsz1 (by decide)
          have wl_bz14 := ((x1_).1 bz14 (by rw [hsz14]; decide)).2
          have hsz14 := WLe.at (x1_).1 hsz14 (by decide)
          have hx := hx2
          refine ⟨bz1, ebz52, (hV.mm hsz1 (by decide) rfl), ?_⟩
          intro κ58 eκ58
          have ro_ := hV.2.1 bz1 (by rw [hsz1]; rfl) bz14 pk29
          rw [ez57] at eκ58
          have hV := hV.uRB (d := 3 * (W.2 qz57 - W.2 bz14)) hsz1 rfl pk29 hs_qz57 (by omega) (by omega) (by show W.2 qz57 ≤ 32000; omega) (by show _ + 3 * (32000 - W.2 qz57) ≤ 3 * (32000 - W.2 bz14); omega) eκ58
          have hV : CV G E W (c - 0) κ58 := hV.dn (by omega)
          have f1κ58 : CF [(63, 0)] W κ56 κ58 := CF.rf.uP (k := 0) hsz1 (by decide) (show ((63, 0) : Nat × Nat) ∈ ([(63, 0)] : List (Nat × Nat)) by simp) eκ58
          have tk30 : (sI κ58.1 bz1 1).toInt = (sI κ56.1 bz1 1).toInt := by rw [(f1κ58.1 bz1 (by rw [hsz1]; decide) 1 (by rw [hsz1]; decide)).1]
          have tk31 : (sI κ58.1 b_a1 1).toInt = (sI κ56.1 b_a1 1).toInt := by rw [(f1κ58.1 b_a1 (by rw [hs_a1]; decide) 1 (by rw [hs_a1]; decide)).1]
          have pk32 := (f1κ58.1 h (by rw [hs_h]; decide) 4 (by rw [hs_h]; decide)).2.2.trans pk28
          have hfr := hfr.trW hx f1κ58 (by decide)
          have pk_κ58 : sP κ58.1 bz1 0 = some qz57 := by rw [eκ58]; first | exact u2_same | exact u2_same.trans ez57
          (try dsimp only)
          refine ⟨(hV.mm hs_h (by decide) rfl), ?_⟩
          intro z21 ez21
          have ebz21 : z21 = some bz1 := ez21.trans pk32
          refine ⟨bz1, ebz21, (hV.mm hsz1 (by decide) rfl), ?_⟩
          intro z22 ez22
          have ebz22 : z22 = some qz57 := ez22.trans pk_κ58
          have rr_bz1 := hV.2.1 bz1 (by rw [hsz1]; rfl) qz57 pk_κ58
          have ln_ := hV.ln hs_qz57 (by decide) rfl
          refine ⟨qz57, ebz22, (hV.mm hs_qz57 (by decide) rfl), by omega, ?_⟩
          intro κ23 eκ23
          have hV := hV.uI (k := z2.toInt.toNat) (v := (vp_nar .byte 0)) hs_qz57 (Or.inl rfl) (Or.inl (by decide)) (Or.inl (by decide)) (fun _ => (i_byte _)) eκ23
          have f1κ23 : CF [(20, 0)] W κ58 κ23 := CF.rf.uI (k := z2.toInt.toNat) hs_qz57 (by decide) (show ((20, 0) : Nat × Nat) ∈ ([(20, 0)] : List (Nat × Nat)) by simp) eκ23
          have tk33 : (sI κ23.1 bz1 1).toInt = (sI κ58.1 bz1 1).toInt := by rw [(f1κ23.1 bz1 (by rw [hsz1]; decide) 1 (by rw [hsz1]; decide)).1]
          have tk34 : (sI κ23.1 b_a1 1).toInt = (sI κ58.1 b_a1 1).toInt := by rw [(f1κ23.1 b_a1 (by rw [hs_a1]; decide) 1 (by rw [hs_a1]; decide)).1]
          have pk35 := (f1κ23.1 h (by rw [hs_h]; decide) 4 (by rw [hs_h]; decide)).2.2.trans pk32
          have pk36 := (f1κ23.1 bz1 (by rw [hsz1]; decide) 0 (by rw [hsz1]; decide)).2.2.trans pk_κ58
          have hfr := hfr.trW hx f1κ23 (by decide)
          refine ⟨(hV.mm hs_h (by decide) rfl), ?_⟩
          intro z24 ez24
          have ebz24 : z24 = some bz1 := ez24.trans pk35
          refine ⟨bz1, ebz24, (hV.mm hsz1 (by decide) rfl), ?_⟩
          intro z25 ez25
          have ebz25 : z25 = some qz57 := ez25.trans pk36
          intro z26 ez26
          try have hz26 := i_add ez26 (by omega) (by omega)
          have rg_z26 := i_range z26
          refine ⟨b_a1, e_a1, (hV.mm hs_a1 (by decide) rfl), ?_⟩
          intro z27 ez27
          have vz27 := hV.1.iv hs_a1 (by decide) rfl 1 0 1200 rfl ez27
          have wz27 : z27.toInt = (sI κ23.1 b_a1 1).toInt := by rw [ez27]
          have w0z27 : z27.toInt = (sI κ.1 b_a1 1).toInt := by rw [ez27, (hfr.1 b_a1 (by rw [hs0_a1]; decide) 1 (by rw [hs0_a1]; decide)).1]
          intro z28 ez28
          have rg_z28 := i_range z28
          intro z29 ez29
          have hz29 := i_b8 ez29
          have rg_z29 := i_range z29
          have rr_bz1 := hV.2.1 bz1 (by rw [hsz1]; rfl) qz57 pk36
          have ln_ := hV.ln hs_qz57 (by decide) rfl
          refine ⟨qz57, ebz25, (hV.mm hs_qz57 (by decide) rfl), by omega, ?_⟩
          intro κ30 eκ30
          have hV := hV.uI (k := z26.toInt.toNat) (v := (vp_nar .byte z29)) hs_qz57 (Or.inl rfl) (Or.inl (by decide)) (Or.inl (by decide)) (fun _ => (i_byte _)) eκ30
          have f1κ30 : CF [(20, 0)] W κ23 κ30 := CF.rf.uI (k := z26.toInt.toNat) hs_qz57 (by decide) (show ((20, 0) : Nat × Nat) ∈ ([(20, 0)] : List (Nat × Nat)) by simp) eκ30
          have tk37 : (sI κ30.1 bz1 1).toInt = (sI κ23.1 bz1 1).toInt := by rw [(f1κ30.1 bz1 (by rw [hsz1]; decide) 1 (by rw [hsz1]; decide)).1]
          have tk38 : (sI κ30.1 b_a1 1).toInt = (sI κ23.1 b_a1 1).toInt := by rw [(f1κ30.1 b_a1 (by rw [hs_a1]; decide) 1 (by rw [hs_a1]; decide)).1]
          have pk39 := (f1κ30.1 h (by rw [hs_h]; decide) 4 (by rw [hs_h]; decide)).2.2.trans pk35
          have pk40 := (f1κ30.1 bz1 (by rw [hsz1]; decide) 0 (by rw [hsz1]; decide)).2.2.trans pk36
          have hfr := hfr.trW hx f1κ30 (by decide)
          refine ⟨(hV.mm hs_h (by decide) rfl), ?_⟩
          intro z31 ez31
          have ebz31 : z31 = some bz1 := ez31.trans pk39
          refine ⟨bz1, ebz31, (hV.mm hsz1 (by decide) rfl), ?_⟩
          intro z32 ez32
          have ebz32 : z32 = some qz57 := ez32.trans pk40
          intro z33 ez33
          try have hz33 := i_add ez33 (by omega) (by omega)
          have rg_z33 := i_range z33
          refine ⟨b_a1, e_a1, (hV.mm hs_a1 (by decide) rfl), ?_⟩
          intro z34 ez34
          have vz34 := hV.1.iv hs_a1 (by decide) rfl 1 0 1200 rfl ez34
          have wz34 : z34.toInt = (sI κ30.1 b_a1 1).toInt := by rw [ez34]
          have w0z34 : z34.toInt = (sI κ.1 b_a1 1).toInt := by rw [ez34, (hfr.1 b_a1 (by rw [hs0_a1]; decide) 1 (by rw [hs0_a1]; decide)).1]
          intro z35 ez35
          have rg_z35 := i_range z35
          intro z36 ez36
          have hz36 := i_b8 ez36
          have rg_z36 := i_range z36
          have rr_bz1 := hV.2.1 bz1 (by rw [hsz1]; rfl) qz57 pk40
          have ln_ := hV.ln hs_qz57 (by decide) rfl
          refine ⟨qz57, ebz32, (hV.mm hs_qz57 (by decide) rfl), by omega, ?_⟩
          intro κ37 eκ37
          have hV := hV.uI (k := z33.toInt.toNat) (v := (vp_nar .byte z36)) hs_qz57 (Or.inl rfl) (Or.inl (by decide)) (Or.inl (by decide)) (fun _ => (i_byte _)) eκ37
          have f1κ37 : CF [(20, 0)] W κ30 κ37 := CF.rf.uI (k := z33.toInt.toNat) hs_qz57 (by decide) (show ((20, 0) : Nat × Nat) ∈ ([(20, 0)] : List (Nat × Nat)) by simp) eκ37
          have tk41 : (sI κ37.1 bz1 1).toInt = (sI κ30.1 bz1 1).toInt := by rw [(f1κ37.1 bz1 (by rw [hsz1]; decide) 1 (by rw [hsz1]; decide)).1]
          have tk42 : (sI κ37.1 b_a1 1).toInt = (sI κ30.1 b_a1 1).toInt := by rw [(f1κ37.1 b_a1 (by rw [hs_a1]; decide) 1 (by rw [hs_a1]; decide)).1]
          have pk43 := (f1κ37.1 h (by rw [hs_h]; decide) 4 (by rw [hs_h]; decide)).2.2.trans pk39
          have pk44 := (f1κ37.1 bz1 (by rw [hsz1]; decide) 0 (by rw [hsz1]; decide)).2.2.trans pk40
          have hfr := hfr.trW hx f1κ37 (by decide)
          refine ⟨(hV.mm hs_h (by decide) rfl), ?_⟩
          intro z38 ez38
          have ebz38 : z38 = some bz1 := ez38.trans pk43
          refine ⟨bz1, ebz38, (hV.mm hsz1 (by decide) rfl), ?_⟩
          intro z39 ez39
          have ebz39 : z39 = some qz57 := ez39.trans pk44
          intro z40 ez40
          try have hz40 := i_add ez40 (by omega) (by omega)
          have rg_z40 := i_range z40
          refine ⟨b_a1, e_a1, (hV.mm hs_a1 (by decide) rfl), ?_⟩
          intro z41 ez41
          have vz41 := hV.1.iv hs_a1 (by decide) rfl 1 0 1200 rfl ez41
          have wz41 : z41.toInt = (sI κ37.1 b_a1 1).toInt := by rw [ez41]
          have w0z41 : z41.toInt = (sI κ.1 b_a1 1).toInt := by rw [ez41, (hfr.1 b_a1 (by rw [hs0_a1]; decide) 1 (by rw [hs0_a1]; decide)).1]
          intro z42 ez42
          have hz42 := i_b8 ez42
          have rg_z42 := i_range z42
          have rr_bz1 := hV.2.1 bz1 (by rw [hsz1]; rfl) qz57 pk44
          have ln_ := hV.ln hs_qz57 (by decide) rfl
          refine ⟨qz57, ebz39, (hV.mm hs_qz57 (by decide) rfl), by omega, ?_⟩
          intro κ43 eκ43
          have hV := hV.uI (k := z40.toInt.toNat) (v := (vp_nar .byte z42)) hs_qz57 (Or.inl rfl) (Or.inl (by decide)) (Or.inl (by decide)) (fun _ => (i_byte _)) eκ43
          have f1κ43 : CF [(20, 0)] W κ37 κ43 := CF.rf.uI (k := z40.toInt.toNat) hs_qz57 (by decide) (show ((20, 0) : Nat × Nat) ∈ ([(20, 0)] : List (Nat × Nat)) by simp) eκ43
          have tk45 : (sI κ43.1 bz1 1).toInt = (sI κ37.1 bz1 1).toInt := by rw [(f1κ43.1 bz1 (by rw [hsz1]; decide) 1 (by rw [hsz1]; decide)).1]
          have tk46 : (sI κ43.1 b_a1 1).toInt = (sI κ37.1 b_a1 1).toInt := by rw [(f1κ43.1 b_a1 (by rw [hs_a1]; decide) 1 (by rw [hs_a1]; decide)).1]
          have pk47 := (f1κ43.1 h (by rw [hs_h]; decide) 4 (by rw [hs_h]; decide)).2.2.trans pk43
          have pk48 := (f1κ43.1 bz1 (by rw [hsz1]; decide) 0 (by rw [hsz1]; decide)).2.2.trans pk44
          have hfr := hfr.trW hx f1κ43 (by decide)
          refine ⟨b_a1, e_a1, (hV.mm hs_a1 (by decide) rfl), ?_⟩
          intro z44 ez44
          obtain ⟨bz44, ebz44, hsz44⟩ := hV.1.nn hs_a1 (by decide) rfl 0 rfl (by decide)
          have pk_z44 := ebz44
          have ebz44 := ez44.trans ebz44
          refine ⟨(hV.mm hs_h (by decide) rfl), ?_⟩
          intro z45 ez45
          have ebz45 : z45 = some bz1 := ez45.trans pk47
          refine ⟨bz1, ebz45, (hV.mm hsz1 (by decide) rfl), ?_⟩
          intro z46 ez46
          have ebz46 : z46 = some qz57 := ez46.trans pk48
          intro z47 ez47
          try have hz47 := i_add ez47 (by omega) (by omega)
          have rg_z47 := i_range z47
          refine ⟨b_a1, e_a1, (hV.mm hs_a1 (by decide) rfl), ?_⟩
          intro z48 ez48
          have vz48 := hV.1.iv hs_a1 (by decide) rfl 1 0 1200 rfl ez48
          have wz48 : z48.toInt = (sI κ43.1 b_a1 1).toInt := by rw [ez48]
          have w0z48 : z48.toInt = (sI κ.1 b_a1 1).toInt := by rw [ez48, (hfr.1 b_a1 (by rw [hs0_a1]; decide) 1 (by rw [hs0_a1]; decide)).1]
          have rr_b_a1 := hV.2.1 b_a1 (by rw [hs_a1]; rfl) bz44 pk_z44
          have rr_bz1 := hV.2.1 bz1 (by rw [hsz1]; rfl) qz57 pk48
          have ln0_ := hV.ln hsz44 (by decide) rfl
          have ln1_ := hV.ln hs_qz57 (by decide) rfl
          refine ⟨bz44, ebz44, qz57, ebz46, (hV.mm hsz44 (by decide) rfl), (hV.mm hs_qz57 (by decide) rfl), (by omega), fun j hj => (hV.1.el hsz44 (by decide) rfl _ (by omega)).1, ?_⟩
          intro κ49 eκ49
          have hV := hV.cpI hsz44 rfl hs_qz57 rfl (by omega) eκ49
          have f1κ49 : CF [(20, 0)] W κ43 κ49 := CF.rf.cpI hs_qz57 rfl (by decide) eκ49
          have tk49 : (sI κ49.1 bz1 1).toInt = (sI κ43.1 bz1 1).toInt := by rw [(f1κ49.1 bz1 (by rw [hsz1]; decide) 1 (by rw [hsz1]; decide)).1]
          have tk50 : (sI κ49.1 b_a1 1).toInt = (sI κ43.1 b_a1 1).toInt := by rw [(f1κ49.1 b_a1 (by rw [hs_a1]; decide) 1 (by rw [hs_a1]; decide)).1]
          have pk51 := (f1κ49.1 h (by rw [hs_h]; decide) 4 (by rw [hs_h]; decide)).2.2.trans pk47
          have pk52 := (f1κ49.1 bz1 (by rw [hsz1]; decide) 0 (by rw [hsz1]; decide)).2.2.trans pk48
          have pk53 := (f1κ49.1 b_a1 (by rw [hs_a1]; decide) 0 (by rw [hs_a1]; decide)).2.2.trans pk_z44
          have hfr := hfr.trW hx f1κ49 (by decide)
          refine ⟨(hV.mm hs_h (by decide) rfl), ?_⟩
          intro z50 ez50
          have ebz50 : z50 = some bz1 := ez50.trans pk51
          refine ⟨bz1, ebz50, (hV.mm hsz1 (by decide) rfl), ?_⟩
          intro κ51 eκ51
          have roκ51 := hV.2.1 bz1 (by rw [hsz1]; rfl) qz57 pk52
          have hV := hV.uRL hsz1 rfl pk52 (by show 0 ≤ (z5 : Int32).toInt ∧ (z5 : Int32).toInt ≤ 16000; omega) (by omega) eκ51
          have uκ51 : (sI κ51.1 bz1 1).toInt = (z5 : Int32).toInt := by rw [eκ51]; exact congrArg Int32.toInt u2_same
          have f1κ51 : CF [(63, 1)] W κ49 κ51 := CF.rf.uI (k := 1) hsz1 (by decide) (show ((63, 1) : Nat × Nat) ∈ ([(63, 1)] : List (Nat × Nat)) by simp) eκ51
          have tk54 : (sI κ51.1 b_a1 1).toInt = (sI κ49.1 b_a1 1).toInt := by rw [(f1κ51.1 b_a1 (by rw [hs_a1]; decide) 1 (by rw [hs_a1]; decide)).1]
          have pk55 := (f1κ51.1 h (by rw [hs_h]; decide) 4 (by rw [hs_h]; decide)).2.2.trans pk51
          have pk56 := (f1κ51.1 bz1 (by rw [hsz1]; decide) 0 (by rw [hsz1]; decide)).2.2.trans pk52
          have pk57 := (f1κ51.1 b_a1 (by rw [hs_a1]; decide) 0 (by rw [hs_a1]; decide)).2.2.trans pk53
          have hfr := hfr.trW hx f1κ51 (by decide)
          exact kk W κ51 hx (hV.dn (by omega)) hfr trivial
      · (try dsimp only)
        exact kk W κ hx (hV.dn (by omega)) hfr trivial
set_option maxRecDepth 100000 in
set_option maxHeartbeats 4000000 in
theorem t62_X2_post {G : GE} {E : CE} {W0 : CW} {c : Int} {κ : CS} (hV : CV G E W0 c κ) (h : Nat) (hs_h : W0.1 h = 3) (a1 : Option Nat) (b_a1 : Nat) (e_a1 : a1 = some b_a1) (hs_a1 : W0.1 b_a1 = 62)  (hc : 0 ≤ c) {post : CS → Prop} (kk : ∀ (W' : CW) (κ' : CS), WX W0 W' κ → CV G E W' (c - 0) κ' → CF [(20, 0), (63, 0), (63, 1)] W0 κ κ' → (True) → post κ') : F_X2_post G h a1 post κ := by
  have hs0_h := hs_h
  have hs0_a1 := hs_a1
  suffices H_ : ∀ W : CW, WX W0 W κ → CV G E W (c - 0) κ → (W.1 h = 3) → (W.1 b_a1 = 62) → F_X2_post G h a1 post κ from H_ W0 WX.rf (hV.dn (by omega)) hs_h hs_a1
  intro W hx hV hs_h hs_a1
  unfold F_X2_post
  have hfr : CF [(20, 0), (63, 0), (63, 1)] W0 κ κ := CF.rf
  have k_0 : (0 : Int32).toInt = 0 := rfl
  have k_1 : (1 : Int32).toInt = 1 := rfl
  have k_2 : (2 : Int32).toInt = 2 := rfl
  have k_3 : (3 : Int32).toInt = 3 := rfl
  have k_4 : (4 : Int32).toInt = 4 := rfl
  have k_8 : (8 : Int32).toInt = 8 := rfl
  have k_16 : (16 : Int32).toInt = 16 := rfl
  have k_16000 : (16000 : Int32).toInt = 16000 := rfl
  have kl_1 : (1 : Int64).toInt = 1 := rfl
  have kl_2 : (2 : Int64).toInt = 2 := rfl
  have kl_3 : (3 : Int64).toInt = 3 := rfl
  have kl_4 : (4 : Int64).toInt = 4 := rfl
  have kl_8 : (8 : Int64).toInt = 8 := rfl
  have kl_16 : (16 : Int64).toInt = 16 := rfl
  refine ⟨(hV.mm hs_h (by decide) rfl), ?_⟩
  intro z1 ez1
  obtain ⟨bz1, ebz1, hsz1⟩ := hV.1.nn hs_h (by decide) rfl 4 rfl (by decide)
  have pk_z1 := ebz1
  have ebz1 := ez1.trans ebz1
  refine ⟨bz1, ebz1, (hV.mm hsz1 (by decide) rfl), ?_⟩
  intro z2 ez2
  have vz2 := hV.1.iv hsz1 (by decide) rfl 1 0 16000 rfl ez2
  have wz2 : z2.toInt = (sI κ.1 bz1 1).toInt := by rw [ez2]
  intro z3 ez3
  try have hz3 := i_add ez3 (by omega) (by omega)
  have rg_z3 := i_range z3
  refine ⟨b_a1, e_a1, (hV.mm hs_a1 (by decide) rfl), ?_⟩
  intro z4 ez4
  have vz4 := hV.1.iv hs_a1 (by decide) rfl 1 0 80000 rfl ez4
  have wz4 : z4.toInt = (sI κ.1 b_a1 1).toInt := by rw [ez4]
  intro z5 ez5
  try have hz5 := i_add ez5 (by omega) (by omega)
  have rg_z5 := i_range z5
  refine ⟨(hV.mm hs_h (by decide) rfl), ?_⟩
  intro z6 ez6
  have vz6 := hV.1.iv hs_h (by decide) rfl 0 0 1 rfl ez6
  have wz6 : z6.toInt = (sI κ.1 h 0).toInt := by rw [ez6]
  refine jc_dup ?_
  refine ⟨fun c1 => ?_, fun c1 => ?_⟩
  · (try dsimp only)
    exact kk W κ hx (hV.dn (by omega)) hfr trivial
  · refine ⟨b_a1, e_a1, (hV.mm hs_a1 (by decide) rfl), ?_⟩
    intro z12 ez12
    have vz12 := hV.1.iv hs_a1 (by decide) rfl 1 0 80000 rfl ez12
    have wz12 : z12.toInt = (sI κ.1 b_a1 1).toInt := by rw [ez12]
    refine ⟨fun c2 => ?_, fun c2 => ?_⟩
    · (try dsimp only)
      exact kk W κ hx (hV.dn (by omega)) hfr trivial
    · refine ⟨fun c3 => ?_, fun c3 => ?_⟩
      · refine ⟨(hV.mm hs_h (by decide) rfl), ?_⟩
        intro z13 ez13
        have ebz13 : z13 = some bz1 := (ez13.trans ez1.symm).trans ebz1
        refine ⟨bz1, ebz13, (hV.mm hsz1 (by decide) rfl), ?_⟩
        intro z14 ez14
        obtain ⟨bz14, ebz14, hsz14⟩ := hV.1.nn hsz1 (by decide) rfl 0 rfl (by decide)
        have pk_z14 := ebz14
        have ebz14 := ez14.trans ebz14
        refine ⟨(W.2 bz14), (AL.of hV ebz14 hsz14 (by decide) rfl (by decide)), ?_⟩
        intro z15 ez15
        have lnz15 := nI_ln ez15 (hV.lm hsz14 (by decide) rfl)
        have lmz15 := (hV.lm hsz14 (by decide) rfl)
        refine jc_dup ?_
        refine ⟨fun c4 => ?_, fun c4 => ?_⟩
        · (try dsimp only)
          refine ⟨(hV.mm hs_h (by decide) rfl), ?_⟩
          intro z21 ez21
          have ebz21 : z21 = some bz1 := (ez21.trans ez1.symm).trans ebz1
          refine ⟨bz1, ebz21, (hV.mm hsz1 (by decide) rfl), ?_⟩
          intro z22 ez22
          have ebz22 : z22 = some bz14 := (ez22.trans ez14.symm).trans ebz14
          have rr_bz1 := hV.2.1 bz1 (by rw [hsz1]; rfl) bz14 pk_z14
          have ln_ := hV.ln hsz14 (by decide) rfl
          refine ⟨bz14, ebz22, (hV.mm hsz14 (by decide) rfl), by omega, ?_⟩
          intro κ23 eκ23
          have hV := hV.uI (k := z2.toInt.toNat) (v := (vp_nar .byte 0)) hsz14 (Or.inl rfl) (Or.inl (by decide)) (Or.inl (by decide)) (fun _ => (i_byte _)) eκ23
          have f1κ23 : CF [(20, 0)] W κ κ23 := CF.rf.uI (k := z2.toInt.toNat) hsz14 (by decide) (show ((20, 0) : Nat × Nat) ∈ ([(20, 0)] : List (Nat × Nat)) by simp) eκ23
          have tk1 : (sI κ23.1 bz1 1).toInt = (sI κ.1 bz1 1).toInt := by rw [(f1κ23.1 bz1 (by rw [hsz1]; decide) 1 (by rw [hsz1]; decide)).1]
          have tk2 : (sI κ23.1 b_a1 1).toInt = (sI κ.1 b_a1 1).toInt := by rw [(f1κ23.1 b_a1 (by rw [hs_a1]; decide) 1 (by rw [hs_a1]; decide)).1]
          have pk3 := (f1κ23.1 h (by rw [hs_h]; decide) 4 (by rw [hs_h]; decide)).2.2.trans pk_z1
          have pk4 := (f1κ23.1 bz1 (by rw [hsz1]; decide) 0 (by rw [hsz1]; decide)).2.2.trans pk_z14
          have hfr := hfr.trW hx f1κ23 (by decide)
          refine ⟨(hV.mm hs_h (by decide) rfl), ?_⟩
          intro z24 ez24
          have ebz24 : z24 = some bz1 := ez24.trans pk3
          refine ⟨bz1, ebz24, (hV.mm hsz1 (by decide) rfl), ?_⟩
          intro z25 ez25
          have ebz25 : z25 = some bz14 := ez25.trans pk4
          intro z26 ez26
          try have hz26 := i_add ez26 (by omega) (by omega)
          have rg_z26 := i_range z26
          refine ⟨b_a1, e_a1, (hV.mm hs_a1 (by decide) rfl), ?_⟩
          intro z27 ez27
          have vz27 := hV.1.iv hs_a1 (by decide) rfl 1 0 80000 rfl ez27
          have wz27 : z27.toInt = (sI κ23.1 b_a1 1).toInt := by rw [ez27]
          have w0z27 : z27.toInt = (sI κ.1 b_a1 1).toInt := by rw [ez27, (hfr.1 b_a1 (by rw [hs0_a1]; decide) 1 (by rw [hs0_a1]; decide)).1]
          intro z28 ez28
          have rg_z28 := i_range z28
          intro z29 ez29
          have hz29 := i_b8 ez29
          have rg_z29 := i_range z29
          have rr_bz1 := hV.2.1 bz1 (by rw [hsz1]; rfl) bz14 pk4
          have ln_ := hV.ln hsz14 (by decide) rfl
          refine ⟨bz14, ebz25, (hV.mm hsz14 (by decide) rfl), by omega, ?_⟩
          intro κ30 eκ30
          have hV := hV.uI (k := z26.toInt.toNat) (v := (vp_nar .byte z29)) hsz14 (Or.inl rfl) (Or.inl (by decide)) (Or.inl (by decide)) (fun _ => (i_byte _)) eκ30
          have f1κ30 : CF [(20, 0)] W κ23 κ30 := CF.rf.uI (k := z26.toInt.toNat) hsz14 (by decide) (show ((20, 0) : Nat × Nat) ∈ ([(20, 0)] : List (Nat × Nat)) by simp) eκ30
          have tk5 : (sI κ30.1 bz1 1).toInt = (sI κ23.1 bz1 1).toInt := by rw [(f1κ30.1 bz1 (by rw [hsz1]; decide) 1 (by rw [hsz1]; decide)).1]
          have tk6 : (sI κ30.1 b_a1 1).toInt = (sI κ23.1 b_a1 1).toInt := by rw [(f1κ30.1 b_a1 (by rw [hs_a1]; decide) 1 (by rw [hs_a1]; decide)).1]
          have pk7 := (f1κ30.1 h (by rw [hs_h]; decide) 4 (by rw [hs_h]; decide)).2.2.trans pk3
          have pk8 := (f1κ30.1 bz1 (by rw [hsz1]; decide) 0 (by rw [hsz1]; decide)).2.2.trans pk4
          have hfr := hfr.trW hx f1κ30 (by decide)
          refine ⟨(hV.mm hs_h (by decide) rfl), ?_⟩
          intro z31 ez31
          have ebz31 : z31 = some bz1 := ez31.trans pk7
          refine ⟨bz1, ebz31, (hV.mm hsz1 (by decide) rfl), ?_⟩
          intro z32 ez32
          have ebz32 : z32 = some bz14 := ez32.trans pk8
          intro z33 ez33
          try have hz33 := i_add ez33 (by omega) (by omega)
          have rg_z33 := i_range z33
          refine ⟨b_a1, e_a1, (hV.mm hs_a1 (by decide) rfl), ?_⟩
          intro z34 ez34
          have vz34 := hV.1.iv hs_a1 (by decide) rfl 1 0 80000 rfl ez34
          have wz34 : z34.toInt = (sI κ30.1 b_a1 1).toInt := by rw [ez34]
          have w0z34 : z34.toInt = (sI κ.1 b_a1 1).toInt := by rw [ez34, (hfr.1 b_a1 (by rw [hs0_a1]; decide) 1 (by rw [hs0_a1]; decide)).1]
          intro z35 ez35
          have rg_z35 := i_range z35
          intro z36 ez36
          have hz36 := i_b8 ez36
          have rg_z36 := i_range z36
          have rr_bz1 := hV.2.1 bz1 (by rw [hsz1]; rfl) bz14 pk8
          have ln_ := hV.ln hsz14 (by decide) rfl
          refine ⟨bz14, ebz32, (hV.mm hsz14 (by decide) rfl), by omega, ?_⟩
          intro κ37 eκ37
          have hV := hV.uI (k := z33.toInt.toNat) (v := (vp_nar .byte z36)) hsz14 (Or.inl rfl) (Or.inl (by decide)) (Or.inl (by decide)) (fun _ => (i_byte _)) eκ37
          have f1κ37 : CF [(20, 0)] W κ30 κ37 := CF.rf.uI (k := z33.toInt.toNat) hsz14 (by decide) (show ((20, 0) : Nat × Nat) ∈ ([(20, 0)] : List (Nat × Nat)) by simp) eκ37
          have tk9 : (sI κ37.1 bz1 1).toInt = (sI κ30.1 bz1 1).toInt := by rw [(f1κ37.1 bz1 (by rw [hsz1]; decide) 1 (by rw [hsz1]; decide)).1]
          have tk10 : (sI κ37.1 b_a1 1).toInt = (sI κ30.1 b_a1 1).toInt := by rw [(f1κ37.1 b_a1 (by rw [hs_a1]; decide) 1 (by rw [hs_a1]; decide)).1]
          have pk11 := (f1κ37.1 h (by rw [hs_h]; decide) 4 (by rw [hs_h]; decide)).2.2.trans pk7
          have pk12 := (f1κ37.1 bz1 (by rw [hsz1]; decide) 0 (by rw [hsz1]; decide)).2.2.trans pk8
          have hfr := hfr.trW hx f1κ37 (by decide)
          refine ⟨(hV.mm hs_h (by decide) rfl), ?_⟩
          intro z38 ez38
          have ebz38 : z38 = some bz1 := ez38.trans pk11
          refine ⟨bz1, ebz38, (hV.mm hsz1 (by decide) rfl), ?_⟩
          intro z39 ez39
          have ebz39 : z39 = some bz14 := ez39.trans pk12
          intro z40 ez40
          try have hz40 := i_add ez40 (by omega) (by omega)
          have rg_z40 := i_range z40
          refine ⟨b_a1, e_a1, (hV.mm hs_a1 (by decide) rfl), ?_⟩
          intro z41 ez41
          have vz41 := hV.1.iv hs_a1 (by decide) rfl 1 0 80000 rfl ez41
          have wz41 : z41.toInt = (sI κ37.1 b_a1 1).toInt := by rw [ez41]
          have w0z41 : z41.toInt = (sI κ.1 b_a1 1).toInt := by rw [ez41, (hfr.1 b_a1 (by rw [hs0_a1]; decide) 1 (by rw [hs0_a1]; decide)).1]
          intro z42 ez42
          have hz42 := i_b8 ez42
          have rg_z42 := i_range z42
          have rr_bz1 := hV.2.1 bz1 (by rw [hsz1]; rfl) bz14 pk12
          have ln_ := hV.ln hsz14 (by decide) rfl
          refine ⟨bz14, ebz39, (hV.mm hsz14 (by decide) rfl), by omega, ?_⟩
          intro κ43 eκ43
          have hV := hV.uI (k := z40.toInt.toNat) (v := (vp_nar .byte z42)) hsz14 (Or.inl rfl) (Or.inl (by decide)) (Or.inl (by decide)) (fun _ => (i_byte _)) eκ43
          have f1κ43 : CF [(20, 0)] W κ37 κ43 := CF.rf.uI (k := z40.toInt.toNat) hsz14 (by decide) (show ((20, 0) : Nat × Nat) ∈ ([(20, 0)] : List (Nat × Nat)) by simp) eκ43
          have tk13 : (sI κ43.1 bz1 1).toInt = (sI κ37.1 bz1 1).toInt := by rw [(f1κ43.1 bz1 (by rw [hsz1]; decide) 1 (by rw [hsz1]; decide)).1]
          have tk14 : (sI κ43.1 b_a1 1).toInt = (sI κ37.1 b_a1 1).toInt := by rw [(f1κ43.1 b_a1 (by rw [hs_a1]; decide) 1 (by rw [hs_a1]; decide)).1]
          have pk15 := (f1κ43.1 h (by rw [hs_h]; decide) 4 (by rw [hs_h]; decide)).2.2.trans pk11
          have pk16 := (f1κ43.1 bz1 (by rw [hsz1]; decide) 0 (by rw [hsz1]; decide)).2.2.trans pk12
          have hfr := hfr.trW hx f1κ43 (by decide)
          refine ⟨b_a1, e_a1, (hV.mm hs_a1 (by decide) rfl), ?_⟩
          intro z44 ez44
          obtain ⟨bz44, ebz44, hsz44⟩ := hV.1.nn hs_a1 (by decide) rfl 0 rfl (by decide)
          have pk_z44 := ebz44
          have ebz44 := ez44.trans ebz44
          refine ⟨(hV.mm hs_h (by decide) rfl), ?_⟩
          intro z45 ez45
          have ebz45 : z45 = some bz1 := ez45.trans pk15
          refine ⟨bz1, ebz45, (hV.mm hsz1 (by decide) rfl), ?_⟩
          intro z46 ez46
          have ebz46 : z46 = some bz14 := ez46.trans pk16
          intro z47 ez47
          try have hz47 := i_add ez47 (by omega) (by omega)
          have rg_z47 := i_range z47
          refine ⟨b_a1, e_a1, (hV.mm hs_a1 (by decide) rfl), ?_⟩
          intro z48 ez48
          have vz48 := hV.1.iv hs_a1 (by decide) rfl 1 0 80000 rfl ez48
          have wz48 : z48.toInt = (sI κ43.1 b_a1 1).toInt := by rw [ez48]
          have w0z48 : z48.toInt = (sI κ.1 b_a1 1).toInt := by rw [ez48, (hfr.1 b_a1 (by rw [hs0_a1]; decide) 1 (by rw [hs0_a1]; decide)).1]
          have rr_b_a1 := hV.2.1 b_a1 (by rw [hs_a1]; rfl) bz44 pk_z44
          have rr_bz1 := hV.2.1 bz1 (by rw [hsz1]; rfl) bz14 pk16
          have ln0_ := hV.ln hsz44 (by decide) rfl
          have ln1_ := hV.ln hsz14 (by decide) rfl
          refine ⟨bz44, ebz44, bz14, ebz46, (hV.mm hsz44 (by decide) rfl), (hV.mm hsz14 (by decide) rfl), (by omega), fun j hj => (hV.1.el hsz44 (by decide) rfl _ (by omega)).1, ?_⟩
          intro κ49 eκ49
          have hV := hV.cpI hsz44 rfl hsz14 rfl (by omega) eκ49
          have f1κ49 : CF [(20, 0)] W κ43 κ49 := CF.rf.cpI hsz14 rfl (by decide) eκ49
          have tk17 : (sI κ49.1 bz1 1).toInt = (sI κ43.1 bz1 1).toInt := by rw [(f1κ49.1 bz1 (by rw [hsz1]; decide) 1 (by rw [hsz1]; decide)).1]
          have tk18 : (sI κ49.1 b_a1 1).toInt = (sI κ43.1 b_a1 1).toInt := by rw [(f1κ49.1 b_a1 (by rw [hs_a1]; decide) 1 (by rw [hs_a1]; decide)).1]
          have pk19 := (f1κ49.1 h (by rw [hs_h]; decide) 4 (by rw [hs_h]; decide)).2.2.trans pk15
          have pk20 := (f1κ49.1 bz1 (by rw [hsz1]; decide) 0 (by rw [hsz1]; decide)).2.2.trans pk16
          have pk21 := (f1κ49.1 b_a1 (by rw [hs_a1]; decide) 0 (by rw [hs_a1]; decide)).2.2.trans pk_z44
          have hfr := hfr.trW hx f1κ49 (by decide)
          refine ⟨(hV.mm hs_h (by decide) rfl), ?_⟩
          intro z50 ez50
          have ebz50 : z50 = some bz1 := ez50.trans pk19
          refine ⟨bz1, ebz50, (hV.mm hsz1 (by decide) rfl), ?_⟩
          intro κ51 eκ51
          have roκ51 := hV.2.1 bz1 (by rw [hsz1]; rfl) bz14 pk20
          have hV := hV.uRL hsz1 rfl pk20 (by show 0 ≤ (z5 : Int32).toInt ∧ (z5 : Int32).toInt ≤ 16000; omega) (by omega) eκ51
          have uκ51 : (sI κ51.1 bz1 1).toInt = (z5 : Int32).toInt := by rw [eκ51]; exact congrArg Int32.toInt u2_same
          have f1κ51 : CF [(63, 1)] W κ49 κ51 := CF.rf.uI (k := 1) hsz1 (by decide) (show ((63, 1) : Nat × Nat) ∈ ([(63, 1)] : List (Nat × Nat)) by simp) eκ51
          have tk22 : (sI κ51.1 b_a1 1).toInt = (sI κ49.1 b_a1 1).toInt := by rw [(f1κ51.1 b_a1 (by rw [hs_a1]; decide) 1 (by rw [hs_a1]; decide)).1]
          have pk23 := (f1κ51.1 h (by rw [hs_h]; decide) 4 (by rw [hs_h]; decide)).2.2.trans pk19
          have pk24 := (f1κ51.1 bz1 (by rw [hsz1]; decide) 0 (by rw [hsz1]; decide)).2.2.trans pk20
          have pk25 := (f1κ51.1 b_a1 (by rw [hs_a1]; decide) 0 (by rw [hs_a1]; decide)).2.2.trans pk21
          have hfr := hfr.trW hx f1κ51 (by decide)
          exact kk W κ51 hx (hV.dn (by omega)) hfr trivial
        · refine ⟨(hV.mm hs_h (by decide) rfl), ?_⟩
          intro z52 ez52
          have ebz52 : z52 = some bz1 := (ez52.trans ez1.symm).trans ebz1
          refine ⟨(hV.mm hs_h (by decide) rfl), ?_⟩
          intro z53 ez53
          have ebz53 : z53 = some bz1 := (ez53.trans ez1.symm).trans ebz1
          refine ⟨bz1, ebz53, (hV.mm hsz1 (by decide) rfl), ?_⟩
          intro z54 ez54
          have ebz54 : z54 = some bz14 := (ez54.trans ez14.symm).trans ebz14
          intro z55 ez55
          try have hz55 := i_mulk 2 rfl ez55 (by omega) (by omega)
          have rg_z55 := i_range z55
          have pr_ : ((3 * (32000 - W.2 bz14) : Nat) : Int) + (c - 0) ≤ κ.2 := hV.potR (by omega) hsz1 rfl pk_z14
          have ro_ := hV.2.1 bz1 (by rw [hsz1]; rfl) bz14 pk_z14
          refine t_J7_copyOf_9075b hV z54 ebz54 hsz14 z55 (by omega) (by omega) (fun z57 qz57 W κ56 ez57 x1_ hV fκ56 hs_qz57 wn_qz57 => ?_)
          have tk26 : (sI κ56.1 bz1 1).toInt = (sI κ.1 bz1 1).toInt := by rw [(fκ56.1 bz1 (by rw [hsz1]; decide) 1 (by rw [hsz1]; decide)).1]
          have tk27 : (sI κ56.1 b_a1 1).toInt = (sI κ.1 b_a1 1).toInt := by rw [(fκ56.1 b_a1 (by rw [hs_a1]; decide) 1 (by rw [hs_a1]; decide)).1]
          have pk28 := (fκ56.1 h (by rw [hs_h]; decide) 4 (by rw [hs_h]; decide)).2.2.trans pk_z1
          have pk29 := (fκ56.1 bz1 (by rw [hsz1]; decide) 0 (by rw [hsz1]; decide)).2.2.trans pk_z14
          have hx2 := hx.tr x1_ hfr.sl
          have hfr := hfr.trW hx fκ56 (by decide)
          have hs_h := WLe.at (x1_).1 hs_h (by decide)
          have hs_a1 := WLe.at (x1_).1 hs_a1 (by decide)
          have hsz1 := WLe.at (x1_).1 hsz1 (by decide)
          have wl_bz14 := ((x1_).1 bz14 (by rw [hsz14]; decide)).2
          have hsz14 := WLe.at (x1_).1 hsz14 (by decide)
          have hx := hx2
          refine ⟨bz1, ebz52, (hV.mm hsz1 (by decide) rfl), ?_⟩
          intro κ58 eκ58
          have ro_ := hV.2.1 bz1 (by rw [hsz1]; rfl) bz14 pk29
          rw [ez57] at eκ58
          have hV := hV.uRB (d := 3 * (W.2 qz57 - W.2 bz14)) hsz1 rfl pk29 hs_qz57 (by omega) (by omega) (by show W.2 qz57 ≤ 32000; omega) (by show _ + 3 * (32000 - W.2 qz57) ≤ 3 * (32000 - W.2 bz14); omega) eκ58
          have hV : CV G E W (c - 0) κ58 := hV.dn (by omega)
          have f1κ58 : CF [(63, 0)] W κ56 κ58 := CF.rf.uP (k := 0) hsz1 (by decide) (show ((63, 0) : Nat × Nat) ∈ ([(63, 0)] : List (Nat × Nat)) by simp) eκ58
          have tk30 : (sI κ58.1 bz1 1).toInt = (sI κ56.1 bz1 1).toInt := by rw [(f1κ58.1 bz1 (by rw [hsz1]; decide) 1 (by rw [hsz1]; decide)).1]
          have tk31 : (sI κ58.1 b_a1 1).toInt = (sI κ56.1 b_a1 1).toInt := by rw [(f1κ58.1 b_a1 (by rw [hs_a1]; decide) 1 (by rw [hs_a1]; decide)).1]
          have pk32 := (f1κ58.1 h (by rw [hs_h]; decide) 4 (by rw [hs_h]; decide)).2.2.trans pk28
          have hfr := hfr.trW hx f1κ58 (by decide)
          have pk_κ58 : sP κ58.1 bz1 0 = some qz57 := by rw [eκ58]; first | exact u2_same | exact u2_same.trans ez57
          (try dsimp only)
          refine ⟨(hV.mm hs_h (by decide) rfl), ?_⟩
          intro z21 ez21
          have ebz21 : z21 = some bz1 := ez21.trans pk32
          refine ⟨bz1, ebz21, (hV.mm hsz1 (by decide) rfl), ?_⟩
          intro z22 ez22
          have ebz22 : z22 = some qz57 := ez22.trans pk_κ58
          have rr_bz1 := hV.2.1 bz1 (by rw [hsz1]; rfl) qz57 pk_κ58
          have ln_ := hV.ln hs_qz57 (by decide) rfl
          refine ⟨qz57, ebz22, (hV.mm hs_qz57 (by decide) rfl), by omega, ?_⟩
          intro κ23 eκ23
          have hV := hV.uI (k := z2.toInt.toNat) (v := (vp_nar .byte 0)) hs_qz57 (Or.inl rfl) (Or.inl (by decide)) (Or.inl (by decide)) (fun _ => (i_byte _)) eκ23
          have f1κ23 : CF [(20, 0)] W κ58 κ23 := CF.rf.uI (k := z2.toInt.toNat) hs_qz57 (by decide) (show ((20, 0) : Nat × Nat) ∈ ([(20, 0)] : List (Nat × Nat)) by simp) eκ23
          have tk33 : (sI κ23.1 bz1 1).toInt = (sI κ58.1 bz1 1).toInt := by rw [(f1κ23.1 bz1 (by rw [hsz1]; decide) 1 (by rw [hsz1]; decide)).1]
          have tk34 : (sI κ23.1 b_a1 1).toInt = (sI κ58.1 b_a1 1).toInt := by rw [(f1κ23.1 b_a1 (by rw [hs_a1]; decide) 1 (by rw [hs_a1]; decide)).1]
          have pk35 := (f1κ23.1 h (by rw [hs_h]; decide) 4 (by rw [hs_h]; decide)).2.2.trans pk32
          have pk36 := (f1κ23.1 bz1 (by rw [hsz1]; decide) 0 (by rw [hsz1]; decide)).2.2.trans pk_κ58
          have hfr := hfr.trW hx f1κ23 (by decide)
          refine ⟨(hV.mm hs_h (by decide) rfl), ?_⟩
          intro z24 ez24
          have ebz24 : z24 = some bz1 := ez24.trans pk35
          refine ⟨bz1, ebz24, (hV.mm hsz1 (by decide) rfl), ?_⟩
          intro z25 ez25
          have ebz25 : z25 = some qz57 := ez25.trans pk36
          intro z26 ez26
          try have hz26 := i_add ez26 (by omega) (by omega)
          have rg_z26 := i_range z26
          refine ⟨b_a1, e_a1, (hV.mm hs_a1 (by decide) rfl), ?_⟩
          intro z27 ez27
          have vz27 := hV.1.iv hs_a1 (by decide) rfl 1 0 80000 rfl ez27
          have wz27 : z27.toInt = (sI κ23.1 b_a1 1).toInt := by rw [ez27]
          have w0z27 : z27.toInt = (sI κ.1 b_a1 1).toInt := by rw [ez27, (hfr.1 b_a1 (by rw [hs0_a1]; decide) 1 (by rw [hs0_a1]; decide)).1]
          intro z28 ez28
          have rg_z28 := i_range z28
          intro z29 ez29
          have hz29 := i_b8 ez29
          have rg_z29 := i_range z29
          have rr_bz1 := hV.2.1 bz1 (by rw [hsz1]; rfl) qz57 pk36
          have ln_ := hV.ln hs_qz57 (by decide) rfl
          refine ⟨qz57, ebz25, (hV.mm hs_qz57 (by decide) rfl), by omega, ?_⟩
          intro κ30 eκ30
          have hV := hV.uI (k := z26.toInt.toNat) (v := (vp_nar .byte z29)) hs_qz57 (Or.inl rfl) (Or.inl (by decide)) (Or.inl (by decide)) (fun _ => (i_byte _)) eκ30
          have f1κ30 : CF [(20, 0)] W κ23 κ30 := CF.rf.uI (k := z26.toInt.toNat) hs_qz57 (by decide) (show ((20, 0) : Nat × Nat) ∈ ([(20, 0)] : List (Nat × Nat)) by simp) eκ30
          have tk37 : (sI κ30.1 bz1 1).toInt = (sI κ23.1 bz1 1).toInt := by rw [(f1κ30.1 bz1 (by rw [hsz1]; decide) 1 (by rw [hsz1]; decide)).1]
          have tk38 : (sI κ30.1 b_a1 1).toInt = (sI κ23.1 b_a1 1).toInt := by rw [(f1κ30.1 b_a1 (by rw [hs_a1]; decide) 1 (by rw [hs_a1]; decide)).1]
          have pk39 := (f1κ30.1 h (by rw [hs_h]; decide) 4 (by rw [hs_h]; decide)).2.2.trans pk35
          have pk40 := (f1κ30.1 bz1 (by rw [hsz1]; decide) 0 (by rw [hsz1]; decide)).2.2.trans pk36
          have hfr := hfr.trW hx f1κ30 (by decide)
          refine ⟨(hV.mm hs_h (by decide) rfl), ?_⟩
          intro z31 ez31
          have ebz31 : z31 = some bz1 := ez31.trans pk39
          refine ⟨bz1, ebz31, (hV.mm hsz1 (by decide) rfl), ?_⟩
          intro z32 ez32
          have ebz32 : z32 = some qz57 := ez32.trans pk40
          intro z33 ez33
          try have hz33 := i_add ez33 (by omega) (by omega)
          have rg_z33 := i_range z33
          refine ⟨b_a1, e_a1, (hV.mm hs_a1 (by decide) rfl), ?_⟩
          intro z34 ez34
          have vz34 := hV.1.iv hs_a1 (by decide) rfl 1 0 80000 rfl ez34
          have wz34 : z34.toInt = (sI κ30.1 b_a1 1).toInt := by rw [ez34]
          have w0z34 : z34.toInt = (sI κ.1 b_a1 1).toInt := by rw [ez34, (hfr.1 b_a1 (by rw [hs0_a1]; decide) 1 (by rw [hs0_a1]; decide)).1]
          intro z35 ez35
          have rg_z35 := i_range z35
          intro z36 ez36
          have hz36 := i_b8 ez36
          have rg_z36 := i_range z36
          have rr_bz1 := hV.2.1 bz1 (by rw [hsz1]; rfl) qz57 pk40
          have ln_ := hV.ln hs_qz57 (by decide) rfl
          refine ⟨qz57, ebz32, (hV.mm hs_qz57 (by decide) rfl), by omega, ?_⟩
          intro κ37 eκ37
          have hV := hV.uI (k := z33.toInt.toNat) (v := (vp_nar .byte z36)) hs_qz57 (Or.inl rfl) (Or.inl (by decide)) (Or.inl (by decide)) (fun _ => (i_byte _)) eκ37
          have f1κ37 : CF [(20, 0)] W κ30 κ37 := CF.rf.uI (k := z33.toInt.toNat) hs_qz57 (by decide) (show ((20, 0) : Nat × Nat) ∈ ([(20, 0)] : List (Nat × Nat)) by simp) eκ37
          have tk41 : (sI κ37.1 bz1 1).toInt = (sI κ30.1 bz1 1).toInt := by rw [(f1κ37.1 bz1 (by rw [hsz1]; decide) 1 (by rw [hsz1]; decide)).1]
          have tk42 : (sI κ37.1 b_a1 1).toInt = (sI κ30.1 b_a1 1).toInt := by rw [(f1κ37.1 b_a1 (by rw [hs_a1]; decide) 1 (by rw [hs_a1]; decide)).1]
          have pk43 := (f1κ37.1 h (by rw [hs_h]; decide) 4 (by rw [hs_h]; decide)).2.2.trans pk39
          have pk44 := (f1κ37.1 bz1 (by rw [hsz1]; decide) 0 (by rw [hsz1]; decide)).2.2.trans pk40
          have hfr := hfr.trW hx f1κ37 (by decide)
          refine ⟨(hV.mm hs_h (by decide) rfl), ?_⟩
          intro z38 ez38
          have ebz38 : z38 = some bz1 := ez38.trans pk43
          refine ⟨bz1, ebz38, (hV.mm hsz1 (by decide) rfl), ?_⟩
          intro z39 ez39
          have ebz39 : z39 = some qz57 := ez39.trans pk44
          intro z40 ez40
          try have hz40 := i_add ez40 (by omega) (by omega)
          have rg_z40 := i_range z40
          refine ⟨b_a1, e_a1, (hV.mm hs_a1 (by decide) rfl), ?_⟩
          intro z41 ez41
          have vz41 := hV.1.iv hs_a1 (by decide) rfl 1 0 80000 rfl ez41
          have wz41 : z41.toInt = (sI κ37.1 b_a1 1).toInt := by rw [ez41]
          have w0z41 : z41.toInt = (sI κ.1 b_a1 1).toInt := by rw [ez41, (hfr.1 b_a1 (by rw [hs0_a1]; decide) 1 (by rw [hs0_a1]; decide)).1]
          intro z42 ez42
          have hz42 := i_b8 ez42
          have rg_z42 := i_range z42
          have rr_bz1 := hV.2.1 bz1 (by rw [hsz1]; rfl) qz57 pk44
          have ln_ := hV.ln hs_qz57 (by decide) rfl
          refine ⟨qz57, ebz39, (hV.mm hs_qz57 (by decide) rfl), by omega, ?_⟩
          intro κ43 eκ43
          have hV := hV.uI (k := z40.toInt.toNat) (v := (vp_nar .byte z42)) hs_qz57 (Or.inl rfl) (Or.inl (by decide)) (Or.inl (by decide)) (fun _ => (i_byte _)) eκ43
          have f1κ43 : CF [(20, 0)] W κ37 κ43 := CF.rf.uI (k := z40.toInt.toNat) hs_qz57 (by decide) (show ((20, 0) : Nat × Nat) ∈ ([(20, 0)] : List (Nat × Nat)) by simp) eκ43
          have tk45 : (sI κ43.1 bz1 1).toInt = (sI κ37.1 bz1 1).toInt := by rw [(f1κ43.1 bz1 (by rw [hsz1]; decide) 1 (by rw [hsz1]; decide)).1]
          have tk46 : (sI κ43.1 b_a1 1).toInt = (sI κ37.1 b_a1 1).toInt := by rw [(f1κ43.1 b_a1 (by rw [hs_a1]; decide) 1 (by rw [hs_a1]; decide)).1]
          have pk47 := (f1κ43.1 h (by rw [hs_h]; decide) 4 (by rw [hs_h]; decide)).2.2.trans pk43
          have pk48 := (f1κ43.1 bz1 (by rw [hsz1]; decide) 0 (by rw [hsz1]; decide)).2.2.trans pk44
          have hfr := hfr.trW hx f1κ43 (by decide)
          refine ⟨b_a1, e_a1, (hV.mm hs_a1 (by decide) rfl), ?_⟩
          intro z44 ez44
          obtain ⟨bz44, ebz44, hsz44⟩ := hV.1.nn hs_a1 (by decide) rfl 0 rfl (by decide)
          have pk_z44 := ebz44
          have ebz44 := ez44.trans ebz44
          refine ⟨(hV.mm hs_h (by decide) rfl), ?_⟩
          intro z45 ez45
          have ebz45 : z45 = some bz1 := ez45.trans pk47
          refine ⟨bz1, ebz45, (hV.mm hsz1 (by decide) rfl), ?_⟩
          intro z46 ez46
          have ebz46 : z46 = some qz57 := ez46.trans pk48
          intro z47 ez47
          try have hz47 := i_add ez47 (by omega) (by omega)
          have rg_z47 := i_range z47
          refine ⟨b_a1, e_a1, (hV.mm hs_a1 (by decide) rfl), ?_⟩
          intro z48 ez48
          have vz48 := hV.1.iv hs_a1 (by decide) rfl 1 0 80000 rfl ez48
          have wz48 : z48.toInt = (sI κ43.1 b_a1 1).toInt := by rw [ez48]
          have w0z48 : z48.toInt = (sI κ.1 b_a1 1).toInt := by rw [ez48, (hfr.1 b_a1 (by rw [hs0_a1]; decide) 1 (by rw [hs0_a1]; decide)).1]
          have rr_b_a1 := hV.2.1 b_a1 (by rw [hs_a1]; rfl) bz44 pk_z44
          have rr_bz1 := hV.2.1 bz1 (by rw [hsz1]; rfl) qz57 pk48
          have ln0_ := hV.ln hsz44 (by decide) rfl
          have ln1_ := hV.ln hs_qz57 (by decide) rfl
          refine ⟨bz44, ebz44, qz57, ebz46, (hV.mm hsz44 (by decide) rfl), (hV.mm hs_qz57 (by decide) rfl), (by omega), fun j hj => (hV.1.el hsz44 (by decide) rfl _ (by omega)).1, ?_⟩
          intro κ49 eκ49
          have hV := hV.cpI hsz44 rfl hs_qz57 rfl (by omega) eκ49
          have f1κ49 : CF [(20, 0)] W κ43 κ49 := CF.rf.cpI hs_qz57 rfl (by decide) eκ49
          have tk49 : (sI κ49.1 bz1 1).toInt = (sI κ43.1 bz1 1).toInt := by rw [(f1κ49.1 bz1 (by rw [hsz1]; decide) 1 (by rw [hsz1]; decide)).1]
          have tk50 : (sI κ49.1 b_a1 1).toInt = (sI κ43.1 b_a1 1).toInt := by rw [(f1κ49.1 b_a1 (by rw [hs_a1]; decide) 1 (by rw [hs_a1]; decide)).1]
          have pk51 := (f1κ49.1 h (by rw [hs_h]; decide) 4 (by rw [hs_h]; decide)).2.2.trans pk47
          have pk52 := (f1κ49.1 bz1 (by rw [hsz1]; decide) 0 (by rw [hsz1]; decide)).2.2.trans pk48
          have pk53 := (f1κ49.1 b_a1 (by rw [hs_a1]; decide) 0 (by rw [hs_a1]; decide)).2.2.trans pk_z44
          have hfr := hfr.trW hx f1κ49 (by decide)
          refine ⟨(hV.mm hs_h (by decide) rfl), ?_⟩
          intro z50 ez50
          have ebz50 : z50 = some bz1 := ez50.trans pk51
          refine ⟨bz1, ebz50, (hV.mm hsz1 (by decide) rfl), ?_⟩
          intro κ51 eκ51
          have roκ51 := hV.2.1 bz1 (by rw [hsz1]; rfl) qz57 pk52
          have hV := hV.uRL hsz1 rfl pk52 (by show 0 ≤ (z5 : Int32).toInt ∧ (z5 : Int32).toInt ≤ 16000; omega) (by omega) eκ51
          have uκ51 : (sI κ51.1 bz1 1).toInt = (z5 : Int32).toInt := by rw [eκ51]; exact congrArg Int32.toInt u2_same
          have f1κ51 : CF [(63, 1)] W κ49 κ51 := CF.rf.uI (k := 1) hsz1 (by decide) (show ((63, 1) : Nat × Nat) ∈ ([(63, 1)] : List (Nat × Nat)) by simp) eκ51
          have tk54 : (sI κ51.1 b_a1 1).toInt = (sI κ49.1 b_a1 1).toInt := by rw [(f1κ51.1 b_a1 (by rw [hs_a1]; decide) 1 (by rw [hs_a1]; decide)).1]
          have pk55 := (f1κ51.1 h (by rw [hs_h]; decide) 4 (by rw [hs_h]; decide)).2.2.trans pk51
          have pk56 := (f1κ51.1 bz1 (by rw [hsz1]; decide) 0 (by rw [hsz1]; decide)).2.2.trans pk52
          have pk57 := (f1κ51.1 b_a1 (by rw [hs_a1]; decide) 0 (by rw [hs_a1]; decide)).2.2.trans pk53
          have hfr := hfr.trW hx f1κ51 (by decide)
          exact kk W κ51 hx (hV.dn (by omega)) hfr trivial
      · (try dsimp only)
        exact kk W κ hx (hV.dn (by omega)) hfr trivial

/-! the class: what is asked -/
section R9T
variable {W W0 W' : CW} {κ κ' κ2 : CS} {M : List (Nat × Nat)} {n m : Int} {o : Nat}
/-- what came, of all connections, has got longer by n at most -/
def LX (W : CW) (κ κ' : CS) (n : Int) : Prop := ∀ b, W.1 b = 64 → (sI κ'.1 b 1).toInt ≤ (sI κ.1 b 1).toInt + n
theorem LX.rf : LX W κ κ 0 := fun _ _ => by omega
theorem LX.up (h : LX W κ κ' n) (hn : n ≤ m) : LX W κ κ' m := fun b w => by
  have := h b w
  omega
theorem LX.fr (h : LX W0 κ κ' n) (x : WLe W0 W) (f : CF M W κ' κ2) (hm : (64, 1) ∉ M) : LX W0 κ κ2 n := fun b w => by
  have w1 := x.at w (by decide)
  rw [(f.1 b (by rw [w1]; decide) 1 (by rw [w1]; exact hm)).1]
  exact h b w
theorem LX.tr (h : LX W0 κ κ' n) (x : WLe W0 W) (g : LX W κ' κ2 m) : LX W0 κ κ2 (n + m) := fun b w => by
  have h1 := h b w
  have h2 := g b (x.at w (by decide))
  omega
theorem LX.put {d : Nat} {v : Int32} (h : LX W0 κ κ' n) (e : κ2 = (h_uI κ'.1 o 1 v, κ'.2)) (hv : v.toInt ≤ (sI κ'.1 o 1).toInt + d) : LX W0 κ κ2 (n + d) := fun b w => by
  have h1 := h b w
  rw [e]
  show (u2 (sI κ'.1) o 1 v b 1).toInt ≤ _
  by_cases c : b = o
  · subst c
    rw [u2_same]
    omega
  · rw [u2_addr c]
    omega
/-- who connects a tree has a session -/
def HB (W : CW) (κ : CS) (o : Nat) : Prop := (sI κ.1 o 5).toInt = 3 → ∃ b, sP κ.1 o 13 = some b ∧ W.1 b = 11
theorem HB.fr (f : CF M W κ κ') (x : WLe W W') (ho : W.1 o = 8) (m1 : (8, 5) ∉ M) (m2 : (8, 13) ∉ M) (h : HB W κ o) : HB W' κ' o := fun q => by
  rw [(f.1 o (by rw [ho]; decide) 5 (by rw [ho]; exact m1)).1] at q
  obtain ⟨b, e, w⟩ := h q
  exact ⟨b, (f.1 o (by rw [ho]; decide) 13 (by rw [ho]; exact m2)).2.2.trans e, x.at w (by decide)⟩
end R9T
set_option maxRecDepth 100000 in
set_option maxHeartbeats 4000000 in
theorem t64b_X6_add {G : GE} {E : CE} {W0 : CW} {c : Int} {κ : CS} (hV : CV G E W0 c κ) (h : Nat) (hs_h : W0.1 h = 64) (a1 : Int32) (hz : (sI κ.1 h 1).toInt ≤ 4003) (hc : 0 ≤ c) {post : CS → Prop} (kk : ∀ (W' : CW) (κ' : CS), WX W0 W' κ → CV G E W' (c - 0) κ' → CF [(20, 0), (64, 0), (64, 1)] W0 κ κ' → LX W0 κ κ' (1) → ((sI κ'.1 h 1).toInt = (sI κ.1 h 1).toInt + 1) → post κ') : F_X6_add G h a1 post κ := by
  have hs0_h := hs_h
  suffices H_ : ∀ W : CW, WX W0 W κ → CV G E W (c - 0) κ → (W.1 h = 64) → F_X6_add G h a1 post κ from H_ W0 WX.rf (hV.dn (by omega)) hs_h
  intro W hx hV hs_h
  unfold F_X6_add
  have hfr : CF [(20, 0), (64, 0), (64, 1)] W0 κ κ := CF.rf
  have hlx : LX W0 κ κ 0 := LX.rf
  have k_0 : (0 : Int32).toInt = 0 := rfl
  have k_1 : (1 : Int32).toInt = 1 := rfl
  have k_2 : (2 : Int32).toInt = 2 := rfl
  have k_64 : (64 : Int32).toInt = 64 := rfl
  have kl_1 : (1 : Int64).toInt = 1 := rfl
  have kl_2 : (2 : Int64).toInt = 2 := rfl
  have kl_64 : (64 : Int64).toInt = 64 := rfl
  have rg_a1 := i_range a1
  refine ⟨(hV.mm hs_h (by decide) rfl), ?_⟩
  intro z1 ez1
  have vz1 := hV.1.iv hs_h (by decide) rfl 1 0 4004 rfl ez1
  have wz1 : z1.toInt = (sI κ.1 h 1).toInt := by rw [ez1]
  refine ⟨(hV.mm hs_h (by decide) rfl), ?_⟩
  intro z2 ez2
  obtain ⟨bz2, ebz2, hsz2⟩ := hV.1.nn hs_h (by decide) rfl 0 rfl (by decide)
  have pk_z2 := ebz2
  have ebz2 := ez2.trans ebz2
  refine ⟨(W.2 bz2), (AL.of hV ebz2 hsz2 (by decide) rfl (by decide)), ?_⟩
  intro z3 ez3
  have lnz3 := nI_ln ez3 (hV.lm hsz2 (by decide) rfl)
  have lmz3 := (hV.lm hsz2 (by decide) rfl)
  refine jc_dup ?_
  refine ⟨fun c1 => ?_, fun c1 => ?_⟩
  · (try dsimp only)
    refine ⟨(hV.mm hs_h (by decide) rfl), ?_⟩
    intro z9 ez9
    have ebz9 : z9 = some bz2 := (ez9.trans ez2.symm).trans ebz2
    refine ⟨(hV.mm hs_h (by decide) rfl), ?_⟩
    intro z10 ez10
    have vz10 := hV.1.iv hs_h (by decide) rfl 1 0 4004 rfl ez10
    have wz10 : z10.toInt = (sI κ.1 h 1).toInt := by rw [ez10]
    intro z11 ez11
    have hz11 := i_b8 ez11
    have rg_z11 := i_range z11
    have ln_ := hV.ln hsz2 (by decide) rfl
    refine ⟨bz2, ebz9, (hV.mm hsz2 (by decide) rfl), by omega, ?_⟩
    intro κ12 eκ12
    have hV := hV.uI (k := z10.toInt.toNat) (v := (vp_nar .byte z11)) hsz2 (Or.inl rfl) (Or.inl (by decide)) (Or.inl (by decide)) (fun _ => (i_byte _)) eκ12
    have f1κ12 : CF [(20, 0)] W κ κ12 := CF.rf.uI (k := z10.toInt.toNat) hsz2 (by decide) (show ((20, 0) : Nat × Nat) ∈ ([(20, 0)] : List (Nat × Nat)) by simp) eκ12
    have tk1 : (sI κ12.1 h 1).toInt = (sI κ.1 h 1).toInt := by rw [(f1κ12.1 h (by rw [hs_h]; decide) 1 (by rw [hs_h]; decide)).1]
    have pk2 := (f1κ12.1 h (by rw [hs_h]; decide) 0 (by rw [hs_h]; decide)).2.2.trans pk_z2
    have hlx := hlx.fr hx.1 f1κ12 (by decide)
    have hfr := hfr.trW hx f1κ12 (by decide)
    refine ⟨(hV.mm hs_h (by decide) rfl), ?_⟩
    intro z13 ez13
    have vz13 := hV.1.iv hs_h (by decide) rfl 1 0 4004 rfl ez13
    have wz13 : z13.toInt = (sI κ12.1 h 1).toInt := by rw [ez13]
    intro z14 ez14
    try have hz14 := i_add ez14 (by omega) (by omega)
    have rg_z14 := i_range z14
    refine ⟨(hV.mm hs_h (by decide) rfl), ?_⟩
    have lv_κ15 : 0 ≤ (sI κ12.1 h 1).toInt ∧ (sI κ12.1 h 1).toInt ≤ 4004 := hV.1.iv hs_h (by decide) rfl 1 0 4004 rfl rfl
    intro κ15 eκ15
    have roκ15 := hV.2.1 h (by rw [hs_h]; rfl) bz2 pk2
    have hV := hV.uRL hs_h rfl pk2 (by show 0 ≤ (z14 : Int32).toInt ∧ (z14 : Int32).toInt ≤ 4004; omega) (by omega) eκ15
    have uκ15 : (sI κ15.1 h 1).toInt = (z14 : Int32).toInt := by rw [eκ15]; exact congrArg Int32.toInt u2_same
    have hlx := hlx.put (d := 1) (v := z14) eκ15 (by omega)
    have f1κ15 : CF [(64, 1)] W κ12 κ15 := CF.rf.uI (k := 1) hs_h (by decide) (show ((64, 1) : Nat × Nat) ∈ ([(64, 1)] : List (Nat × Nat)) by simp) eκ15
    have pk3 := (f1κ15.1 h (by rw [hs_h]; decide) 0 (by rw [hs_h]; decide)).2.2.trans pk2
    have hfr := hfr.trW hx f1κ15 (by decide)
    exact kk W κ15 hx (hV.dn (by omega)) hfr (hlx.up (by omega)) (by omega)
  · refine ⟨(hV.mm hs_h (by decide) rfl), ?_⟩
    intro z16 ez16
    have ebz16 : z16 = some bz2 := (ez16.trans ez2.symm).trans ebz2
    refine ⟨(hV.mm hs_h (by decide) rfl), ?_⟩
    intro z17 ez17
    have vz17 := hV.1.iv hs_h (by decide) rfl 1 0 4004 rfl ez17
    have wz17 : z17.toInt = (sI κ.1 h 1).toInt := by rw [ez17]
    intro z18 ez18
    try have hz18 := i_mulk 2 rfl ez18 (by omega) (by omega)
    have rg_z18 := i_range z18
    intro z19 ez19
    try have hz19 := i_add ez19 (by omega) (by omega)
    have rg_z19 := i_range z19
    have pr_ : ((3 * (8072 - W.2 bz2) : Nat) : Int) + (c - 0) ≤ κ.2 := hV.potR (by omega) hs_h rfl pk_z2
    have ro_ := hV.2.1 h (by rw [hs_h]; rfl) bz2 pk_z2
    refine t_J7_copyOf_9075b hV z16 ebz16 hsz2 z19 (by omega) (by omega) (fun z21 qz21 W κ20 ez21 x1_ hV fκ20 hs_qz21 wn_qz21 => ?_)
    have tk4 : (sI κ20.1 h 1).toInt = (sI κ.1 h 1).toInt := by rw [(fκ20.1 h (by rw [hs_h]; decide) 1 (by rw [hs_h]; decide)).1]
    have pk5 := (fκ20.1 h (by rw [hs_h]; decide) 0 (by rw [hs_h]; decide)).2.2.trans pk_z2
    have hlx := hlx.fr hx.1 fκ20 (by decide)
    have hx2 := hx.tr x1_ hfr.sl
    have hfr := hfr.trW hx fκ20 (by decide)
    have hs_h := WLe.at (x1_).1 hs_h (by decide)
    have wl_bz2 := ((x1_).1 bz2 (by rw [hsz2]; decide)).2
    have hsz2 := WLe.at (x1_).1 hsz2 (by decide)
    have hx := hx2
    refine ⟨(hV.mm hs_h (by decide) rfl), ?_⟩
    intro κ22 eκ22
    have ro_ := hV.2.1 h (by rw [hs_h]; rfl) bz2 pk5
    rw [ez21] at eκ22
    have hV := hV.uRB (d := 3 * (W.2 qz21 - W.2 bz2)) hs_h rfl pk5 hs_qz21 (by omega) (by omega) (by show W.2 qz21 ≤ 8072; omega) (by show _ + 3 * (8072 - W.2 qz21) ≤ 3 * (8072 - W.2 bz2); omega) eκ22
    have hV : CV G E W (c - 0) κ22 := hV.dn (by omega)
    have f1κ22 : CF [(64, 0)] W κ20 κ22 := CF.rf.uP (k := 0) hs_h (by decide) (show ((64, 0) : Nat × Nat) ∈ ([(64, 0)] : List (Nat × Nat)) by simp) eκ22
    have tk6 : (sI κ22.1 h 1).toInt = (sI κ20.1 h 1).toInt := by rw [(f1κ22.1 h (by rw [hs_h]; decide) 1 (by rw [hs_h]; decide)).1]
    have hlx := hlx.fr hx.1 f1κ22 (by decide)
    have hfr := hfr.trW hx f1κ22 (by decide)
    have pk_κ22 : sP κ22.1 h 0 = some qz21 := by rw [eκ22]; first | exact u2_same | exact u2_same.trans ez21
    (try dsimp only)
    refine ⟨(hV.mm hs_h (by decide) rfl), ?_⟩
    intro z9 ez9
    have ebz9 : z9 = some qz21 := ez9.trans pk_κ22
    refine ⟨(hV.mm hs_h (by decide) rfl), ?_⟩
    intro z10 ez10
    have vz10 := hV.1.iv hs_h (by decide) rfl 1 0 4004 rfl ez10
    have wz10 : z10.toInt = (sI κ22.1 h 1).toInt := by rw [ez10]
    intro z11 ez11
    have hz11 := i_b8 ez11
    have rg_z11 := i_range z11
    have ln_ := hV.ln hs_qz21 (by decide) rfl
    refine ⟨qz21, ebz9, (hV.mm hs_qz21 (by decide) rfl), by omega, ?_⟩
    intro κ12 eκ12
    have hV := hV.uI (k := z10.toInt.toNat) (v := (vp_nar .byte z11)) hs_qz21 (Or.inl rfl) (Or.inl (by decide)) (Or.inl (by decide)) (fun _ => (i_byte _)) eκ12
    have f1κ12 : CF [(20, 0)] W κ22 κ12 := CF.rf.uI (k := z10.toInt.toNat) hs_qz21 (by decide) (show ((20, 0) : Nat × Nat) ∈ ([(20, 0)] : List (Nat × Nat)) by simp) eκ12
    have tk7 : (sI κ12.1 h 1).toInt = (sI κ22.1 h 1).toInt := by rw [(f1κ12.1 h (by rw [hs_h]; decide) 1 (by rw [hs_h]; decide)).1]
    have pk8 := (f1κ12.1 h (by rw [hs_h]; decide) 0 (by rw [hs_h]; decide)).2.2.trans pk_κ22
    have hlx := hlx.fr hx.1 f1κ12 (by decide)
    have hfr := hfr.trW hx f1κ12 (by decide)
    refine ⟨(hV.mm hs_h (by decide) rfl), ?_⟩
    intro z13 ez13
    have vz13 := hV.1.iv hs_h (by decide) rfl 1 0 4004 rfl ez13
    have wz13 : z13.toInt = (sI κ12.1 h 1).toInt := by rw [ez13]
    intro z14 ez14
    try have hz14 := i_add ez14 (by omega) (by omega)
    have rg_z14 := i_range z14
    refine ⟨(hV.mm hs_h (by decide) rfl), ?_⟩
    have lv_κ15 : 0 ≤ (sI κ12.1 h 1).toInt ∧ (sI κ12.1 h 1).toInt ≤ 4004 := hV.1.iv hs_h (by decide) rfl 1 0 4004 rfl rfl
    intro κ15 eκ15
    have roκ15 := hV.2.1 h (by rw [hs_h]; rfl) qz21 pk8
    have hV := hV.uRL hs_h rfl pk8 (by show 0 ≤ (z14 : Int32).toInt ∧ (z14 : Int32).toInt ≤ 4004; omega) (by omega) eκ15
    have uκ15 : (sI κ15.1 h 1).toInt = (z14 : Int32).toInt := by rw [eκ15]; exact congrArg Int32.toInt u2_same
    have hlx := hlx.put (d := 1) (v := z14) eκ15 (by omega)
    have f1κ15 : CF [(64, 1)] W κ12 κ15 := CF.rf.uI (k := 1) hs_h (by decide) (show ((64, 1) : Nat × Nat) ∈ ([(64, 1)] : List (Nat × Nat)) by simp) eκ15
    have pk9 := (f1κ15.1 h (by rw [hs_h]; decide) 0 (by rw [hs_h]; decide)).2.2.trans pk8
    have hfr := hfr.trW hx f1κ15 (by decide)
    exact kk W κ15 hx (hV.dn (by omega)) hfr (hlx.up (by omega)) (by omega)
set_option maxRecDepth 100000 in
set_option maxHeartbeats 4000000 in
theorem t_X0_init {G : GE} {E : CE} {W0 : CW} {c : Int} {κ : CS} (hV : CV G E W0 c κ) (h : Nat) (hp_h : PO G E W0 κ h 8 [0]) (a1 : Option Nat) (b_a1 : Nat) (e_a1 : a1 = some b_a1) (hs_a1 : W0.1 b_a1 = 3) (hk0 : ∃ b, sP κ.1 b_a1 2 = some b ∧ W0.1 b = 64 ∧ (True)) (hz : 0 ≤ (sI κ.1 b_a1 8).toInt ∧ (sI κ.1 b_a1 8).toInt ≤ 100000) (hc : 0 ≤ c) {post : CS → Prop} (kk : ∀ (W' : CW) (κ' : CS), WX W0 W' κ → CV G E W' (c - 0) κ' → CFx [] W0 h κ κ' → PO G E W' κ' h 8 [] → (sP κ'.1 h 0 = a1 ∧ (sI κ'.1 h 1).toInt = (sI κ.1 b_a1 8).toInt ∧ 0 ≤ (sJ κ'.1 h 3).toInt ∧ (sJ κ'.1 h 3).toInt ≤ 4294967295 ∧ ∀ b, sP κ.1 b_a1 2 = some b → ((sJ κ'.1 h 3).toInt = 0 ∨ (sI κ'.1 h 2).toInt ≤ (sJ κ'.1 h 3).toInt) ∧ ((sI κ'.1 h 2).toInt = ((sI κ.1 b 1).toInt - (sI κ.1 b_a1 8).toInt) ∨ (((sI κ.1 b 1).toInt - (sI κ.1 b_a1 8).toInt) < 0 ∧ (sI κ'.1 h 2).toInt = 0) ∨ ((sJ κ'.1 h 3).toInt ≠ 0 ∧ (sI κ'.1 h 2).toInt = (sJ κ'.1 h 3).toInt))) → post κ') : F_X0_init G h a1 post κ := by
  have hp0_h := hp_h
  have hs0_a1 := hs_a1
  have hk00 := hk0
  have hp0_h := hp_h.1
  suffices H_ : ∀ W : CW, WX W0 W κ → CV G E W (c - 0) κ → (PO G E W κ h 8 [0]) → (W.1 b_a1 = 3) → (∃ b, sP κ.1 b_a1 2 = some b ∧ W.1 b = 64 ∧ (True)) → F_X0_init G h a1 post κ from H_ W0 WX.rf (hV.dn (by omega)) hp_h hs_a1 hk0
  intro W hx hV hp_h hs_a1 hk0
  unfold F_X0_init
  have hfr : CFx [] W0 h κ κ := CFx.rf
  have k_0 : (0 : Int32).toInt = 0 := rfl
  have k_1 : (1 : Int32).toInt = 1 := rfl
  have k_2 : (2 : Int32).toInt = 2 := rfl
  have k_4 : (4 : Int32).toInt = 4 := rfl
  have k_6 : (6 : Int32).toInt = 6 := rfl
  have k_8 : (8 : Int32).toInt = 8 := rfl
  have k_12 : (12 : Int32).toInt = 12 := rfl
  have k_14 : (14 : Int32).toInt = 14 := rfl
  have k_16 : (16 : Int32).toInt = 16 := rfl
  have k_20 : (20 : Int32).toInt = 20 := rfl
  have k_24 : (24 : Int32).toInt = 24 := rfl
  have k_32 : (32 : Int32).toInt = 32 := rfl
  have k_36 : (36 : Int32).toInt = 36 := rfl
  have k_40 : (40 : Int32).toInt = 40 := rfl
  have kl_0 : (0 : Int64).toInt = 0 := rfl
  have kl_2 : (2 : Int64).toInt = 2 := rfl
  have kl_4 : (4 : Int64).toInt = 4 := rfl
  have kl_6 : (6 : Int64).toInt = 6 := rfl
  have kl_8 : (8 : Int64).toInt = 8 := rfl
  have kl_12 : (12 : Int64).toInt = 12 := rfl
  have kl_14 : (14 : Int64).toInt = 14 := rfl
  have kl_16 : (16 : Int64).toInt = 16 := rfl
  have kl_20 : (20 : Int64).toInt = 20 := rfl
  have kl_24 : (24 : Int64).toInt = 24 := rfl
  have kl_32 : (32 : Int64).toInt = 32 := rfl
  have kl_36 : (36 : Int64).toInt = 36 := rfl
  have kl_40 : (40 : Int64).toInt = 40 := rfl
  obtain ⟨bp0, ep0, wp0, xp0⟩ := hk0
  refine ⟨(hp_h).2.1, ?_⟩
  intro κ2 eκ2
  have hV := hV.uP0 hp_h eκ2
  have hq_ := (hp_h).1
  have hp_h := (hp_h).uP (k := 0) (v := a1) (D2 := []) (Or.inr (Or.inr (Or.inr ⟨b_a1, e_a1, hs_a1⟩))) (by decide) eκ2
  have hfr := hfr.pP hp0_h eκ2
  have pk1 := ((CFx.rf.pP (M := []) hq_ eκ2 : CFx [] W h κ κ2).1 b_a1 (by rw [hs_a1]; decide) 2 (by simp)).2.2.trans ep0
  have tk2 : (sI κ2.1 bp0 1).toInt = (sI κ.1 bp0 1).toInt := by rw [((CFx.rf.pP (M := []) hq_ eκ2 : CFx [] W h κ κ2).1 bp0 (by rw [wp0]; decide) 1 (by simp)).1]
  have q0 : sP κ2.1 h 0 = a1 := by rw [eκ2]; exact u2_same
  refine ⟨b_a1, e_a1, (hV.mm hs_a1 (by decide) rfl), ?_⟩
  intro z3 ez3
  have vz3 := hV.1.iv hs_a1 (by decide) rfl 8 (-2147483648) 2147483647 rfl ez3
  have wz3 : z3.toInt = (sI κ2.1 b_a1 8).toInt := by rw [ez3]
  have w0z3 : z3.toInt = (sI κ.1 b_a1 8).toInt := by rw [ez3, (hfr.1 b_a1 (by rw [hs0_a1]; decide) 8 (by rw [hs0_a1]; decide)).1]
  refine ⟨(hp_h).2.1, ?_⟩
  intro κ4 eκ4
  have rv_κ4 := i_range z3
  have hV := hV.uI0 hp_h eκ4
  have hq_ := (hp_h).1
  have hp_h := (hp_h).uI (k := 1) (v := z3) rv_κ4 eκ4
  have uκ4 : (sI κ4.1 h 1).toInt = (z3 : Int32).toInt := by rw [eκ4]; exact congrArg Int32.toInt u2_same
  have hfr := hfr.pI hp0_h eκ4
  have pk3 := ((CFx.rf.pI (M := []) hq_ eκ4 : CFx [] W h κ2 κ4).1 b_a1 (by rw [hs_a1]; decide) 2 (by simp)).2.2.trans pk1
  have tk4 : (sI κ4.1 bp0 1).toInt = (sI κ2.1 bp0 1).toInt := by rw [((CFx.rf.pI (M := []) hq_ eκ4 : CFx [] W h κ2 κ4).1 bp0 (by rw [wp0]; decide) 1 (by simp)).1]
  have q0 : sP κ4.1 h 0 = a1 := by rw [eκ4]; exact q0
  have tq_i1 : sI κ4.1 h 1 = z3 := by rw [eκ4]; exact u2_same
  refine ⟨b_a1, e_a1, (hV.mm hs_a1 (by decide) rfl), ?_⟩
  intro z5 ez5
  have ebz5 : z5 = some bp0 := ez5.trans pk3
  refine ⟨bp0, ebz5, (hV.mm wp0 (by decide) rfl), ?_⟩
  intro z6 ez6
  have vz6 := hV.1.iv wp0 (by decide) rfl 1 0 4004 rfl ez6
  have wz6 : z6.toInt = (sI κ4.1 bp0 1).toInt := by rw [ez6]
  refine ⟨(hp_h).2.1, ?_⟩
  intro z7 ez7
  have vz7 : (-2147483648) ≤ z7.toInt ∧ z7.toInt ≤ 2147483647 := by rw [ez7]; exact ((hp_h).2.2.2 1).1
  have wz7 : z7.toInt = (sI κ4.1 h 1).toInt := by rw [ez7]
  intro z8 ez8
  try have hz8 := i_sub ez8 (by omega) (by omega)
  have rg_z8 := i_range z8
  intro z10 mz10
  have rg_z10 := i_range z10
  refine ⟨b_a1, e_a1, (hV.mm hs_a1 (by decide) rfl), ?_⟩
  intro z11 ez11
  have ebz11 : z11 = some bp0 := ez11.trans pk3
  refine ⟨(hp_h).2.1, ?_⟩
  intro z12 ez12
  have vz12 : (-2147483648) ≤ z12.toInt ∧ z12.toInt ≤ 2147483647 := by rw [ez12]; exact ((hp_h).2.2.2 1).1
  have wz12 : z12.toInt = (sI κ4.1 h 1).toInt := by rw [ez12]
  intro z13 ez13
  try have hz13 := i_add ez13 (by omega) (by omega)
  have rg_z13 := i_range z13
  refine ⟨bp0, ebz11, (hV.mm wp0 (by decide) rfl), ?_⟩
  refine t2_X6_number hV bp0 wp0 (by rfl) z13 4  (by decide) (fun z15 pz15 => ?_)
  have rg_z15 := l_range z15
  obtain ⟨pz15, -, -⟩ := pz15
  refine ⟨(hp_h).2.1, ?_⟩
  intro κ16 eκ16
  have hV := hV.uJ eκ16
  have hq_ := (hp_h).1
  have hp_h := (hp_h).uJ eκ16
  have hfr := hfr.pJ hp0_h eκ16
  have pk5 := ((CFx.rf.pJ (M := []) hq_ eκ16 : CFx [] W h κ4 κ16).1 b_a1 (by rw [hs_a1]; decide) 2 (by simp)).2.2.trans pk3
  have q0 : sP κ16.1 h 0 = a1 := by rw [eκ16]; exact q0
  have tq_i1 : sI κ16.1 h 1 = z3 := by rw [eκ16]; exact tq_i1
  have tq_j3 : sJ κ16.1 h 3 = z15 := by rw [eκ16]; exact u2_same
  have uκ16 : (sJ κ16.1 h 3).toInt = (z15 : Int64).toInt := by rw [eκ16]; exact congrArg Int64.toInt u2_same
  refine ⟨(hp_h).2.1, ?_⟩
  intro z17 ez17
  have vz17 := l_range z17
  have wz17 : z17.toInt = (sJ κ16.1 h 3).toInt := by rw [ez17]
  refine jc_in (fun (x : Int32) (κ' : CS) => κ16 = κ' ∧ (((z15.toInt = 0 ∨ x.toInt ≤ z15.toInt) ∧ (x.toInt = z10.toInt ∨ (z15.toInt ≠ 0 ∧ x.toInt = z15.toInt))))) (fun x18 κ19 hJ => ?_) (fun K20 hK20 => ?_)
  · obtain ⟨hsg, hv⟩ := hJ
    subst hsg
    (try dsimp only at hv)
    have rg_x18 := i_range x18
    refine ⟨(hp_h).2.1, ?_⟩
    intro κ23 eκ23
    have rv_κ23 := i_range x18
    have hV := hV.uI0 hp_h eκ23
    have hq_ := (hp_h).1
    have hp_h := (hp_h).uI (k := 2) (v := x18) rv_κ23 eκ23
    have uκ23 : (sI κ23.1 h 2).toInt = (x18 : Int32).toInt := by rw [eκ23]; exact congrArg Int32.toInt u2_same
    have hfr := hfr.pI hp0_h eκ23
    have pk6 := ((CFx.rf.pI (M := []) hq_ eκ23 : CFx [] W h κ16 κ23).1 b_a1 (by rw [hs_a1]; decide) 2 (by simp)).2.2.trans pk5
    have q0 : sP κ23.1 h 0 = a1 := by rw [eκ23]; exact q0
    have tq_i1 : sI κ23.1 h 1 = z3 := by rw [eκ23]; exact (u2_pl (by decide)).trans tq_i1
    have tq_i2 : sI κ23.1 h 2 = x18 := by rw [eκ23]; exact u2_same
    have tq_j3 : sJ κ23.1 h 3 = z15 := by rw [eκ23]; exact tq_j3
    refine ⟨b_a1, e_a1, (hV.mm hs_a1 (by decide) rfl), ?_⟩
    intro z24 ez24
    have ebz24 : z24 = some bp0 := ez24.trans pk6
    refine ⟨(hp_h).2.1, ?_⟩
    intro z25 ez25
    have vz25 : (-2147483648) ≤ z25.toInt ∧ z25.toInt ≤ 2147483647 := by rw [ez25]; exact ((hp_h).2.2.2 1).1
    have wz25 : z25.toInt = (sI κ23.1 h 1).toInt := by rw [ez25]
    intro z26 ez26
    try have hz26 := i_add ez26 (by omega) (by omega)
    have rg_z26 := i_range z26
    refine ⟨bp0, ebz24, (hV.mm wp0 (by decide) rfl), ?_⟩
    refine t2_X6_number hV bp0 wp0 (by rfl) z26 2  (by decide) (fun z28 pz28 => ?_)
    have rg_z28 := l_range z28
    have qz28 := pz28.2.1 (by decide)
    obtain ⟨pz28, -, -⟩ := pz28
    intro z29 ez29
    try have hz29 := l_toi ez29 (by omega) (by omega)
    have rg_z29 := i_range z29
    refine ⟨(hp_h).2.1, ?_⟩
    intro κ30 eκ30
    have rv_κ30 := i_range z29
    have hV := hV.uI0 hp_h eκ30
    have hq_ := (hp_h).1
    have hp_h := (hp_h).uI (k := 4) (v := z29) rv_κ30 eκ30
    have uκ30 : (sI κ30.1 h 4).toInt = (z29 : Int32).toInt := by rw [eκ30]; exact congrArg Int32.toInt u2_same
    have hfr := hfr.pI hp0_h eκ30
    have pk7 := ((CFx.rf.pI (M := []) hq_ eκ30 : CFx [] W h κ23 κ30).1 b_a1 (by rw [hs_a1]; decide) 2 (by simp)).2.2.trans pk6
    have q0 : sP κ30.1 h 0 = a1 := by rw [eκ30]; exact q0
    have tq_i1 : sI κ30.1 h 1 = z3 := by rw [eκ30]; exact (u2_pl (by decide)).trans tq_i1
    have tq_i2 : sI κ30.1 h 2 = x18 := by rw [eκ30]; exact (u2_pl (by decide)).trans tq_i2
    have tq_j3 : sJ κ30.1 h 3 = z15 := by rw [eκ30]; exact tq_j3
    refine ⟨b_a1, e_a1, (hV.mm hs_a1 (by decide) rfl), ?_⟩
    intro z31 ez31
    have ebz31 : z31 = some bp0 := ez31.trans pk7
    refine ⟨(hp_h).2.1, ?_⟩
    intro z32 ez32
    have vz32 : (-2147483648) ≤ z32.toInt ∧ z32.toInt ≤ 2147483647 := by rw [ez32]; exact ((hp_h).2.2.2 1).1
    have wz32 : z32.toInt = (sI κ30.1 h 1).toInt := by rw [ez32]
    intro z33 ez33
    try have hz33 := i_add ez33 (by omega) (by omega)
    have rg_z33 := i_range z33
    refine ⟨bp0, ebz31, (hV.mm wp0 (by decide) rfl), ?_⟩
    refine t2_X6_number hV bp0 wp0 (by rfl) z33 2  (by decide) (fun z35 pz35 => ?_)
    have rg_z35 := l_range z35
    have qz35 := pz35.2.1 (by decide)
    obtain ⟨pz35, -, -⟩ := pz35
    intro z36 ez36
    try have hz36 := l_toi ez36 (by omega) (by omega)
    have rg_z36 := i_range z36
    refine ⟨(hp_h).2.1, ?_⟩
    intro κ37 eκ37
    have rv_κ37 := i_range z36
    have hV := hV.uI0 hp_h eκ37
    have hq_ := (hp_h).1
    have hp_h := (hp_h).uI (k := 5) (v := z36) rv_κ37 eκ37
    have uκ37 : (sI κ37.1 h 5).toInt = (z36 : Int32).toInt := by rw [eκ37]; exact congrArg Int32.toInt u2_same
    have hfr := hfr.pI hp0_h eκ37
    have pk8 := ((CFx.rf.pI (M := []) hq_ eκ37 : CFx [] W h κ30 κ37).1 b_a1 (by rw [hs_a1]; decide) 2 (by simp)).2.2.trans pk7
    have q0 : sP κ37.1 h 0 = a1 := by rw [eκ37]; exact q0
    have tq_i1 : sI κ37.1 h 1 = z3 := by rw [eκ37]; exact (u2_pl (by decide)).trans tq_i1
    have tq_i2 : sI κ37.1 h 2 = x18 := by rw [eκ37]; exact (u2_pl (by decide)).trans tq_i2
    have tq_j3 : sJ κ37.1 h 3 = z15 := by rw [eκ37]; exact tq_j3
    refine ⟨b_a1, e_a1, (hV.mm hs_a1 (by decide) rfl), ?_⟩
    intro z38 ez38
    have ebz38 : z38 = some bp0 := ez38.trans pk8
    refine ⟨(hp_h).2.1, ?_⟩
    intro z39 ez39
    have vz39 : (-2147483648) ≤ z39.toInt ∧ z39.toInt ≤ 2147483647 := by rw [ez39]; exact ((hp_h).2.2.2 1).1
    have wz39 : z39.toInt = (sI κ37.1 h 1).toInt := by rw [ez39]
    intro z40 ez40
    try have hz40 := i_add ez40 (by omega) (by omega)
    have rg_z40 := i_range z40
    refine ⟨bp0, ebz38, (hV.mm wp0 (by decide) rfl), ?_⟩
    refine t2_X6_number hV bp0 wp0 (by rfl) z40 2  (by decide) (fun z42 pz42 => ?_)
    have rg_z42 := l_range z42
    have qz42 := pz42.2.1 (by decide)
    obtain ⟨pz42, -, -⟩ := pz42
    intro z43 ez43
    try have hz43 := l_toi ez43 (by omega) (by omega)
    have rg_z43 := i_range z43
    refine ⟨(hp_h).2.1, ?_⟩
    intro κ44 eκ44
    have rv_κ44 := i_range z43
    have hV := hV.uI0 hp_h eκ44
    have hq_ := (hp_h).1
    have hp_h := (hp_h).uI (k := 6) (v := z43) rv_κ44 eκ44
    have uκ44 : (sI κ44.1 h 6).toInt = (z43 : Int32).toInt := by rw [eκ44]; exact congrArg Int32.toInt u2_same
    have hfr := hfr.pI hp0_h eκ44
    have pk9 := ((CFx.rf.pI (M := []) hq_ eκ44 : CFx [] W h κ37 κ44).1 b_a1 (by rw [hs_a1]; decide) 2 (by simp)).2.2.trans pk8
    have q0 : sP κ44.1 h 0 = a1 := by rw [eκ44]; exact q0
    have tq_i1 : sI κ44.1 h 1 = z3 := by rw [eκ44]; exact (u2_pl (by decide)).trans tq_i1
    have tq_i2 : sI κ44.1 h 2 = x18 := by rw [eκ44]; exact (u2_pl (by decide)).trans tq_i2
    have tq_j3 : sJ κ44.1 h 3 = z15 := by rw [eκ44]; exact tq_j3
    refine ⟨b_a1, e_a1, (hV.mm hs_a1 (by decide) rfl), ?_⟩
    intro z45 ez45
    have ebz45 : z45 = some bp0 := ez45.trans pk9
    refine ⟨(hp_h).2.1, ?_⟩
    intro z46 ez46
    have vz46 : (-2147483648) ≤ z46.toInt ∧ z46.toInt ≤ 2147483647 := by rw [ez46]; exact ((hp_h).2.2.2 1).1
    have wz46 : z46.toInt = (sI κ44.1 h 1).toInt := by rw [ez46]
    intro z47 ez47
    try have hz47 := i_add ez47 (by omega) (by omega)
    have rg_z47 := i_range z47
    refine ⟨bp0, ebz45, (hV.mm wp0 (by decide) rfl), ?_⟩
    refine t2_X6_number hV bp0 wp0 (by rfl) z47 4  (by decide) (fun z49 pz49 => ?_)
    have rg_z49 := l_range z49
    obtain ⟨pz49, -, -⟩ := pz49
    refine ⟨(hp_h).2.1, ?_⟩
    intro κ50 eκ50
    have hV := hV.uJ eκ50
    have hq_ := (hp_h).1
    have hp_h := (hp_h).uJ eκ50
    have hfr := hfr.pJ hp0_h eκ50
    have pk10 := ((CFx.rf.pJ (M := []) hq_ eκ50 : CFx [] W h κ44 κ50).1 b_a1 (by rw [hs_a1]; decide) 2 (by simp)).2.2.trans pk9
    have q0 : sP κ50.1 h 0 = a1 := by rw [eκ50]; exact q0
    have tq_i1 : sI κ50.1 h 1 = z3 := by rw [eκ50]; exact tq_i1
    have tq_i2 : sI κ50.1 h 2 = x18 := by rw [eκ50]; exact tq_i2
    have tq_j3 : sJ κ50.1 h 3 = z15 := by rw [eκ50]; exact (u2_pl (by decide)).trans tq_j3
    have uκ50 : (sJ κ50.1 h 7).toInt = (z49 : Int64).toInt := by rw [eκ50]; exact congrArg Int64.toInt u2_same
    refine ⟨b_a1, e_a1, (hV.mm hs_a1 (by decide) rfl), ?_⟩
    intro z51 ez51
    have ebz51 : z51 = some bp0 := ez51.trans pk10
    refine ⟨(hp_h).2.1, ?_⟩
    intro z52 ez52
    have vz52 : (-2147483648) ≤ z52.toInt ∧ z52.toInt ≤ 2147483647 := by rw [ez52]; exact ((hp_h).2.2.2 1).1
    have wz52 : z52.toInt = (sI κ50.1 h 1).toInt := by rw [ez52]
    intro z53 ez53
    try have hz53 := i_add ez53 (by omega) (by omega)
    have rg_z53 := i_range z53
    refine ⟨bp0, ebz51, (hV.mm wp0 (by decide) rfl), ?_⟩
    refine t_X6_number hV bp0 wp0 (by rfl) z53 8  (fun z55 pz55 => ?_)
    have rg_z55 := l_range z55
    refine ⟨(hp_h).2.1, ?_⟩
    intro κ56 eκ56
    have hV := hV.uJ eκ56
    have hq_ := (hp_h).1
    have hp_h := (hp_h).uJ eκ56
    have hfr := hfr.pJ hp0_h eκ56
    have pk11 := ((CFx.rf.pJ (M := []) hq_ eκ56 : CFx [] W h κ50 κ56).1 b_a1 (by rw [hs_a1]; decide) 2 (by simp)).2.2.trans pk10
    have q0 : sP κ56.1 h 0 = a1 := by rw [eκ56]; exact q0
    have tq_i1 : sI κ56.1 h 1 = z3 := by rw [eκ56]; exact tq_i1
    have tq_i2 : sI κ56.1 h 2 = x18 := by rw [eκ56]; exact tq_i2
    have tq_j3 : sJ κ56.1 h 3 = z15 := by rw [eκ56]; exact (u2_pl (by decide)).trans tq_j3
    have uκ56 : (sJ κ56.1 h 8).toInt = (z55 : Int64).toInt := by rw [eκ56]; exact congrArg Int64.toInt u2_same
    refine ⟨b_a1, e_a1, (hV.mm hs_a1 (by decide) rfl), ?_⟩
    intro z57 ez57
    have ebz57 : z57 = some bp0 := ez57.trans pk11
    refine ⟨(hp_h).2.1, ?_⟩
    intro z58 ez58
    have vz58 : (-2147483648) ≤ z58.toInt ∧ z58.toInt ≤ 2147483647 := by rw [ez58]; exact ((hp_h).2.2.2 1).1
    have wz58 : z58.toInt = (sI κ56.1 h 1).toInt := by rw [ez58]
    intro z59 ez59
    try have hz59 := i_add ez59 (by omega) (by omega)
    have rg_z59 := i_range z59
    refine ⟨bp0, ebz57, (hV.mm wp0 (by decide) rfl), ?_⟩
    refine t2_X6_number hV bp0 wp0 (by rfl) z59 4  (by decide) (fun z61 pz61 => ?_)
    have rg_z61 := l_range z61
    obtain ⟨pz61, -, -⟩ := pz61
    refine ⟨(hp_h).2.1, ?_⟩
    intro κ62 eκ62
    have hV := hV.uJ eκ62
    have hq_ := (hp_h).1
    have hp_h := (hp_h).uJ eκ62
    have hfr := hfr.pJ hp0_h eκ62
    have pk12 := ((CFx.rf.pJ (M := []) hq_ eκ62 : CFx [] W h κ56 κ62).1 b_a1 (by rw [hs_a1]; decide) 2 (by simp)).2.2.trans pk11
    have q0 : sP κ62.1 h 0 = a1 := by rw [eκ62]; exact q0
    have tq_i1 : sI κ62.1 h 1 = z3 := by rw [eκ62]; exact tq_i1
    have tq_i2 : sI κ62.1 h 2 = x18 := by rw [eκ62]; exact tq_i2
    have tq_j3 : sJ κ62.1 h 3 = z15 := by rw [eκ62]; exact (u2_pl (by decide)).trans tq_j3
    have uκ62 : (sJ κ62.1 h 9).toInt = (z61 : Int64).toInt := by rw [eκ62]; exact congrArg Int64.toInt u2_same
    refine ⟨(hp_h).2.1, ?_⟩
    intro z63 ez63
    have vz63 := l_range z63
    have wz63 : z63.toInt = (sJ κ62.1 h 7).toInt := by rw [ez63]
    intro z64 ez64
    try have hz64 := l_and ez64 (by omega)
    have rg_z64 := l_range z64
    refine jc_in (fun (x : Int32) (κ' : CS) => κ62 = κ' ∧ (((0 ≤ x.toInt ∧ x.toInt ≤ 1)))) (fun x65 κ66 hJ => ?_) (fun K67 hK67 => ?_)
    · obtain ⟨hsg, hv⟩ := hJ
      subst hsg
      (try dsimp only at hv)
      have rg_x65 := i_range x65
      refine jc_in (fun (x : Int64) (κ' : CS) => κ62 = κ' ∧ ((True))) (fun x70 κ71 hJ => ?_) (fun K72 hK72 => ?_)
      · obtain ⟨hsg, hv⟩ := hJ
        subst hsg
        (try dsimp only at hv)
        have rg_x70 := l_range x70
        refine ⟨(hp_h).2.1, ?_⟩
        intro κ75 eκ75
        have hV := hV.uJ eκ75
        have hq_ := (hp_h).1
        have hp_h := (hp_h).uJ eκ75
        have hfr := hfr.pJ hp0_h eκ75
        have pk13 := ((CFx.rf.pJ (M := []) hq_ eκ75 : CFx [] W h κ62 κ75).1 b_a1 (by rw [hs_a1]; decide) 2 (by simp)).2.2.trans pk12
        have q0 : sP κ75.1 h 0 = a1 := by rw [eκ75]; exact q0
        have tq_i1 : sI κ75.1 h 1 = z3 := by rw [eκ75]; exact tq_i1
        have tq_i2 : sI κ75.1 h 2 = x18 := by rw [eκ75]; exact tq_i2
        have tq_j3 : sJ κ75.1 h 3 = z15 := by rw [eκ75]; exact (u2_pl (by decide)).trans tq_j3
        have uκ75 : (sJ κ75.1 h 10).toInt = (x70 : Int64).toInt := by rw [eκ75]; exact congrArg Int64.toInt u2_same
        refine jc_in (fun (x : Int64) (κ' : CS) => κ75 = κ' ∧ ((True))) (fun x76 κ77 hJ => ?_) (fun K78 hK78 => ?_)
        · obtain ⟨hsg, hv⟩ := hJ
          subst hsg
          (try dsimp only at hv)
          have rg_x76 := l_range x76
          refine ⟨(hp_h).2.1, ?_⟩
          intro κ81 eκ81
          have hV := hV.uJ eκ81
          have hq_ := (hp_h).1
          have hp_h := (hp_h).uJ eκ81
          have hfr := hfr.pJ hp0_h eκ81
          have pk14 := ((CFx.rf.pJ (M := []) hq_ eκ81 : CFx [] W h κ75 κ81).1 b_a1 (by rw [hs_a1]; decide) 2 (by simp)).2.2.trans pk13
          have q0 : sP κ81.1 h 0 = a1 := by rw [eκ81]; exact q0
          have tq_i1 : sI κ81.1 h 1 = z3 := by rw [eκ81]; exact tq_i1
          have tq_i2 : sI κ81.1 h 2 = x18 := by rw [eκ81]; exact tq_i2
          have tq_j3 : sJ κ81.1 h 3 = z15 := by rw [eκ81]; exact (u2_pl (by decide)).trans tq_j3
          have uκ81 : (sJ κ81.1 h 11).toInt = (x76 : Int64).toInt := by rw [eκ81]; exact congrArg Int64.toInt u2_same
          refine jc_dup ?_
          refine jc_dup ?_
          refine ⟨fun c1 => ?_, fun c1 => ?_⟩
          · (try dsimp only)
            (try dsimp only)
            refine ⟨by omega, (hp_h).2.1, ?_⟩
            intro κ87 eκ87
            have rv_κ87 := i_range 0
            have hV := hV.uI0 hp_h eκ87
            have hq_ := (hp_h).1
            have hp_h := (hp_h).uI (k := 12) (v := 0) (by show (0 : Int) ≤ (0 : Int32).toInt ∧ (0 : Int32).toInt ≤ 1; omega) eκ87
            have uκ87 : (sI κ87.1 h 12).toInt = (0 : Int32).toInt := by rw [eκ87]; exact congrArg Int32.toInt u2_same
            have hfr := hfr.pI hp0_h eκ87
            have pk15 := ((CFx.rf.pI (M := []) hq_ eκ87 : CFx [] W h κ81 κ87).1 b_a1 (by rw [hs_a1]; decide) 2 (by simp)).2.2.trans pk14
            have q0 : sP κ87.1 h 0 = a1 := by rw [eκ87]; exact q0
            have tq_i1 : sI κ87.1 h 1 = z3 := by rw [eκ87]; exact (u2_pl (by decide)).trans tq_i1
            have tq_i2 : sI κ87.1 h 2 = x18 := by rw [eκ87]; exact (u2_pl (by decide)).trans tq_i2
            have tq_j3 : sJ κ87.1 h 3 = z15 := by rw [eκ87]; exact tq_j3
            exact kk W κ87 hx (hV.dn (by omega)) hfr hp_h ⟨q0, by rw [tq_i1]; omega, by rw [tq_j3]; omega, by rw [tq_j3]; omega, fun b e => by rw [show b = bp0 from Option.some.inj (e.symm.trans ep0), tq_i2, tq_j3]; omega⟩
          · refine ⟨b_a1, e_a1, (hV.mm hs_a1 (by decide) rfl), ?_⟩
            intro z93 ez93
            have vz93 := hV.1.iv hs_a1 (by decide) rfl 12 0 1 rfl ez93
            have wz93 : z93.toInt = (sI κ81.1 b_a1 12).toInt := by rw [ez93]
            have w0z93 : z93.toInt = (sI κ.1 b_a1 12).toInt := by rw [ez93, (hfr.1 b_a1 (by rw [hs0_a1]; decide) 12 (by rw [hs0_a1]; decide)).1]
            refine ⟨fun c2 => ?_, fun c2 => ?_⟩
            · (try dsimp only)
              (try dsimp only)
              refine ⟨by omega, (hp_h).2.1, ?_⟩
              intro κ87 eκ87
              have rv_κ87 := i_range 0
              have hV := hV.uI0 hp_h eκ87
              have hq_ := (hp_h).1
              have hp_h := (hp_h).uI (k := 12) (v := 0) (by show (0 : Int) ≤ (0 : Int32).toInt ∧ (0 : Int32).toInt ≤ 1; omega) eκ87
              have uκ87 : (sI κ87.1 h 12).toInt = (0 : Int32).toInt := by rw [eκ87]; exact congrArg Int32.toInt u2_same
              have hfr := hfr.pI hp0_h eκ87
              have pk16 := ((CFx.rf.pI (M := []) hq_ eκ87 : CFx [] W h κ81 κ87).1 b_a1 (by rw [hs_a1]; decide) 2 (by simp)).2.2.trans pk14
              have q0 : sP κ87.1 h 0 = a1 := by rw [eκ87]; exact q0
              have tq_i1 : sI κ87.1 h 1 = z3 := by rw [eκ87]; exact (u2_pl (by decide)).trans tq_i1
              have tq_i2 : sI κ87.1 h 2 = x18 := by rw [eκ87]; exact (u2_pl (by decide)).trans tq_i2
              have tq_j3 : sJ κ87.1 h 3 = z15 := by rw [eκ87]; exact tq_j3
              exact kk W κ87 hx (hV.dn (by omega)) hfr hp_h ⟨q0, by rw [tq_i1]; omega, by rw [tq_j3]; omega, by rw [tq_j3]; omega, fun b e => by rw [show b = bp0 from Option.some.inj (e.symm.trans ep0), tq_i2, tq_j3]; omega⟩
            · (try dsimp only)
              refine ⟨by omega, (hp_h).2.1, ?_⟩
              intro κ87 eκ87
              have rv_κ87 := i_range 1
              have hV := hV.uI0 hp_h eκ87
              have hq_ := (hp_h).1
              have hp_h := (hp_h).uI (k := 12) (v := 1) (by show (0 : Int) ≤ (1 : Int32).toInt ∧ (1 : Int32).toInt ≤ 1; omega) eκ87
              have uκ87 : (sI κ87.1 h 12).toInt = (1 : Int32).toInt := by rw [eκ87]; exact congrArg Int32.toInt u2_same
              have hfr := hfr.pI hp0_h eκ87
              have pk17 := ((CFx.rf.pI (M := []) hq_ eκ87 : CFx [] W h κ81 κ87).1 b_a1 (by rw [hs_a1]; decide) 2 (by simp)).2.2.trans pk14
              have q0 : sP κ87.1 h 0 = a1 := by rw [eκ87]; exact q0
              have tq_i1 : sI κ87.1 h 1 = z3 := by rw [eκ87]; exact (u2_pl (by decide)).trans tq_i1
              have tq_i2 : sI κ87.1 h 2 = x18 := by rw [eκ87]; exact (u2_pl (by decide)).trans tq_i2
              have tq_j3 : sJ κ87.1 h 3 = z15 := by rw [eκ87]; exact tq_j3
              exact kk W κ87 hx (hV.dn (by omega)) hfr hp_h ⟨q0, by rw [tq_i1]; omega, by rw [tq_j3]; omega, by rw [tq_j3]; omega, fun b e => by rw [show b = bp0 from Option.some.inj (e.symm.trans ep0), tq_i2, tq_j3]; omega⟩
        · skip
          refine ⟨fun c3 => ?_, fun c3 => ?_⟩
          · refine ⟨b_a1, e_a1, (hV.mm hs_a1 (by decide) rfl), ?_⟩
            intro z94 ez94
            have ebz94 : z94 = some bp0 := ez94.trans pk13
            refine ⟨(hp_h).2.1, ?_⟩
            intro z95 ez95
            have vz95 : (-2147483648) ≤ z95.toInt ∧ z95.toInt ≤ 2147483647 := by rw [ez95]; exact ((hp_h).2.2.2 1).1
            have wz95 : z95.toInt = (sI κ75.1 h 1).toInt := by rw [ez95]
            intro z96 ez96
            try have hz96 := i_add ez96 (by omega) (by omega)
            have rg_z96 := i_range z96
            refine ⟨bp0, ebz94, (hV.mm wp0 (by decide) rfl), ?_⟩
            refine t_X6_number hV bp0 wp0 (by rfl) z96 8  (fun z98 pz98 => ?_)
            have rg_z98 := l_range z98
            exact hK78 z98 κ75 ⟨rfl, trivial⟩
          · refine ⟨b_a1, e_a1, (hV.mm hs_a1 (by decide) rfl), ?_⟩
            intro z99 ez99
            have vz99 := l_range z99
            have wz99 : z99.toInt = (sJ κ75.1 b_a1 10).toInt := by rw [ez99]
            exact hK78 z99 κ75 ⟨rfl, trivial⟩
      · skip
        refine ⟨fun c4 => ?_, fun c4 => ?_⟩
        · refine ⟨b_a1, e_a1, (hV.mm hs_a1 (by decide) rfl), ?_⟩
          intro z100 ez100
          have ebz100 : z100 = some bp0 := ez100.trans pk12
          refine ⟨(hp_h).2.1, ?_⟩
          intro z101 ez101
          have vz101 : (-2147483648) ≤ z101.toInt ∧ z101.toInt ≤ 2147483647 := by rw [ez101]; exact ((hp_h).2.2.2 1).1
          have wz101 : z101.toInt = (sI κ62.1 h 1).toInt := by rw [ez101]
          intro z102 ez102
          try have hz102 := i_add ez102 (by omega) (by omega)
          have rg_z102 := i_range z102
          refine ⟨bp0, ebz100, (hV.mm wp0 (by decide) rfl), ?_⟩
          refine t2_X6_number hV bp0 wp0 (by rfl) z102 4  (by decide) (fun z104 pz104 => ?_)
          have rg_z104 := l_range z104
          obtain ⟨pz104, -, -⟩ := pz104
          exact hK72 z104 κ62 ⟨rfl, trivial⟩
        · refine ⟨b_a1, e_a1, (hV.mm hs_a1 (by decide) rfl), ?_⟩
          intro z105 ez105
          have vz105 := l_range z105
          have wz105 : z105.toInt = (sJ κ62.1 b_a1 11).toInt := by rw [ez105]
          exact hK72 z105 κ62 ⟨rfl, trivial⟩
    · skip
      refine ⟨fun c5 => ?_, fun c5 => ?_⟩
      · exact hK67 0 κ62 ⟨rfl, (by (try dsimp only); omega)⟩
      · exact hK67 1 κ62 ⟨rfl, (by (try dsimp only); omega)⟩
  · skip
    refine ⟨fun c6 => ?_, fun c6 => ?_⟩
    · refine ⟨(hp_h).2.1, ?_⟩
      intro z106 ez106
      have vz106 := l_range z106
      have wz106 : z106.toInt = (sJ κ16.1 h 3).toInt := by rw [ez106]
      intro z107 ez107
      have hz107 := i_tol ez107
      have rg_z107 := l_range z107
      intro z109 mz109
      have rg_z109 := l_range z109
      intro z110 ez110
      try have hz110 := l_toi ez110 (by omega) (by omega)
      have rg_z110 := i_range z110
      exact hK20 z110 κ16 ⟨rfl, (by (try dsimp only); omega)⟩
    · exact hK20 z10 κ16 ⟨rfl, (by (try dsimp only); omega)⟩
set_option maxRecDepth 100000 in
set_option maxHeartbeats 4000000 in
theorem t2_X0_stands {G : GE} {E : CE} {W : CW} {c : Int} {κ : CS} (hV : CV G E W c κ) (h : Nat) (hs_h : W.1 h = 8) (hz : 0 ≤ (sI κ.1 h 1).toInt ∧ (sI κ.1 h 1).toInt ≤ 100000) {post : Int32 → CS → Prop} (kk : ∀ r : Int32, ((0 ≤ r.toInt ∧ r.toInt ≤ 1) ∧ (r.toInt ≠ 0 → ∀ k b, sP κ.1 h 0 = some k → sP κ.1 k 2 = some b → (sI κ.1 h 1).toInt + 64 ≤ (sI κ.1 b 1).toInt ∧ ((sJ κ.1 h 3).toInt = 0 ∨ (64 ≤ (sJ κ.1 h 3).toInt ∧ (sI κ.1 h 1).toInt + (sJ κ.1 h 3).toInt + 64 ≤ (sI κ.1 b 1).toInt)))) → post r κ) : F_X0_stands G h post κ := by
  unfold F_X0_stands
  have k_0 : (0 : Int32).toInt = 0 := rfl
  have k_1 : (1 : Int32).toInt = 1 := rfl
  have k_2 : (2 : Int32).toInt = 2 := rfl
  have k_4 : (4 : Int32).toInt = 4 := rfl
  have k_8 : (8 : Int32).toInt = 8 := rfl
  have k_64 : (64 : Int32).toInt = 64 := rfl
  have kl_0 : (0 : Int64).toInt = 0 := rfl
  have kl_1 : (1 : Int64).toInt = 1 := rfl
  have kl_2 : (2 : Int64).toInt = 2 := rfl
  have kl_4 : (4 : Int64).toInt = 4 := rfl
  have kl_8 : (8 : Int64).toInt = 8 := rfl
  have kl_64 : (64 : Int64).toInt = 64 := rfl
  have kl_1112364030 : (1112364030 : Int64).toInt = 1112364030 := rfl
  refine ⟨(hV.mm hs_h (by decide) rfl), ?_⟩
  intro z1 ez1
  obtain ⟨bz1, ebz1, hsz1⟩ := hV.1.nn hs_h (by decide) rfl 0 rfl (by decide)
  rw [← ez1] at ebz1
  refine ⟨bz1, ebz1, (hV.mm hsz1 (by decide) rfl), ?_⟩
  intro z2 ez2
  obtain ⟨bz2, ebz2, hsz2⟩ := hV.1.nn hsz1 (by decide) rfl 2 rfl (by decide)
  rw [← ez2] at ebz2
  refine ⟨bz2, ebz2, (hV.mm hsz2 (by decide) rfl), ?_⟩
  intro z3 ez3
  have vz3 := hV.1.iv hsz2 (by decide) rfl 1 0 4004 rfl ez3
  have wz3 : z3.toInt = (sI κ.1 bz2 1).toInt := by rw [ez3]
  refine ⟨(hV.mm hs_h (by decide) rfl), ?_⟩
  intro z4 ez4
  have vz4 := hV.1.iv hs_h (by decide) rfl 1 (-2147483648) 2147483647 rfl ez4
  have wz4 : z4.toInt = (sI κ.1 h 1).toInt := by rw [ez4]
  intro z5 ez5
  try have hz5 := i_sub ez5 (by omega) (by omega)
  have rg_z5 := i_range z5
  refine ⟨(hV.mm hs_h (by decide) rfl), ?_⟩
  intro z6 ez6
  have vz6 := l_range z6
  have wz6 : z6.toInt = (sJ κ.1 h 3).toInt := by rw [ez6]
  refine jc_in (fun (x : Int32) (κ' : CS) => κ = κ' ∧ (((0 ≤ x.toInt ∧ x.toInt ≤ 1) ∧ (x.toInt = 0 ∨ z6.toInt = 0 ∨ (64 ≤ z6.toInt ∧ z6.toInt ≤ z5.toInt - 64))))) (fun x7 κ8 hJ => ?_) (fun K9 hK9 => ?_)
  · obtain ⟨hsg, hv⟩ := hJ
    subst hsg
    (try dsimp only at hv)
    have rg_x7 := i_range x7
    refine ⟨(hV.mm hs_h (by decide) rfl), ?_⟩
    intro z12 ez12
    have vz12 := hV.1.iv hs_h (by decide) rfl 1 (-2147483648) 2147483647 rfl ez12
    have wz12 : z12.toInt = (sI κ.1 h 1).toInt := by rw [ez12]
    refine jc_in (fun (x : Int32) (κ' : CS) => κ = κ' ∧ (((0 ≤ x.toInt ∧ x.toInt ≤ 1)))) (fun x13 κ14 hJ => ?_) (fun K15 hK15 => ?_)
    · obtain ⟨hsg, hv⟩ := hJ
      subst hsg
      (try dsimp only at hv)
      have rg_x13 := i_range x13
      refine jc_dup ?_
      refine jc_dup ?_
      refine ⟨fun c1 => ?_, fun c1 => ?_⟩
      · (try dsimp only)
        (try dsimp only)
        refine ⟨by omega, ?_⟩
        exact kk 0 ⟨by omega, fun h => absurd h (by omega)⟩
      · refine ⟨(hV.mm hs_h (by decide) rfl), ?_⟩
        refine t_X0_number hV h hs_h 0 4  (fun z29 pz29 => ?_)
        have rg_z29 := l_range z29
        refine ⟨fun c2 => ?_, fun c2 => ?_⟩
        · (try dsimp only)
          (try dsimp only)
          refine ⟨by omega, ?_⟩
          exact kk 0 ⟨by omega, fun h => absurd h (by omega)⟩
        · refine ⟨(hV.mm hs_h (by decide) rfl), ?_⟩
          refine t_X0_number hV h hs_h 4 2  (fun z31 pz31 => ?_)
          have rg_z31 := l_range z31
          refine ⟨fun c3 => ?_, fun c3 => ?_⟩
          · (try dsimp only)
            (try dsimp only)
            refine ⟨by omega, ?_⟩
            exact kk 0 ⟨by omega, fun h => absurd h (by omega)⟩
          · refine ⟨(hV.mm hs_h (by decide) rfl), ?_⟩
            intro z32 ez32
            have vz32 := l_range z32
            have wz32 : z32.toInt = (sJ κ.1 h 7).toInt := by rw [ez32]
            intro z33 ez33
            try have hz33 := l_and ez33 (by omega)
            have rg_z33 := l_range z33
            refine ⟨fun c4 => ?_, fun c4 => ?_⟩
            · (try dsimp only)
              (try dsimp only)
              refine ⟨by omega, ?_⟩
              exact kk 0 ⟨by omega, fun h => absurd h (by omega)⟩
            · refine ⟨fun c5 => ?_, fun c5 => ?_⟩
              · (try dsimp only)
                (try dsimp only)
                refine ⟨by omega, ?_⟩
                exact kk 0 ⟨by omega, fun h => absurd h (by omega)⟩
              · refine jc_dup ?_
                refine ⟨fun c6 => ?_, fun c6 => ?_⟩
                · (try dsimp only)
                  (try dsimp only)
                  refine ⟨by omega, ?_⟩
                  exact kk 1 ⟨by omega, fun _ k b e1 e2 => by have g1 : bz1 = k := Option.some.inj ((ez1.symm.trans ebz1).symm.trans e1); subst g1; have g2 : bz2 = b := Option.some.inj ((ez2.symm.trans ebz2).symm.trans e2); subst g2; omega⟩
                · refine ⟨(hV.mm hs_h (by decide) rfl), ?_⟩
                  refine t_X0_related hV h hs_h  (fun z40 pz40 => ?_)
                  have rg_z40 := i_range z40
                  refine ⟨fun c7 => ?_, fun c7 => ?_⟩
                  · (try dsimp only)
                    (try dsimp only)
                    refine ⟨by omega, ?_⟩
                    exact kk 0 ⟨by omega, fun h => absurd h (by omega)⟩
                  · (try dsimp only)
                    (try dsimp only)
                    refine ⟨by omega, ?_⟩
                    exact kk 1 ⟨by omega, fun _ k b e1 e2 => by have g1 : bz1 = k := Option.some.inj ((ez1.symm.trans ebz1).symm.trans e1); subst g1; have g2 : bz2 = b := Option.some.inj ((ez2.symm.trans ebz2).symm.trans e2); subst g2; omega⟩
    · skip
      refine ⟨fun c8 => ?_, fun c8 => ?_⟩
      · exact hK15 0 κ ⟨rfl, (by (try dsimp only); omega)⟩
      · exact hK15 1 κ ⟨rfl, (by (try dsimp only); omega)⟩
  · skip
    refine jc_dup ?_
    refine ⟨fun c9 => ?_, fun c9 => ?_⟩
    · (try dsimp only)
      exact hK9 1 κ ⟨rfl, (by (try dsimp only); omega)⟩
    · refine ⟨(hV.mm hs_h (by decide) rfl), ?_⟩
      intro z46 ez46
      have vz46 := l_range z46
      have wz46 : z46.toInt = (sJ κ.1 h 3).toInt := by rw [ez46]
      intro z47 ez47
      try have hz47 := l_rem 8 rfl ez47 (by omega) (by omega)
      have rg_z47 := l_range z47
      refine jc_dup ?_
      refine ⟨fun c10 => ?_, fun c10 => ?_⟩
      · (try dsimp only)
        exact hK9 0 κ ⟨rfl, (by (try dsimp only); omega)⟩
      · refine ⟨(hV.mm hs_h (by decide) rfl), ?_⟩
        intro z53 ez53
        have vz53 := l_range z53
        have wz53 : z53.toInt = (sJ κ.1 h 3).toInt := by rw [ez53]
        refine ⟨fun c11 => ?_, fun c11 => ?_⟩
        · (try dsimp only)
          exact hK9 0 κ ⟨rfl, (by (try dsimp only); omega)⟩
        · refine ⟨(hV.mm hs_h (by decide) rfl), ?_⟩
          intro z54 ez54
          have vz54 := l_range z54
          have wz54 : z54.toInt = (sJ κ.1 h 3).toInt := by rw [ez54]
          intro z55 ez55
          try have hz55 := i_sub ez55 (by omega) (by omega)
          have rg_z55 := i_range z55
          intro z56 ez56
          have hz56 := i_tol ez56
          have rg_z56 := l_range z56
          refine ⟨fun c12 => ?_, fun c12 => ?_⟩
          · (try dsimp only)
            exact hK9 0 κ ⟨rfl, (by (try dsimp only); omega)⟩
          · (try dsimp only)
            exact hK9 1 κ ⟨rfl, (by (try dsimp only); omega)⟩
set_option maxRecDepth 100000 in
set_option maxHeartbeats 4000000 in
theorem t2_X0_last {G : GE} {E : CE} {W : CW} {c : Int} {κ : CS} (hV : CV G E W c κ) (h : Nat) (hs_h : W.1 h = 8)  {post : Int32 → CS → Prop} (kk : ∀ r : Int32, ((r.toInt = 1 ∧ (sJ κ.1 h 3).toInt = 0) ∨ (r.toInt = 0 ∧ (sJ κ.1 h 3).toInt ≠ 0)) → post r κ) : F_X0_last G h post κ := by
  unfold F_X0_last
  have k_0 : (0 : Int32).toInt = 0 := rfl
  have k_1 : (1 : Int32).toInt = 1 := rfl
  have kl_0 : (0 : Int64).toInt = 0 := rfl
  refine ⟨(hV.mm hs_h (by decide) rfl), ?_⟩
  intro z1 ez1
  have vz1 := l_range z1
  have wz1 : z1.toInt = (sJ κ.1 h 3).toInt := by rw [ez1]
  refine jc_dup ?_
  refine ⟨fun c1 => ?_, fun c1 => ?_⟩
  · (try dsimp only)
    refine ⟨by omega, ?_⟩
    exact kk 0 (by omega)
  · (try dsimp only)
    refine ⟨by omega, ?_⟩
    exact kk 1 (by omega)
set_option maxRecDepth 100000 in
set_option maxHeartbeats 4000000 in
theorem t_X11_finish {G : GE} {E : CE} {W0 : CW} {c : Int} {κ : CS} (hV : CV G E W0 c κ) (h : Nat) (hs_h : W0.1 h = 1) (a1 : Option Nat) (b_a1 : Nat) (e_a1 : a1 = some b_a1) (hs_a1 : W0.1 b_a1 = 8) (a2 : Int32) (hk0 : ∃ b, sP κ.1 h 14 = some b ∧ W0.1 b = 62 ∧ ((sI κ.1 b 1).toInt ≤ 78000))  (hc : 0 ≤ c) {post : CS → Prop} (kk : ∀ (W' : CW) (κ' : CS), WX W0 W' κ → CV G E W' (c - 0) κ' → CF [(20, 0), (3, 10), (3, 11), (3, 12), (3, 13), (3, 14), (3, 6), (3, 7), (3, 9), (32, 0), (61, 0), (61, 1), (62, 0), (62, 1)] W0 κ κ' → (∀ b, sP κ.1 h 14 = some b → (sI κ'.1 b 1).toInt ≤ (sI κ.1 b 1).toInt + 1207) → post κ') : F_X11_finish G h a1 a2 post κ := by
  have hs0_h := hs_h
  have hs0_a1 := hs_a1
  have hk00 := hk0
  suffices H_ : ∀ W : CW, WX W0 W κ → CV G E W (c - 0) κ → (W.1 h = 1) → (W.1 b_a1 = 8) → (∃ b, sP κ.1 h 14 = some b ∧ W.1 b = 62 ∧ ((sI κ.1 b 1).toInt ≤ 78000)) → F_X11_finish G h a1 a2 post κ from H_ W0 WX.rf (hV.dn (by omega)) hs_h hs_a1 hk0
  intro W hx hV hs_h hs_a1 hk0
  unfold F_X11_finish
  have hfr : CF [(20, 0), (3, 10), (3, 11), (3, 12), (3, 13), (3, 14), (3, 6), (3, 7), (3, 9), (32, 0), (61, 0), (61, 1), (62, 0), (62, 1)] W0 κ κ := CF.rf
  have k_0 : (0 : Int32).toInt = 0 := rfl
  have k_5 : (5 : Int32).toInt = 5 := rfl
  have k_12 : (12 : Int32).toInt = 12 := rfl
  have rg_a2 := i_range a2
  obtain ⟨bp0, ep0, wp0, xp0⟩ := hk0
  refine ⟨b_a1, e_a1, (hV.mm hs_a1 (by decide) rfl), ?_⟩
  intro z1 ez1
  obtain ⟨bz1, ebz1, hsz1⟩ := hV.1.nn hs_a1 (by decide) rfl 0 rfl (by decide)
  have ebz1 := ez1.trans ebz1
  refine ⟨b_a1, e_a1, (hV.mm hs_a1 (by decide) rfl), ?_⟩
  intro z2 ez2
  have vz2 := hV.1.iv hs_a1 (by decide) rfl 5 (-2147483648) 2147483647 rfl ez2
  have wz2 : z2.toInt = (sI κ.1 b_a1 5).toInt := by rw [ez2]
  refine jc_in (fun (x : Unit) (κ' : CS) => ∃ W' : CW, WLe W W' ∧ WX W0 W' κ ∧ CV G E W' (c - 0) κ' ∧ CF [(20, 0), (3, 10), (3, 11), (3, 12), (3, 13), (3, 14), (3, 6), (3, 7), (3, 9), (32, 0), (61, 0), (61, 1), (62, 0), (62, 1)] W0 κ κ' ∧ ((((sI κ'.1 bp0 1).toInt ≤ (sI κ.1 bp0 1).toInt + 1207)))) (fun x3 κ4 hJ => ?_) (fun K5 hK5 => ?_)
  · obtain ⟨W, le51, hx, hV, hfr, hv⟩ := hJ
    have hs_h := WLe.at le51 hs_h (by decide)
    have hs_a1 := WLe.at le51 hs_a1 (by decide)
    have wp0 := WLe.at le51 wp0 (by decide)
    have hsz1 := WLe.at le51 hsz1 (by decide)
    (try dsimp only at hv)
    refine ⟨b_a1, e_a1, (hV.mm hs_a1 (by decide) rfl), ?_⟩
    intro z8 ez8
    have vz8 := hV.1.iv hs_a1 (by decide) rfl 5 (-2147483648) 2147483647 rfl ez8
    have wz8 : z8.toInt = (sI κ4.1 b_a1 5).toInt := by rw [ez8]
    have w0z8 : z8.toInt = (sI κ.1 b_a1 5).toInt := by rw [ez8, (hfr.1 b_a1 (by rw [hs0_a1]; decide) 5 (by rw [hs0_a1]; decide)).1]
    refine jc_dup ?_
    refine ⟨fun c1 => ?_, fun c1 => ?_⟩
    · (try dsimp only)
      refine ⟨b_a1, e_a1, (hV.mm hs_a1 (by decide) rfl), ?_⟩
      intro z14 ez14
      have vz14 := l_range z14
      have wz14 : z14.toInt = (sJ κ4.1 b_a1 11).toInt := by rw [ez14]
      refine ⟨bz1, ebz1, (hV.mm hsz1 (by decide) rfl), ?_⟩
      intro κ15 eκ15
      have hV := hV.uJ eκ15
      have f1κ15 : CF [(3, 10)] W κ4 κ15 := CF.rf.uJ (k := 10) hsz1 (by decide) (show ((3, 10) : Nat × Nat) ∈ ([(3, 10)] : List (Nat × Nat)) by simp) eκ15
      have tk1 : (sI κ15.1 bp0 1).toInt = (sI κ4.1 bp0 1).toInt := by rw [(f1κ15.1 bp0 (by rw [wp0]; decide) 1 (by rw [wp0]; decide)).1]
      have hfr := hfr.trW hx f1κ15 (by decide)
      refine ⟨b_a1, e_a1, (hV.mm hs_a1 (by decide) rfl), ?_⟩
      intro z16 ez16
      have vz16 := l_range z16
      have wz16 : z16.toInt = (sJ κ15.1 b_a1 10).toInt := by rw [ez16]
      refine ⟨bz1, ebz1, (hV.mm hsz1 (by decide) rfl), ?_⟩
      intro κ17 eκ17
      have hV := hV.uJ eκ17
      have f1κ17 : CF [(3, 11)] W κ15 κ17 := CF.rf.uJ (k := 11) hsz1 (by decide) (show ((3, 11) : Nat × Nat) ∈ ([(3, 11)] : List (Nat × Nat)) by simp) eκ17
      have tk2 : (sI κ17.1 bp0 1).toInt = (sI κ15.1 bp0 1).toInt := by rw [(f1κ17.1 bp0 (by rw [wp0]; decide) 1 (by rw [wp0]; decide)).1]
      have hfr := hfr.trW hx f1κ17 (by decide)
      exact kk W κ17 hx (hV.dn (by omega)) hfr (fun b e => by rw [show b = bp0 from Option.some.inj (e.symm.trans ep0)]; omega)
    · refine ⟨b_a1, e_a1, (hV.mm hs_a1 (by decide) rfl), ?_⟩
      intro z18 ez18
      have nz18 := hV.1.nl hs_a1 (by decide) rfl 15 rfl (by decide)
      rw [← ez18] at nz18
      refine ⟨fun c2 => ?_, fun c2 => ?_⟩
      · (try dsimp only)
        refine ⟨b_a1, e_a1, (hV.mm hs_a1 (by decide) rfl), ?_⟩
        intro z14 ez14
        have vz14 := l_range z14
        have wz14 : z14.toInt = (sJ κ4.1 b_a1 11).toInt := by rw [ez14]
        refine ⟨bz1, ebz1, (hV.mm hsz1 (by decide) rfl), ?_⟩
        intro κ15 eκ15
        have hV := hV.uJ eκ15
        have f1κ15 : CF [(3, 10)] W κ4 κ15 := CF.rf.uJ (k := 10) hsz1 (by decide) (show ((3, 10) : Nat × Nat) ∈ ([(3, 10)] : List (Nat × Nat)) by simp) eκ15
        have tk3 : (sI κ15.1 bp0 1).toInt = (sI κ4.1 bp0 1).toInt := by rw [(f1κ15.1 bp0 (by rw [wp0]; decide) 1 (by rw [wp0]; decide)).1]
        have hfr := hfr.trW hx f1κ15 (by decide)
        refine ⟨b_a1, e_a1, (hV.mm hs_a1 (by decide) rfl), ?_⟩
        intro z16 ez16
        have vz16 := l_range z16
        have wz16 : z16.toInt = (sJ κ15.1 b_a1 10).toInt := by rw [ez16]
        refine ⟨bz1, ebz1, (hV.mm hsz1 (by decide) rfl), ?_⟩
        intro κ17 eκ17
        have hV := hV.uJ eκ17
        have f1κ17 : CF [(3, 11)] W κ15 κ17 := CF.rf.uJ (k := 11) hsz1 (by decide) (show ((3, 11) : Nat × Nat) ∈ ([(3, 11)] : List (Nat × Nat)) by simp) eκ17
        have tk4 : (sI κ17.1 bp0 1).toInt = (sI κ15.1 bp0 1).toInt := by rw [(f1κ17.1 bp0 (by rw [wp0]; decide) 1 (by rw [wp0]; decide)).1]
        have hfr := hfr.trW hx f1κ17 (by decide)
        exact kk W κ17 hx (hV.dn (by omega)) hfr (fun b e => by rw [show b = bp0 from Option.some.inj (e.symm.trans ep0)]; omega)
      · obtain ⟨bn1, ebn1, hsn1⟩ := nz18.resolve_left c2
        refine ⟨b_a1, e_a1, (hV.mm hs_a1 (by decide) rfl), ?_⟩
        intro z19 ez19
        have ebz19 : z19 = some bn1 := (ez19.trans ez18.symm).trans ebn1
        refine ⟨bn1, ebz19, (hV.mm hsn1 (by decide) rfl), ?_⟩
        intro z20 ez20
        have vz20 := l_range z20
        have wz20 : z20.toInt = (sJ κ4.1 bn1 0).toInt := by rw [ez20]
        refine ⟨b_a1, e_a1, (hV.mm hs_a1 (by decide) rfl), ?_⟩
        intro z21 ez21
        have ebz21 : z21 = some bn1 := (ez21.trans ez18.symm).trans ebn1
        refine ⟨bn1, ebz21, (hV.mm hsn1 (by decide) rfl), ?_⟩
        intro z22 ez22
        have vz22 := l_range z22
        have wz22 : z22.toInt = (sJ κ4.1 bn1 0).toInt := by rw [ez22]
        refine ⟨bz1, ebz1, (hV.mm hsz1 (by decide) rfl), ?_⟩
        refine t_X2_tellFile hV bz1 hsz1 z20 z22  (fun κ23 hV fκ23 pu2 => ?_)
        have tk5 : (sI κ23.1 bp0 1).toInt = (sI κ4.1 bp0 1).toInt := by rw [(fκ23.1 bp0 (by rw [wp0]; decide) 1 (by rw [wp0]; decide)).1]
        have hfr := hfr.trW hx fκ23 (by decide)
        (try dsimp only)
        refine ⟨b_a1, e_a1, (hV.mm hs_a1 (by decide) rfl), ?_⟩
        intro z14 ez14
        have vz14 := l_range z14
        have wz14 : z14.toInt = (sJ κ23.1 b_a1 11).toInt := by rw [ez14]
        refine ⟨bz1, ebz1, (hV.mm hsz1 (by decide) rfl), ?_⟩
        intro κ15 eκ15
        have hV := hV.uJ eκ15
        have f1κ15 : CF [(3, 10)] W κ23 κ15 := CF.rf.uJ (k := 10) hsz1 (by decide) (show ((3, 10) : Nat × Nat) ∈ ([(3, 10)] : List (Nat × Nat)) by simp) eκ15
        have tk6 : (sI κ15.1 bp0 1).toInt = (sI κ23.1 bp0 1).toInt := by rw [(f1κ15.1 bp0 (by rw [wp0]; decide) 1 (by rw [wp0]; decide)).1]
        have hfr := hfr.trW hx f1κ15 (by decide)
        refine ⟨b_a1, e_a1, (hV.mm hs_a1 (by decide) rfl), ?_⟩
        intro z16 ez16
        have vz16 := l_range z16
        have wz16 : z16.toInt = (sJ κ15.1 b_a1 10).toInt := by rw [ez16]
        refine ⟨bz1, ebz1, (hV.mm hsz1 (by decide) rfl), ?_⟩
        intro κ17 eκ17
        have hV := hV.uJ eκ17
        have f1κ17 : CF [(3, 11)] W κ15 κ17 := CF.rf.uJ (k := 11) hsz1 (by decide) (show ((3, 11) : Nat × Nat) ∈ ([(3, 11)] : List (Nat × Nat)) by simp) eκ17
        have tk7 : (sI κ17.1 bp0 1).toInt = (sI κ15.1 bp0 1).toInt := by rw [(f1κ17.1 bp0 (by rw [wp0]; decide) 1 (by rw [wp0]; decide)).1]
        have hfr := hfr.trW hx f1κ17 (by decide)
        exact kk W κ17 hx (hV.dn (by omega)) hfr (fun b e => by rw [show b = bp0 from Option.some.inj (e.symm.trans ep0)]; omega)
  · skip
    have le51 : WLe W W := WLe.rf
    refine ⟨fun c3 => ?_, fun c3 => ?_⟩
    · exact hK5 () κ ⟨W, le51, hx, hV.dn (by (try dsimp only); omega), hfr, (by (try dsimp only); omega)⟩
    · refine ⟨(hV.mm hs_h (by decide) rfl), ?_⟩
      intro z25 ez25
      obtain ⟨bz25, ebz25, hsz25⟩ := hV.1.nn hs_h (by decide) rfl 15 rfl (by decide)
      have ebz25 := ez25.trans ebz25
      refine ⟨b_a1, e_a1, (hV.mm hs_a1 (by decide) rfl), ?_⟩
      intro z26 ez26
      have vz26 := hV.1.iv hs_a1 (by decide) rfl 6 (-2147483648) 2147483647 rfl ez26
      have wz26 : z26.toInt = (sI κ.1 b_a1 6).toInt := by rw [ez26]
      refine ⟨bz1, ebz1, (hV.mm hsz1 (by decide) rfl), ?_⟩
      refine t_X2_grant hV bz1 hsz1 z26  (fun z28 κ27 hV fκ27 pz28 => ?_)
      have tk8 : (sI κ27.1 bp0 1).toInt = (sI κ.1 bp0 1).toInt := by rw [(fκ27.1 bp0 (by rw [wp0]; decide) 1 (by rw [wp0]; decide)).1]
      have pk9 := (fκ27.1 h (by rw [hs_h]; decide) 14 (by rw [hs_h]; decide)).2.2.trans ep0
      have hfr := hfr.trW hx fκ27 (by decide)
      have rg_z28 := i_range z28
      refine ⟨(hV.mm hs_h (by decide) rfl), ?_⟩
      refine t_X11_seal hV h hs_h z25 bz25 ebz25 hsz25 a1 b_a1 e_a1 hs_a1 a2 z28  (by omega) (fun W κ29 x1_ hV fκ29 pu4 => ?_)
      have hV : CV G E W (c - 0) κ29 := hV.dn (by omega)
      have tk10 : (sI κ29.1 bp0 1).toInt = (sI κ27.1 bp0 1).toInt := by rw [(fκ29.1 bp0 (by rw [wp0]; decide) 1 (by rw [wp0]; decide)).1]
      have pk11 := (fκ29.1 h (by rw [hs_h]; decide) 14 (by rw [hs_h]; decide)).2.2.trans pk9
      have hx2 := hx.tr x1_ hfr.sl
      have hfr := hfr.trW hx fκ29 (by decide)
      have hs_h := WLe.at (x1_).1 hs_h (by decide)
      have hs_a1 := WLe.at (x1_).1 hs_a1 (by decide)
      have wp0 := WLe.at (x1_).1 wp0 (by decide)
      have hsz1 := WLe.at (x1_).1 hsz1 (by decide)
      have hsz25 := WLe.at (x1_).1 hsz25 (by decide)
      have le51 := WLe.tr le51 (x1_).1
      have hx := hx2
      refine ⟨(hV.mm hs_h (by decide) rfl), ?_⟩
      intro z31 ez31
      have ebz31 : z31 = some bp0 := ez31.trans pk11
      refine ⟨(hV.mm hs_h (by decide) rfl), ?_⟩
      intro z32 ez32
      have ebz32 : z32 = some bz25 := (ez32.trans (hfr.1 h (by rw [hs0_h]; decide) 15 (by rw [hs0_h]; decide)).2.2).trans (ez25.symm.trans ebz25)
      refine ⟨bz1, ebz1, (hV.mm hsz1 (by decide) rfl), ?_⟩
      intro z33 ez33
      have vz33 := hV.1.iv hsz1 (by decide) rfl 9 (-2147483648) 2147483647 rfl ez33
      have wz33 : z33.toInt = (sI κ29.1 bz1 9).toInt := by rw [ez33]
      refine ⟨bp0, ebz31, (hV.mm wp0 (by decide) rfl), ?_⟩
      refine t_X6_chain hV bp0 wp0 z32 bz25 ebz32 hsz25 z33 (by omega) (by omega) (fun z35 W κ34 x1_ hV fκ34 pz35 => ?_)
      have hV : CV G E W (c - 0) κ34 := hV.dn (by omega)
      have pk12 := (fκ34.1 h (by rw [hs_h]; decide) 14 (by rw [hs_h]; decide)).2.2.trans pk11
      have hx2 := hx.tr x1_ hfr.sl
      have hfr := hfr.trW hx fκ34 (by decide)
      have hs_h := WLe.at (x1_).1 hs_h (by decide)
      have hs_a1 := WLe.at (x1_).1 hs_a1 (by decide)
      have wp0 := WLe.at (x1_).1 wp0 (by decide)
      have hsz1 := WLe.at (x1_).1 hsz1 (by decide)
      have hsz25 := WLe.at (x1_).1 hsz25 (by decide)
      have le51 := WLe.tr le51 (x1_).1
      have hx := hx2
      have rg_z35 := i_range z35
      refine ⟨bz1, ebz1, (hV.mm hsz1 (by decide) rfl), ?_⟩
      intro κ36 eκ36
      have rv_κ36 := i_range z35
      have hV := hV.uI (k := 9) (v := z35) hsz1 (Or.inl rfl) (Or.inl (by decide)) (Or.inl (by decide)) (fun _ => (by omega : (-2147483648 : Int) ≤ (z35 : Int32).toInt ∧ (z35 : Int32).toInt ≤ 2147483647)) eκ36
      have uκ36 : (sI κ36.1 bz1 9).toInt = (z35 : Int32).toInt := by rw [eκ36]; exact congrArg Int32.toInt u2_same
      have f1κ36 : CF [(3, 9)] W κ34 κ36 := CF.rf.uI (k := 9) hsz1 (by decide) (show ((3, 9) : Nat × Nat) ∈ ([(3, 9)] : List (Nat × Nat)) by simp) eκ36
      have tk13 : (sI κ36.1 bp0 1).toInt = (sI κ34.1 bp0 1).toInt := by rw [(f1κ36.1 bp0 (by rw [wp0]; decide) 1 (by rw [wp0]; decide)).1]
      have pk14 := (f1κ36.1 h (by rw [hs_h]; decide) 14 (by rw [hs_h]; decide)).2.2.trans pk12
      have hfr := hfr.trW hx f1κ36 (by decide)
      exact hK5 () κ36 ⟨W, le51, hx, hV.dn (by (try dsimp only); omega), hfr, (by (try dsimp only); omega)⟩

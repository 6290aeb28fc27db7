/-! the class: what changes cells that are there -/
/-- a name: of a Node, or the program's own -/
def BQ (G : GE) (W : CW) (q : Option Nat) (n : Nat) : Prop := (∃ b, q = some b ∧ W.1 b = 30 ∧ n = 12) ∨ (q = some G.2.2.2.1 ∧ n = 2)
theorem BQ.le {G : GE} {W : CW} {q : Option Nat} {n : Nat} (h : BQ G W q n) : n ≤ 1000000 := by
  rcases h with ⟨b, -, -, e⟩ | ⟨-, e⟩ <;> omega
theorem BQ.al {G : GE} {E : CE} {W : CW} {c : Int} {κ : CS} {q : Option Nat} {n : Nat} (h : BQ G W q n) (hV : CV G E W c κ) : AL G κ q n := by
  rcases h with ⟨b, e, hb, rfl⟩ | ⟨e, rfl⟩
  · have l := hV.1.fx hb (by decide) rfl 12 rfl (by decide)
    rw [← l]
    exact AL.of hV e hb (by decide) rfl (by decide)
  · exact Or.inr (Or.inr (Or.inl ⟨e, rfl⟩))
theorem BQ.ba {G : GE} {E : CE} {W : CW} {c : Int} {κ : CS} {q : Option Nat} {n : Nat} (h : BQ G W q n) (hV : CV G E W c κ) : ∃ f, BA G κ q f n ∧ ∀ i : Nat, i < n → -128 ≤ (f i).toInt ∧ (f i).toInt ≤ 127 := by
  rcases h with ⟨b, e, hb, rfl⟩ | ⟨e, rfl⟩
  · have l := hV.1.fx hb (by decide) rfl 12 rfl (by decide)
    rw [← l]
    exact ⟨_, BA.of hV e hb (by decide) rfl rfl, fun i hi => (hV.1.el hb (by decide) rfl i hi).1⟩
  · exact ⟨_, Or.inr (Or.inl ⟨e, rfl, rfl⟩), fun _ _ => by decide⟩
set_option maxRecDepth 100000 in
set_option maxHeartbeats 4000000 in
theorem t_X6_put {G : GE} {E : CE} {W : CW} {c : Int} {κ : CS} (hV : CV G E W c κ) (h : Nat) {rr : Nat} (hs_h : W.1 h = rr) (hrr : isRw rr = true) (a1 : Int32) (a2 : Int32) (a3 : Int64)  {post : CS → Prop} (kk : ∀ (κ' : CS), CV G E W c κ' → CF [(20, 0)] W κ κ' → (True) → post κ') : F_X6_put G h a1 a2 a3 post κ := by
  unfold F_X6_put
  have hfr : CF [(20, 0)] W κ κ := CF.rf
  have k_0 : (0 : Int32).toInt = 0 := rfl
  have k_1 : (1 : Int32).toInt = 1 := rfl
  have k_8 : (8 : Int32).toInt = 8 := rfl
  have kl_1 : (1 : Int64).toInt = 1 := rfl
  have kl_8 : (8 : Int64).toInt = 8 := rfl
  have rg_a1 := i_range a1
  have rg_a2 := i_range a2
  have rg_a3 := l_range a3
  refine lc_in (fun (x : Int32) (κ' : CS) => CV G E W c κ' ∧ CF [(20, 0)] W κ κ' ∧ (((0 ≤ x.toInt)))) (fun (x : Int32) (κ' : CS) => (2147483647 - x.toInt).toNat) ⟨hV, hfr, (by (try dsimp only); omega)⟩ (fun x1 κ2 hJ K3 hK3 => ?_)
  obtain ⟨hV, hfr, hv⟩ := hJ
  (try dsimp only at hv)
  have rg_x1 := i_range x1
  refine ⟨fun c1 => ?_, fun c1 => ?_⟩
  · exact kk κ2 hV hfr trivial
  · intro z5 ez5
    try have hz5 := i_add ez5 (by omega) (by omega)
    have rg_z5 := i_range z5
    refine jc_dup ?_
    refine ⟨fun c2 => ?_, fun c2 => ?_⟩
    · (try dsimp only)
      intro z11 ez11
      try have hz11 := i_add ez11 (by omega) (by omega)
      have rg_z11 := i_range z11
      exact hK3 z11 κ2 ⟨hV, hfr, (by (try dsimp only); omega)⟩ (by (try dsimp only); omega)
    · refine ⟨(hV.mm hs_h (rw_ne hrr) (rw_k hrr)), ?_⟩
      intro z12 ez12
      have vz12 := hV.rwI hs_h hrr ez12
      have wz12 : z12.toInt = (sI κ2.1 h 1).toInt := by rw [ez12]
      refine ⟨fun c3 => ?_, fun c3 => ?_⟩
      · (try dsimp only)
        intro z11 ez11
        try have hz11 := i_add ez11 (by omega) (by omega)
        have rg_z11 := i_range z11
        exact hK3 z11 κ2 ⟨hV, hfr, (by (try dsimp only); omega)⟩ (by (try dsimp only); omega)
      · refine ⟨(hV.mm hs_h (rw_ne hrr) (rw_k hrr)), ?_⟩
        intro z13 ez13
        obtain ⟨bz13, ebz13, hsz13⟩ := hV.1.nn hs_h (rw_ne hrr) (rw_ob hrr) 0 (rw_t hrr) (by decide)
        have ebz13 := ez13.trans ebz13
        refine ⟨(W.2 bz13), (AL.of hV ebz13 hsz13 (by decide) rfl (by decide)), ?_⟩
        intro z14 ez14
        have lnz14 := nI_ln ez14 (hV.lm hsz13 (by decide) rfl)
        have lmz14 := (hV.lm hsz13 (by decide) rfl)
        refine ⟨fun c4 => ?_, fun c4 => ?_⟩
        · (try dsimp only)
          intro z11 ez11
          try have hz11 := i_add ez11 (by omega) (by omega)
          have rg_z11 := i_range z11
          exact hK3 z11 κ2 ⟨hV, hfr, (by (try dsimp only); omega)⟩ (by (try dsimp only); omega)
        · refine ⟨(hV.mm hs_h (rw_ne hrr) (rw_k hrr)), ?_⟩
          intro z15 ez15
          have ebz15 : z15 = some bz13 := (ez15.trans ez13.symm).trans ebz13
          intro z16 ez16
          try have hz16 := i_mulk 8 rfl ez16 (by omega) (by omega)
          have rg_z16 := i_range z16
          intro z17 ez17
          have rg_z17 := l_range z17
          intro z18 ez18
          try have hz18 := l_toi ez18 (by omega) (by omega)
          have rg_z18 := i_range z18
          intro z19 ez19
          have hz19 := i_b8 ez19
          have rg_z19 := i_range z19
          have ln_ := hV.ln hsz13 (by decide) rfl
          refine ⟨bz13, ebz15, (hV.mm hsz13 (by decide) rfl), by omega, ?_⟩
          intro κ20 eκ20
          have hV := hV.uI (k := z5.toInt.toNat) (v := (vp_nar .byte z19)) hsz13 (Or.inl rfl) (Or.inl (by decide)) (Or.inl (by decide)) (fun _ => (i_byte _)) eκ20
          have hfr := hfr.uI (k := z5.toInt.toNat) hsz13 (by decide) (show ((20, 0) : Nat × Nat) ∈ ([(20, 0)] : List (Nat × Nat)) by decide) eκ20
          (try dsimp only)
          intro z11 ez11
          try have hz11 := i_add ez11 (by omega) (by omega)
          have rg_z11 := i_range z11
          exact hK3 z11 κ20 ⟨hV, hfr, (by (try dsimp only); omega)⟩ (by (try dsimp only); omega)
set_option maxRecDepth 100000 in
set_option maxHeartbeats 4000000 in
theorem t_X4_tellTimes {G : GE} {E : CE} {W : CW} {c : Int} {κ : CS} (hV : CV G E W c κ) (h : Nat) (hs_h : W.1 h = 5) (a1 : Option Nat) (b_a1 : Nat) (e_a1 : a1 = some b_a1) {rr : Nat} (hs_a1 : W.1 b_a1 = rr) (hrr : isRw rr = true) (a2 : Int32)  {post : CS → Prop} (kk : ∀ (κ' : CS), CV G E W c κ' → CF [(20, 0)] W κ κ' → (True) → post κ') : F_X4_tellTimes G h a1 a2 post κ := by
  unfold F_X4_tellTimes
  have hfr : CF [(20, 0)] W κ κ := CF.rf
  have k_0 : (0 : Int32).toInt = 0 := rfl
  have k_8 : (8 : Int32).toInt = 8 := rfl
  have k_16 : (16 : Int32).toInt = 16 := rfl
  have k_24 : (24 : Int32).toInt = 24 := rfl
  have kl_8 : (8 : Int64).toInt = 8 := rfl
  have kl_16 : (16 : Int64).toInt = 16 := rfl
  have kl_24 : (24 : Int64).toInt = 24 := rfl
  have rg_a2 := i_range a2
  refine ⟨(hV.mm hs_h (by decide) rfl), ?_⟩
  intro z1 ez1
  have vz1 := l_range z1
  have wz1 : z1.toInt = (sJ κ.1 h 8).toInt := by rw [ez1]
  refine ⟨b_a1, e_a1, (hV.mm hs_a1 (rw_ne hrr) (rw_k hrr)), ?_⟩
  refine t_X6_put hV b_a1 hs_a1 hrr a2 8 z1  (fun κ2 hV fκ2 pu1 => ?_)
  have hfr := hfr.tr fκ2 (by decide)
  intro z4 ez4
  try have hz4 := i_add ez4 (by omega) (by omega)
  have rg_z4 := i_range z4
  refine ⟨(hV.mm hs_h (by decide) rfl), ?_⟩
  intro z5 ez5
  have vz5 := l_range z5
  have wz5 : z5.toInt = (sJ κ2.1 h 9).toInt := by rw [ez5]
  refine ⟨b_a1, e_a1, (hV.mm hs_a1 (rw_ne hrr) (rw_k hrr)), ?_⟩
  refine t_X6_put hV b_a1 hs_a1 hrr z4 8 z5  (fun κ6 hV fκ6 pu2 => ?_)
  have hfr := hfr.tr fκ6 (by decide)
  intro z8 ez8
  try have hz8 := i_add ez8 (by omega) (by omega)
  have rg_z8 := i_range z8
  refine ⟨(hV.mm hs_h (by decide) rfl), ?_⟩
  intro z9 ez9
  have vz9 := l_range z9
  have wz9 : z9.toInt = (sJ κ6.1 h 10).toInt := by rw [ez9]
  refine ⟨b_a1, e_a1, (hV.mm hs_a1 (rw_ne hrr) (rw_k hrr)), ?_⟩
  refine t_X6_put hV b_a1 hs_a1 hrr z8 8 z9  (fun κ10 hV fκ10 pu3 => ?_)
  have hfr := hfr.tr fκ10 (by decide)
  intro z12 ez12
  try have hz12 := i_add ez12 (by omega) (by omega)
  have rg_z12 := i_range z12
  refine ⟨(hV.mm hs_h (by decide) rfl), ?_⟩
  intro z13 ez13
  have vz13 := l_range z13
  have wz13 : z13.toInt = (sJ κ10.1 h 11).toInt := by rw [ez13]
  refine ⟨b_a1, e_a1, (hV.mm hs_a1 (rw_ne hrr) (rw_k hrr)), ?_⟩
  refine t_X6_put hV b_a1 hs_a1 hrr z12 8 z13  (fun κ14 hV fκ14 pu4 => ?_)
  have hfr := hfr.tr fκ14 (by decide)
  exact kk κ14 hV hfr trivial
set_option maxRecDepth 100000 in
set_option maxHeartbeats 4000000 in
theorem t_X4_tellAll {G : GE} {E : CE} {W : CW} {c : Int} {κ : CS} (hV : CV G E W c κ) (h : Nat) (hs_h : W.1 h = 5) (a1 : Option Nat) (b_a1 : Nat) (e_a1 : a1 = some b_a1) {rr : Nat} (hs_a1 : W.1 b_a1 = rr) (hrr : isRw rr = true)  {post : CS → Prop} (kk : ∀ (κ' : CS), CV G E W c κ' → CF [(20, 0)] W κ κ' → (True) → post κ') : F_X4_tellAll G h a1 post κ := by
  unfold F_X4_tellAll
  have hfr : CF [(20, 0)] W κ κ := CF.rf
  have k_0 : (0 : Int32).toInt = 0 := rfl
  have k_4 : (4 : Int32).toInt = 4 := rfl
  have k_8 : (8 : Int32).toInt = 8 := rfl
  have k_72 : (72 : Int32).toInt = 72 := rfl
  have k_80 : (80 : Int32).toInt = 80 := rfl
  have k_88 : (88 : Int32).toInt = 88 := rfl
  have k_96 : (96 : Int32).toInt = 96 := rfl
  have k_104 : (104 : Int32).toInt = 104 := rfl
  have k_112 : (112 : Int32).toInt = 112 := rfl
  have k_120 : (120 : Int32).toInt = 120 := rfl
  have kl_4 : (4 : Int64).toInt = 4 := rfl
  have kl_8 : (8 : Int64).toInt = 8 := rfl
  have kl_72 : (72 : Int64).toInt = 72 := rfl
  have kl_80 : (80 : Int64).toInt = 80 := rfl
  have kl_88 : (88 : Int64).toInt = 88 := rfl
  have kl_96 : (96 : Int64).toInt = 96 := rfl
  have kl_104 : (104 : Int64).toInt = 104 := rfl
  have kl_112 : (112 : Int64).toInt = 112 := rfl
  have kl_120 : (120 : Int64).toInt = 120 := rfl
  refine ⟨(hV.mm hs_h (by decide) rfl), ?_⟩
  intro z1 ez1
  have vz1 := l_range z1
  have wz1 : z1.toInt = (sJ κ.1 h 8).toInt := by rw [ez1]
  refine ⟨b_a1, e_a1, (hV.mm hs_a1 (rw_ne hrr) (rw_k hrr)), ?_⟩
  refine t_X6_put hV b_a1 hs_a1 hrr 72 8 z1  (fun κ2 hV fκ2 pu1 => ?_)
  have hfr := hfr.tr fκ2 (by decide)
  refine ⟨(hV.mm hs_h (by decide) rfl), ?_⟩
  intro z4 ez4
  have vz4 := l_range z4
  have wz4 : z4.toInt = (sJ κ2.1 h 9).toInt := by rw [ez4]
  refine ⟨b_a1, e_a1, (hV.mm hs_a1 (rw_ne hrr) (rw_k hrr)), ?_⟩
  refine t_X6_put hV b_a1 hs_a1 hrr 80 8 z4  (fun κ5 hV fκ5 pu2 => ?_)
  have hfr := hfr.tr fκ5 (by decide)
  refine ⟨(hV.mm hs_h (by decide) rfl), ?_⟩
  intro z7 ez7
  have vz7 := l_range z7
  have wz7 : z7.toInt = (sJ κ5.1 h 10).toInt := by rw [ez7]
  refine ⟨b_a1, e_a1, (hV.mm hs_a1 (rw_ne hrr) (rw_k hrr)), ?_⟩
  refine t_X6_put hV b_a1 hs_a1 hrr 88 8 z7  (fun κ8 hV fκ8 pu3 => ?_)
  have hfr := hfr.tr fκ8 (by decide)
  refine ⟨(hV.mm hs_h (by decide) rfl), ?_⟩
  intro z10 ez10
  have vz10 := l_range z10
  have wz10 : z10.toInt = (sJ κ8.1 h 11).toInt := by rw [ez10]
  refine ⟨b_a1, e_a1, (hV.mm hs_a1 (rw_ne hrr) (rw_k hrr)), ?_⟩
  refine t_X6_put hV b_a1 hs_a1 hrr 96 8 z10  (fun κ11 hV fκ11 pu4 => ?_)
  have hfr := hfr.tr fκ11 (by decide)
  refine ⟨(hV.mm hs_h (by decide) rfl), ?_⟩
  refine t_X4_room hV h hs_h  (fun z14 pz14 => ?_)
  have rg_z14 := i_range z14
  intro z15 ez15
  have hz15 := i_tol ez15
  have rg_z15 := l_range z15
  refine ⟨b_a1, e_a1, (hV.mm hs_a1 (rw_ne hrr) (rw_k hrr)), ?_⟩
  refine t_X6_put hV b_a1 hs_a1 hrr 104 8 z15  (fun κ16 hV fκ16 pu6 => ?_)
  have hfr := hfr.tr fκ16 (by decide)
  refine ⟨(hV.mm hs_h (by decide) rfl), ?_⟩
  intro z18 ez18
  have vz18 := hV.1.iv hs_h (by decide) rfl 12 0 4096 rfl ez18
  have wz18 : z18.toInt = (sI κ16.1 h 12).toInt := by rw [ez18]
  have w0z18 : z18.toInt = (sI κ.1 h 12).toInt := by rw [ez18, (hfr.1 h (by rw [hs_h]; decide) 12 (by rw [hs_h]; decide)).1]
  intro z19 ez19
  have hz19 := i_tol ez19
  have rg_z19 := l_range z19
  refine ⟨b_a1, e_a1, (hV.mm hs_a1 (rw_ne hrr) (rw_k hrr)), ?_⟩
  refine t_X6_put hV b_a1 hs_a1 hrr 112 8 z19  (fun κ20 hV fκ20 pu7 => ?_)
  have hfr := hfr.tr fκ20 (by decide)
  refine ⟨(hV.mm hs_h (by decide) rfl), ?_⟩
  refine t_X4_toldAttributes hV h hs_h  (fun z23 pz23 => ?_)
  have rg_z23 := i_range z23
  intro z24 ez24
  have hz24 := i_tol ez24
  have rg_z24 := l_range z24
  refine ⟨b_a1, e_a1, (hV.mm hs_a1 (rw_ne hrr) (rw_k hrr)), ?_⟩
  refine t_X6_put hV b_a1 hs_a1 hrr 120 4 z24  (fun κ25 hV fκ25 pu9 => ?_)
  have hfr := hfr.tr fκ25 (by decide)
  exact kk κ25 hV hfr trivial
set_option maxRecDepth 100000 in
set_option maxHeartbeats 4000000 in
theorem t_X4_tellStanding {G : GE} {E : CE} {W : CW} {c : Int} {κ : CS} (hV : CV G E W c κ) (h : Nat) (hs_h : W.1 h = 5) (a1 : Option Nat) (b_a1 : Nat) (e_a1 : a1 = some b_a1) {rr : Nat} (hs_a1 : W.1 b_a1 = rr) (hrr : isRw rr = true) (a2 : Int32)  {post : CS → Prop} (kk : ∀ (κ' : CS), CV G E W c κ' → CF [(20, 0)] W κ κ' → (True) → post κ') : F_X4_tellStanding G h a1 a2 post κ := by
  unfold F_X4_tellStanding
  have hfr : CF [(20, 0)] W κ κ := CF.rf
  have k_0 : (0 : Int32).toInt = 0 := rfl
  have k_1 : (1 : Int32).toInt = 1 := rfl
  have k_4 : (4 : Int32).toInt = 4 := rfl
  have k_8 : (8 : Int32).toInt = 8 := rfl
  have k_16 : (16 : Int32).toInt = 16 := rfl
  have k_20 : (20 : Int32).toInt = 20 := rfl
  have k_21 : (21 : Int32).toInt = 21 := rfl
  have kl_0 : (0 : Int64).toInt = 0 := rfl
  have kl_1 : (1 : Int64).toInt = 1 := rfl
  have kl_4 : (4 : Int64).toInt = 4 := rfl
  have kl_8 : (8 : Int64).toInt = 8 := rfl
  have kl_16 : (16 : Int64).toInt = 16 := rfl
  have kl_20 : (20 : Int64).toInt = 20 := rfl
  have kl_21 : (21 : Int64).toInt = 21 := rfl
  have rg_a2 := i_range a2
  refine ⟨(hV.mm hs_h (by decide) rfl), ?_⟩
  refine t_X4_room hV h hs_h  (fun z2 pz2 => ?_)
  have rg_z2 := i_range z2
  intro z3 ez3
  have hz3 := i_tol ez3
  have rg_z3 := l_range z3
  refine ⟨b_a1, e_a1, (hV.mm hs_a1 (rw_ne hrr) (rw_k hrr)), ?_⟩
  refine t_X6_put hV b_a1 hs_a1 hrr a2 8 z3  (fun κ4 hV fκ4 pu2 => ?_)
  have hfr := hfr.tr fκ4 (by decide)
  intro z6 ez6
  try have hz6 := i_add ez6 (by omega) (by omega)
  have rg_z6 := i_range z6
  refine ⟨(hV.mm hs_h (by decide) rfl), ?_⟩
  intro z7 ez7
  have vz7 := hV.1.iv hs_h (by decide) rfl 12 0 4096 rfl ez7
  have wz7 : z7.toInt = (sI κ4.1 h 12).toInt := by rw [ez7]
  have w0z7 : z7.toInt = (sI κ.1 h 12).toInt := by rw [ez7, (hfr.1 h (by rw [hs_h]; decide) 12 (by rw [hs_h]; decide)).1]
  intro z8 ez8
  have hz8 := i_tol ez8
  have rg_z8 := l_range z8
  refine ⟨b_a1, e_a1, (hV.mm hs_a1 (rw_ne hrr) (rw_k hrr)), ?_⟩
  refine t_X6_put hV b_a1 hs_a1 hrr z6 8 z8  (fun κ9 hV fκ9 pu3 => ?_)
  have hfr := hfr.tr fκ9 (by decide)
  intro z11 ez11
  try have hz11 := i_add ez11 (by omega) (by omega)
  have rg_z11 := i_range z11
  refine ⟨(hV.mm hs_h (by decide) rfl), ?_⟩
  intro z12 ez12
  have vz12 := hV.1.iv hs_h (by decide) rfl 3 0 1 rfl ez12
  have wz12 : z12.toInt = (sI κ9.1 h 3).toInt := by rw [ez12]
  have w0z12 : z12.toInt = (sI κ.1 h 3).toInt := by rw [ez12, (hfr.1 h (by rw [hs_h]; decide) 3 (by rw [hs_h]; decide)).1]
  refine jc_in (fun (x : Int64) (κ' : CS) => κ9 = κ' ∧ ((True))) (fun x13 κ14 hJ => ?_) (fun K15 hK15 => ?_)
  · obtain ⟨hsg, hv⟩ := hJ
    subst hsg
    (try dsimp only at hv)
    have rg_x13 := l_range x13
    refine ⟨b_a1, e_a1, (hV.mm hs_a1 (rw_ne hrr) (rw_k hrr)), ?_⟩
    refine t_X6_put hV b_a1 hs_a1 hrr z11 4 x13  (fun κ18 hV fκ18 pu4 => ?_)
    have hfr := hfr.tr fκ18 (by decide)
    intro z20 ez20
    try have hz20 := i_add ez20 (by omega) (by omega)
    have rg_z20 := i_range z20
    refine ⟨(hV.mm hs_h (by decide) rfl), ?_⟩
    intro z21 ez21
    have vz21 := hV.1.iv hs_h (by decide) rfl 3 0 1 rfl ez21
    have wz21 : z21.toInt = (sI κ18.1 h 3).toInt := by rw [ez21]
    have w0z21 : z21.toInt = (sI κ.1 h 3).toInt := by rw [ez21, (hfr.1 h (by rw [hs_h]; decide) 3 (by rw [hs_h]; decide)).1]
    refine jc_in (fun (x : Int64) (κ' : CS) => κ18 = κ' ∧ ((True))) (fun x22 κ23 hJ => ?_) (fun K24 hK24 => ?_)
    · obtain ⟨hsg, hv⟩ := hJ
      subst hsg
      (try dsimp only at hv)
      have rg_x22 := l_range x22
      refine ⟨b_a1, e_a1, (hV.mm hs_a1 (rw_ne hrr) (rw_k hrr)), ?_⟩
      refine t_X6_put hV b_a1 hs_a1 hrr z20 1 x22  (fun κ27 hV fκ27 pu5 => ?_)
      have hfr := hfr.tr fκ27 (by decide)
      intro z29 ez29
      try have hz29 := i_add ez29 (by omega) (by omega)
      have rg_z29 := i_range z29
      refine ⟨(hV.mm hs_h (by decide) rfl), ?_⟩
      intro z30 ez30
      have vz30 := hV.1.iv hs_h (by decide) rfl 2 0 1 rfl ez30
      have wz30 : z30.toInt = (sI κ27.1 h 2).toInt := by rw [ez30]
      have w0z30 : z30.toInt = (sI κ.1 h 2).toInt := by rw [ez30, (hfr.1 h (by rw [hs_h]; decide) 2 (by rw [hs_h]; decide)).1]
      refine jc_dup ?_
      refine ⟨fun c1 => ?_, fun c1 => ?_⟩
      · (try dsimp only)
        refine ⟨b_a1, e_a1, (hV.mm hs_a1 (rw_ne hrr) (rw_k hrr)), ?_⟩
        refine t_X6_put hV b_a1 hs_a1 hrr z29 1 0  (fun κ36 hV fκ36 pu6 => ?_)
        have hfr := hfr.tr fκ36 (by decide)
        exact kk κ36 hV hfr trivial
      · (try dsimp only)
        refine ⟨b_a1, e_a1, (hV.mm hs_a1 (rw_ne hrr) (rw_k hrr)), ?_⟩
        refine t_X6_put hV b_a1 hs_a1 hrr z29 1 1  (fun κ36 hV fκ36 pu7 => ?_)
        have hfr := hfr.tr fκ36 (by decide)
        exact kk κ36 hV hfr trivial
    · skip
      refine ⟨fun c2 => ?_, fun c2 => ?_⟩
      · exact hK24 0 κ18 ⟨rfl, trivial⟩
      · exact hK24 1 κ18 ⟨rfl, trivial⟩
  · skip
    refine ⟨fun c3 => ?_, fun c3 => ?_⟩
    · exact hK15 1 κ9 ⟨rfl, trivial⟩
    · exact hK15 0 κ9 ⟨rfl, trivial⟩
set_option maxRecDepth 100000 in
set_option maxHeartbeats 4000000 in
theorem t_X1_beginNode {G : GE} {E : CE} {W : CW} {c : Int} {κ : CS} (hV : CV G E W c κ) (h : Nat) (hs_h : W.1 h = 4) (a1 : Int32) (a2 : Int32) (a3 : Int32) (a4 : Int64) (hz : 0 ≤ a2.toInt ∧ a2.toInt ≤ 1) {post : CS → Prop} (kk : ∀ (κ' : CS), CV G E W c κ' → CF [(4, 10), (4, 11), (4, 2), (4, 3), (4, 6), (4, 7), (4, 8), (4, 9)] W κ κ' → (True) → post κ') : F_X1_beginNode G h a1 a2 a3 a4 post κ := by
  unfold F_X1_beginNode
  have hfr : CF [(4, 10), (4, 11), (4, 2), (4, 3), (4, 6), (4, 7), (4, 8), (4, 9)] W κ κ := CF.rf
  have k_0 : (0 : Int32).toInt = 0 := rfl
  have rg_a1 := i_range a1
  have rg_a2 := i_range a2
  have rg_a3 := i_range a3
  have rg_a4 := l_range a4
  refine ⟨(hV.mm hs_h (by decide) rfl), ?_⟩
  intro κ1 eκ1
  have rv_κ1 := i_range a1
  have hV := hV.uI (k := 2) (v := a1) hs_h (Or.inl rfl) (Or.inl (by decide)) (Or.inl (by decide)) (fun _ => (by omega : (-2147483648 : Int) ≤ (a1 : Int32).toInt ∧ (a1 : Int32).toInt ≤ 2147483647)) eκ1
  have hfr := hfr.uI (k := 2) hs_h (by decide) (show ((4, 2) : Nat × Nat) ∈ ([(4, 10), (4, 11), (4, 2), (4, 3), (4, 6), (4, 7), (4, 8), (4, 9)] : List (Nat × Nat)) by decide) eκ1
  have uκ1 : (sI κ1.1 h 2).toInt = (a1 : Int32).toInt := by rw [eκ1]; exact congrArg Int32.toInt u2_same
  refine ⟨by omega, (hV.mm hs_h (by decide) rfl), ?_⟩
  intro κ2 eκ2
  have rv_κ2 := i_range a2
  have hV := hV.uI (k := 3) (v := a2) hs_h (Or.inl rfl) (Or.inl (by decide)) (Or.inl (by decide)) (fun _ => (by omega : (0 : Int) ≤ (a2 : Int32).toInt ∧ (a2 : Int32).toInt ≤ 1)) eκ2
  have hfr := hfr.uI (k := 3) hs_h (by decide) (show ((4, 3) : Nat × Nat) ∈ ([(4, 10), (4, 11), (4, 2), (4, 3), (4, 6), (4, 7), (4, 8), (4, 9)] : List (Nat × Nat)) by decide) eκ2
  have uκ2 : (sI κ2.1 h 3).toInt = (a2 : Int32).toInt := by rw [eκ2]; exact congrArg Int32.toInt u2_same
  refine ⟨(hV.mm hs_h (by decide) rfl), ?_⟩
  intro κ3 eκ3
  have rv_κ3 := i_range a3
  have hV := hV.uI (k := 6) (v := a3) hs_h (Or.inl rfl) (Or.inl (by decide)) (Or.inl (by decide)) (fun _ => (by omega : (-2147483648 : Int) ≤ (a3 : Int32).toInt ∧ (a3 : Int32).toInt ≤ 2147483647)) eκ3
  have hfr := hfr.uI (k := 6) hs_h (by decide) (show ((4, 6) : Nat × Nat) ∈ ([(4, 10), (4, 11), (4, 2), (4, 3), (4, 6), (4, 7), (4, 8), (4, 9)] : List (Nat × Nat)) by decide) eκ3
  have uκ3 : (sI κ3.1 h 6).toInt = (a3 : Int32).toInt := by rw [eκ3]; exact congrArg Int32.toInt u2_same
  refine ⟨(hV.mm hs_h (by decide) rfl), ?_⟩
  intro κ4 eκ4
  have hV := hV.uJ eκ4
  have hfr := hfr.uJ (k := 7) hs_h (by decide) (show ((4, 7) : Nat × Nat) ∈ ([(4, 10), (4, 11), (4, 2), (4, 3), (4, 6), (4, 7), (4, 8), (4, 9)] : List (Nat × Nat)) by decide) eκ4
  refine ⟨(hV.mm hs_h (by decide) rfl), ?_⟩
  intro κ5 eκ5
  have hV := hV.uJ eκ5
  have hfr := hfr.uJ (k := 8) hs_h (by decide) (show ((4, 8) : Nat × Nat) ∈ ([(4, 10), (4, 11), (4, 2), (4, 3), (4, 6), (4, 7), (4, 8), (4, 9)] : List (Nat × Nat)) by decide) eκ5
  refine ⟨(hV.mm hs_h (by decide) rfl), ?_⟩
  intro κ6 eκ6
  have hV := hV.uJ eκ6
  have hfr := hfr.uJ (k := 9) hs_h (by decide) (show ((4, 9) : Nat × Nat) ∈ ([(4, 10), (4, 11), (4, 2), (4, 3), (4, 6), (4, 7), (4, 8), (4, 9)] : List (Nat × Nat)) by decide) eκ6
  refine ⟨(hV.mm hs_h (by decide) rfl), ?_⟩
  intro κ7 eκ7
  have hV := hV.uJ eκ7
  have hfr := hfr.uJ (k := 10) hs_h (by decide) (show ((4, 10) : Nat × Nat) ∈ ([(4, 10), (4, 11), (4, 2), (4, 3), (4, 6), (4, 7), (4, 8), (4, 9)] : List (Nat × Nat)) by decide) eκ7
  refine ⟨(hV.mm hs_h (by decide) rfl), ?_⟩
  intro κ8 eκ8
  have rv_κ8 := i_range 0
  have hV := hV.uI (k := 11) (v := 0) hs_h (Or.inl rfl) (Or.inl (by decide)) (Or.inl (by decide)) (fun _ => (by omega : (-2147483648 : Int) ≤ (0 : Int32).toInt ∧ (0 : Int32).toInt ≤ 2147483647)) eκ8
  have hfr := hfr.uI (k := 11) hs_h (by decide) (show ((4, 11) : Nat × Nat) ∈ ([(4, 10), (4, 11), (4, 2), (4, 3), (4, 6), (4, 7), (4, 8), (4, 9)] : List (Nat × Nat)) by decide) eκ8
  have uκ8 : (sI κ8.1 h 11).toInt = (0 : Int32).toInt := by rw [eκ8]; exact congrArg Int32.toInt u2_same
  exact kk κ8 hV hfr trivial
set_option maxRecDepth 100000 in
set_option maxHeartbeats 4000000 in
theorem t_X1_fill {G : GE} {E : CE} {W : CW} {c : Int} {κ : CS} (hV : CV G E W c κ) (h : Nat) (hs_h : W.1 h = 4) (a1 : Int32) (a2 : Option Nat) (b_a2 : Nat) (e_a2 : a2 = some b_a2) (hs_a2 : W.1 b_a2 = 5)  {post : CS → Prop} (kk : ∀ (κ' : CS), CV G E W c κ' → CF [(30, 0), (4, 0), (4, 1), (4, 10), (4, 11), (4, 12), (4, 13), (4, 2), (4, 3), (4, 5), (4, 6), (4, 7), (4, 8), (4, 9)] W κ κ' → (True) → post κ') : F_X1_fill G h a1 a2 post κ := by
  unfold F_X1_fill
  have hfr : CF [(30, 0), (4, 0), (4, 1), (4, 10), (4, 11), (4, 12), (4, 13), (4, 2), (4, 3), (4, 5), (4, 6), (4, 7), (4, 8), (4, 9)] W κ κ := CF.rf
  have k_0 : (0 : Int32).toInt = 0 := rfl
  have rg_a1 := i_range a1
  refine ⟨(hV.mm hs_h (by decide) rfl), ?_⟩
  intro κ1 eκ1
  have rv_κ1 := i_range a1
  have hV := hV.uI (k := 0) (v := a1) hs_h (Or.inl rfl) (Or.inl (by decide)) (Or.inl (by decide)) (fun _ => (by omega : (-2147483648 : Int) ≤ (a1 : Int32).toInt ∧ (a1 : Int32).toInt ≤ 2147483647)) eκ1
  have hfr := hfr.uI (k := 0) hs_h (by decide) (show ((4, 0) : Nat × Nat) ∈ ([(30, 0), (4, 0), (4, 1), (4, 10), (4, 11), (4, 12), (4, 13), (4, 2), (4, 3), (4, 5), (4, 6), (4, 7), (4, 8), (4, 9)] : List (Nat × Nat)) by decide) eκ1
  have uκ1 : (sI κ1.1 h 0).toInt = (a1 : Int32).toInt := by rw [eκ1]; exact congrArg Int32.toInt u2_same
  refine ⟨b_a2, e_a2, (hV.mm hs_a2 (by decide) rfl), ?_⟩
  intro z2 ez2
  have vz2 := hV.1.iv hs_a2 (by decide) rfl 0 (-2147483648) 2147483647 rfl ez2
  have wz2 : z2.toInt = (sI κ1.1 b_a2 0).toInt := by rw [ez2]
  have w0z2 : z2.toInt = (sI κ.1 b_a2 0).toInt := by rw [ez2, (hfr.1 b_a2 (by rw [hs_a2]; decide) 0 (by rw [hs_a2]; decide)).1]
  refine ⟨(hV.mm hs_h (by decide) rfl), ?_⟩
  intro κ3 eκ3
  have rv_κ3 := i_range z2
  have hV := hV.uI (k := 1) (v := z2) hs_h (Or.inl rfl) (Or.inl (by decide)) (Or.inl (by decide)) (fun _ => (by omega : (-2147483648 : Int) ≤ (z2 : Int32).toInt ∧ (z2 : Int32).toInt ≤ 2147483647)) eκ3
  have hfr := hfr.uI (k := 1) hs_h (by decide) (show ((4, 1) : Nat × Nat) ∈ ([(30, 0), (4, 0), (4, 1), (4, 10), (4, 11), (4, 12), (4, 13), (4, 2), (4, 3), (4, 5), (4, 6), (4, 7), (4, 8), (4, 9)] : List (Nat × Nat)) by decide) eκ3
  have uκ3 : (sI κ3.1 h 1).toInt = (z2 : Int32).toInt := by rw [eκ3]; exact congrArg Int32.toInt u2_same
  refine ⟨b_a2, e_a2, (hV.mm hs_a2 (by decide) rfl), ?_⟩
  intro z4 ez4
  have vz4 := hV.1.iv hs_a2 (by decide) rfl 4 (-2147483648) 2147483647 rfl ez4
  have wz4 : z4.toInt = (sI κ3.1 b_a2 4).toInt := by rw [ez4]
  have w0z4 : z4.toInt = (sI κ.1 b_a2 4).toInt := by rw [ez4, (hfr.1 b_a2 (by rw [hs_a2]; decide) 4 (by rw [hs_a2]; decide)).1]
  refine ⟨(hV.mm hs_h (by decide) rfl), ?_⟩
  intro κ5 eκ5
  have rv_κ5 := i_range z4
  have hV := hV.uI (k := 2) (v := z4) hs_h (Or.inl rfl) (Or.inl (by decide)) (Or.inl (by decide)) (fun _ => (by omega : (-2147483648 : Int) ≤ (z4 : Int32).toInt ∧ (z4 : Int32).toInt ≤ 2147483647)) eκ5
  have hfr := hfr.uI (k := 2) hs_h (by decide) (show ((4, 2) : Nat × Nat) ∈ ([(30, 0), (4, 0), (4, 1), (4, 10), (4, 11), (4, 12), (4, 13), (4, 2), (4, 3), (4, 5), (4, 6), (4, 7), (4, 8), (4, 9)] : List (Nat × Nat)) by decide) eκ5
  have uκ5 : (sI κ5.1 h 2).toInt = (z4 : Int32).toInt := by rw [eκ5]; exact congrArg Int32.toInt u2_same
  refine ⟨b_a2, e_a2, (hV.mm hs_a2 (by decide) rfl), ?_⟩
  intro z6 ez6
  have vz6 := hV.1.iv hs_a2 (by decide) rfl 2 0 1 rfl ez6
  have wz6 : z6.toInt = (sI κ5.1 b_a2 2).toInt := by rw [ez6]
  have w0z6 : z6.toInt = (sI κ.1 b_a2 2).toInt := by rw [ez6, (hfr.1 b_a2 (by rw [hs_a2]; decide) 2 (by rw [hs_a2]; decide)).1]
  refine ⟨by omega, (hV.mm hs_h (by decide) rfl), ?_⟩
  intro κ7 eκ7
  have rv_κ7 := i_range z6
  have hV := hV.uI (k := 3) (v := z6) hs_h (Or.inl rfl) (Or.inl (by decide)) (Or.inl (by decide)) (fun _ => (by omega : (0 : Int) ≤ (z6 : Int32).toInt ∧ (z6 : Int32).toInt ≤ 1)) eκ7
  have hfr := hfr.uI (k := 3) hs_h (by decide) (show ((4, 3) : Nat × Nat) ∈ ([(30, 0), (4, 0), (4, 1), (4, 10), (4, 11), (4, 12), (4, 13), (4, 2), (4, 3), (4, 5), (4, 6), (4, 7), (4, 8), (4, 9)] : List (Nat × Nat)) by decide) eκ7
  have uκ7 : (sI κ7.1 h 3).toInt = (z6 : Int32).toInt := by rw [eκ7]; exact congrArg Int32.toInt u2_same
  refine ⟨b_a2, e_a2, (hV.mm hs_a2 (by decide) rfl), ?_⟩
  intro z8 ez8
  have vz8 := hV.1.iv hs_a2 (by decide) rfl 6 0 12 rfl ez8
  have wz8 : z8.toInt = (sI κ7.1 b_a2 6).toInt := by rw [ez8]
  have w0z8 : z8.toInt = (sI κ.1 b_a2 6).toInt := by rw [ez8, (hfr.1 b_a2 (by rw [hs_a2]; decide) 6 (by rw [hs_a2]; decide)).1]
  refine ⟨(hV.mm hs_h (by decide) rfl), ?_⟩
  intro κ9 eκ9
  have rv_κ9 := i_range z8
  have hV := hV.uI (k := 5) (v := z8) hs_h (Or.inl rfl) (Or.inl (by decide)) (Or.inl (by decide)) (fun _ => (by omega : (0 : Int) ≤ (z8 : Int32).toInt ∧ (z8 : Int32).toInt ≤ 12)) eκ9
  have hfr := hfr.uI (k := 5) hs_h (by decide) (show ((4, 5) : Nat × Nat) ∈ ([(30, 0), (4, 0), (4, 1), (4, 10), (4, 11), (4, 12), (4, 13), (4, 2), (4, 3), (4, 5), (4, 6), (4, 7), (4, 8), (4, 9)] : List (Nat × Nat)) by decide) eκ9
  have uκ9 : (sI κ9.1 h 5).toInt = (z8 : Int32).toInt := by rw [eκ9]; exact congrArg Int32.toInt u2_same
  refine ⟨b_a2, e_a2, (hV.mm hs_a2 (by decide) rfl), ?_⟩
  intro z10 ez10
  obtain ⟨bz10, ebz10, hsz10⟩ := hV.1.nn hs_a2 (by decide) rfl 5 rfl (by decide)
  have ebz10 := ez10.trans ebz10
  refine ⟨(hV.mm hs_h (by decide) rfl), ?_⟩
  intro z11 ez11
  obtain ⟨bz11, ebz11, hsz11⟩ := hV.1.nn hs_h (by decide) rfl 4 rfl (by decide)
  have ebz11 := ez11.trans ebz11
  refine ⟨(hV.mm hs_h (by decide) rfl), ?_⟩
  intro z12 ez12
  have ebz12 : z12 = some bz11 := (ez12.trans ez11.symm).trans ebz11
  refine ⟨(W.2 bz11), (AL.of hV ebz12 hsz11 (by decide) rfl (by decide)), ?_⟩
  intro z13 ez13
  have lnz13 := nI_ln ez13 (hV.lm hsz11 (by decide) rfl)
  have lmz13 := (hV.lm hsz11 (by decide) rfl)
  have lxz13 := hV.1.fx hsz11 (by decide) rfl 12 rfl (by decide)
  have ln0_ := hV.ln hsz10 (by decide) rfl
  have lx0_ := hV.1.fx hsz10 (by decide) rfl 12 rfl (by decide)
  have ln1_ := hV.ln hsz11 (by decide) rfl
  have lx1_ := hV.1.fx hsz11 (by decide) rfl 12 rfl (by decide)
  refine ⟨bz10, ebz10, bz11, ebz11, (hV.mm hsz10 (by decide) rfl), (hV.mm hsz11 (by decide) rfl), (by omega), fun j hj => (hV.1.el hsz10 (by decide) rfl _ (by omega)).1, ?_⟩
  intro κ14 eκ14
  have hV := hV.cpI hsz10 rfl hsz11 rfl (by omega) eκ14
  have hfr := hfr.cpI hsz11 rfl (show ((30, 0) : Nat × Nat) ∈ ([(30, 0), (4, 0), (4, 1), (4, 10), (4, 11), (4, 12), (4, 13), (4, 2), (4, 3), (4, 5), (4, 6), (4, 7), (4, 8), (4, 9)] : List (Nat × Nat)) by decide) eκ14
  refine ⟨b_a2, e_a2, (hV.mm hs_a2 (by decide) rfl), ?_⟩
  intro z15 ez15
  have vz15 := hV.1.iv hs_a2 (by decide) rfl 7 (-2147483648) 2147483647 rfl ez15
  have wz15 : z15.toInt = (sI κ14.1 b_a2 7).toInt := by rw [ez15]
  have w0z15 : z15.toInt = (sI κ.1 b_a2 7).toInt := by rw [ez15, (hfr.1 b_a2 (by rw [hs_a2]; decide) 7 (by rw [hs_a2]; decide)).1]
  refine ⟨(hV.mm hs_h (by decide) rfl), ?_⟩
  intro κ16 eκ16
  have rv_κ16 := i_range z15
  have hV := hV.uI (k := 6) (v := z15) hs_h (Or.inl rfl) (Or.inl (by decide)) (Or.inl (by decide)) (fun _ => (by omega : (-2147483648 : Int) ≤ (z15 : Int32).toInt ∧ (z15 : Int32).toInt ≤ 2147483647)) eκ16
  have hfr := hfr.uI (k := 6) hs_h (by decide) (show ((4, 6) : Nat × Nat) ∈ ([(30, 0), (4, 0), (4, 1), (4, 10), (4, 11), (4, 12), (4, 13), (4, 2), (4, 3), (4, 5), (4, 6), (4, 7), (4, 8), (4, 9)] : List (Nat × Nat)) by decide) eκ16
  have uκ16 : (sI κ16.1 h 6).toInt = (z15 : Int32).toInt := by rw [eκ16]; exact congrArg Int32.toInt u2_same
  refine ⟨b_a2, e_a2, (hV.mm hs_a2 (by decide) rfl), ?_⟩
  intro z17 ez17
  have vz17 := l_range z17
  have wz17 : z17.toInt = (sJ κ16.1 b_a2 8).toInt := by rw [ez17]
  refine ⟨(hV.mm hs_h (by decide) rfl), ?_⟩
  intro κ18 eκ18
  have hV := hV.uJ eκ18
  have hfr := hfr.uJ (k := 7) hs_h (by decide) (show ((4, 7) : Nat × Nat) ∈ ([(30, 0), (4, 0), (4, 1), (4, 10), (4, 11), (4, 12), (4, 13), (4, 2), (4, 3), (4, 5), (4, 6), (4, 7), (4, 8), (4, 9)] : List (Nat × Nat)) by decide) eκ18
  refine ⟨b_a2, e_a2, (hV.mm hs_a2 (by decide) rfl), ?_⟩
  intro z19 ez19
  have vz19 := l_range z19
  have wz19 : z19.toInt = (sJ κ18.1 b_a2 9).toInt := by rw [ez19]
  refine ⟨(hV.mm hs_h (by decide) rfl), ?_⟩
  intro κ20 eκ20
  have hV := hV.uJ eκ20
  have hfr := hfr.uJ (k := 8) hs_h (by decide) (show ((4, 8) : Nat × Nat) ∈ ([(30, 0), (4, 0), (4, 1), (4, 10), (4, 11), (4, 12), (4, 13), (4, 2), (4, 3), (4, 5), (4, 6), (4, 7), (4, 8), (4, 9)] : List (Nat × Nat)) by decide) eκ20
  refine ⟨b_a2, e_a2, (hV.mm hs_a2 (by decide) rfl), ?_⟩
  intro z21 ez21
  have vz21 := l_range z21
  have wz21 : z21.toInt = (sJ κ20.1 b_a2 10).toInt := by rw [ez21]
  refine ⟨(hV.mm hs_h (by decide) rfl), ?_⟩
  intro κ22 eκ22
  have hV := hV.uJ eκ22
  have hfr := hfr.uJ (k := 9) hs_h (by decide) (show ((4, 9) : Nat × Nat) ∈ ([(30, 0), (4, 0), (4, 1), (4, 10), (4, 11), (4, 12), (4, 13), (4, 2), (4, 3), (4, 5), (4, 6), (4, 7), (4, 8), (4, 9)] : List (Nat × Nat)) by decide) eκ22
  refine ⟨b_a2, e_a2, (hV.mm hs_a2 (by decide) rfl), ?_⟩
  intro z23 ez23
  have vz23 := l_range z23
  have wz23 : z23.toInt = (sJ κ22.1 b_a2 11).toInt := by rw [ez23]
  refine ⟨(hV.mm hs_h (by decide) rfl), ?_⟩
  intro κ24 eκ24
  have hV := hV.uJ eκ24
  have hfr := hfr.uJ (k := 10) hs_h (by decide) (show ((4, 10) : Nat × Nat) ∈ ([(30, 0), (4, 0), (4, 1), (4, 10), (4, 11), (4, 12), (4, 13), (4, 2), (4, 3), (4, 5), (4, 6), (4, 7), (4, 8), (4, 9)] : List (Nat × Nat)) by decide) eκ24
  refine ⟨b_a2, e_a2, (hV.mm hs_a2 (by decide) rfl), ?_⟩
  intro z25 ez25
  have vz25 := hV.1.iv hs_a2 (by decide) rfl 12 0 4096 rfl ez25
  have wz25 : z25.toInt = (sI κ24.1 b_a2 12).toInt := by rw [ez25]
  have w0z25 : z25.toInt = (sI κ.1 b_a2 12).toInt := by rw [ez25, (hfr.1 b_a2 (by rw [hs_a2]; decide) 12 (by rw [hs_a2]; decide)).1]
  refine ⟨(hV.mm hs_h (by decide) rfl), ?_⟩
  intro κ26 eκ26
  have rv_κ26 := i_range z25
  have hV := hV.uI (k := 11) (v := z25) hs_h (Or.inl rfl) (Or.inl (by decide)) (Or.inl (by decide)) (fun _ => (by omega : (-2147483648 : Int) ≤ (z25 : Int32).toInt ∧ (z25 : Int32).toInt ≤ 2147483647)) eκ26
  have hfr := hfr.uI (k := 11) hs_h (by decide) (show ((4, 11) : Nat × Nat) ∈ ([(30, 0), (4, 0), (4, 1), (4, 10), (4, 11), (4, 12), (4, 13), (4, 2), (4, 3), (4, 5), (4, 6), (4, 7), (4, 8), (4, 9)] : List (Nat × Nat)) by decide) eκ26
  have uκ26 : (sI κ26.1 h 11).toInt = (z25 : Int32).toInt := by rw [eκ26]; exact congrArg Int32.toInt u2_same
  refine ⟨(hV.mm hs_h (by decide) rfl), ?_⟩
  intro κ27 eκ27
  have rv_κ27 := i_range 0
  have hV := hV.uI (k := 12) (v := 0) hs_h (Or.inl rfl) (Or.inl (by decide)) (Or.inl (by decide)) (fun _ => (by omega : (0 : Int) ≤ (0 : Int32).toInt ∧ (0 : Int32).toInt ≤ 4096)) eκ27
  have hfr := hfr.uI (k := 12) hs_h (by decide) (show ((4, 12) : Nat × Nat) ∈ ([(30, 0), (4, 0), (4, 1), (4, 10), (4, 11), (4, 12), (4, 13), (4, 2), (4, 3), (4, 5), (4, 6), (4, 7), (4, 8), (4, 9)] : List (Nat × Nat)) by decide) eκ27
  have uκ27 : (sI κ27.1 h 12).toInt = (0 : Int32).toInt := by rw [eκ27]; exact congrArg Int32.toInt u2_same
  refine ⟨(hV.mm hs_h (by decide) rfl), ?_⟩
  intro κ28 eκ28
  have rv_κ28 := i_range 0
  have hV := hV.uI (k := 13) (v := 0) hs_h (Or.inl rfl) (Or.inl (by decide)) (Or.inl (by decide)) (fun _ => (by omega : (0 : Int) ≤ (0 : Int32).toInt ∧ (0 : Int32).toInt ≤ 1024)) eκ28
  have hfr := hfr.uI (k := 13) hs_h (by decide) (show ((4, 13) : Nat × Nat) ∈ ([(30, 0), (4, 0), (4, 1), (4, 10), (4, 11), (4, 12), (4, 13), (4, 2), (4, 3), (4, 5), (4, 6), (4, 7), (4, 8), (4, 9)] : List (Nat × Nat)) by decide) eκ28
  have uκ28 : (sI κ28.1 h 13).toInt = (0 : Int32).toInt := by rw [eκ28]; exact congrArg Int32.toInt u2_same
  exact kk κ28 hV hfr trivial
set_option maxRecDepth 100000 in
set_option maxHeartbeats 4000000 in
theorem t_X2_tellFile {G : GE} {E : CE} {W : CW} {c : Int} {κ : CS} (hV : CV G E W c κ) (h : Nat) (hs_h : W.1 h = 3) (a1 : Int64) (a3 : Int64)  {post : CS → Prop} (kk : ∀ (κ' : CS), CV G E W c κ' → CF [(3, 12), (3, 13), (3, 14)] W κ κ' → (True) → post κ') : F_X2_tellFile G h a1 a3 post κ := by
  unfold F_X2_tellFile
  have hfr : CF [(3, 12), (3, 13), (3, 14)] W κ κ := CF.rf
  have k_0 : (0 : Int32).toInt = 0 := rfl
  have k_1 : (1 : Int32).toInt = 1 := rfl
  have rg_a1 := l_range a1
  have rg_a3 := l_range a3
  refine ⟨by omega, (hV.mm hs_h (by decide) rfl), ?_⟩
  intro κ1 eκ1
  have rv_κ1 := i_range 1
  have hV := hV.uI (k := 12) (v := 1) hs_h (Or.inl rfl) (Or.inl (by decide)) (Or.inl (by decide)) (fun _ => (by omega : (0 : Int) ≤ (1 : Int32).toInt ∧ (1 : Int32).toInt ≤ 1)) eκ1
  have hfr := hfr.uI (k := 12) hs_h (by decide) (show ((3, 12) : Nat × Nat) ∈ ([(3, 12), (3, 13), (3, 14)] : List (Nat × Nat)) by decide) eκ1
  have uκ1 : (sI κ1.1 h 12).toInt = (1 : Int32).toInt := by rw [eκ1]; exact congrArg Int32.toInt u2_same
  refine ⟨(hV.mm hs_h (by decide) rfl), ?_⟩
  intro κ2 eκ2
  have hV := hV.uJ eκ2
  have hfr := hfr.uJ (k := 13) hs_h (by decide) (show ((3, 13) : Nat × Nat) ∈ ([(3, 12), (3, 13), (3, 14)] : List (Nat × Nat)) by decide) eκ2
  refine ⟨(hV.mm hs_h (by decide) rfl), ?_⟩
  intro κ3 eκ3
  have hV := hV.uJ eκ3
  have hfr := hfr.uJ (k := 14) hs_h (by decide) (show ((3, 14) : Nat × Nat) ∈ ([(3, 12), (3, 13), (3, 14)] : List (Nat × Nat)) by decide) eκ3
  exact kk κ3 hV hfr trivial
set_option maxRecDepth 100000 in
set_option maxHeartbeats 4000000 in
theorem t_X2_begin {G : GE} {E : CE} {W : CW} {c : Int} {κ : CS} (hV : CV G E W c κ) (h : Nat) (hs_h : W.1 h = 3)  {post : CS → Prop} (kk : ∀ (κ' : CS), CV G E W c κ' → CF [(3, 0), (3, 1), (3, 6), (3, 7), (32, 0), (63, 1), (64, 1)] W κ κ' → (True) → post κ') : F_X2_begin G h post κ := by
  unfold F_X2_begin
  have hfr : CF [(3, 0), (3, 1), (3, 6), (3, 7), (32, 0), (63, 1), (64, 1)] W κ κ := CF.rf
  have k_0 : (0 : Int32).toInt = 0 := rfl
  have k_1 : (1 : Int32).toInt = 1 := rfl
  refine ⟨by omega, (hV.mm hs_h (by decide) rfl), ?_⟩
  intro κ1 eκ1
  have rv_κ1 := i_range 1
  have hV := hV.uI (k := 0) (v := 1) hs_h (Or.inl rfl) (Or.inl (by decide)) (Or.inl (by decide)) (fun _ => (by omega : (0 : Int) ≤ (1 : Int32).toInt ∧ (1 : Int32).toInt ≤ 1)) eκ1
  have hfr := hfr.uI (k := 0) hs_h (by decide) (show ((3, 0) : Nat × Nat) ∈ ([(3, 0), (3, 1), (3, 6), (3, 7), (32, 0), (63, 1), (64, 1)] : List (Nat × Nat)) by decide) eκ1
  have uκ1 : (sI κ1.1 h 0).toInt = (1 : Int32).toInt := by rw [eκ1]; exact congrArg Int32.toInt u2_same
  refine ⟨by omega, (hV.mm hs_h (by decide) rfl), ?_⟩
  intro κ2 eκ2
  have rv_κ2 := i_range 0
  have hV := hV.uI (k := 1) (v := 0) hs_h (Or.inl rfl) (Or.inl (by decide)) (Or.inl (by decide)) (fun _ => (by omega : (0 : Int) ≤ (0 : Int32).toInt ∧ (0 : Int32).toInt ≤ 1)) eκ2
  have hfr := hfr.uI (k := 1) hs_h (by decide) (show ((3, 1) : Nat × Nat) ∈ ([(3, 0), (3, 1), (3, 6), (3, 7), (32, 0), (63, 1), (64, 1)] : List (Nat × Nat)) by decide) eκ2
  have uκ2 : (sI κ2.1 h 1).toInt = (0 : Int32).toInt := by rw [eκ2]; exact congrArg Int32.toInt u2_same
  refine ⟨(hV.mm hs_h (by decide) rfl), ?_⟩
  intro z3 ez3
  obtain ⟨bz3, ebz3, hsz3⟩ := hV.1.nn hs_h (by decide) rfl 2 rfl (by decide)
  have ebz3 := ez3.trans ebz3
  refine ⟨bz3, ebz3, (hV.mm hsz3 (by decide) rfl), ?_⟩
  intro κ4 eκ4
  obtain ⟨rbκ4, reκ4, rsκ4⟩ := hV.1.nn hsz3 (by decide) rfl 0 rfl (by decide)
  have roκ4 := (hV.2.1 bz3 (by rw [hsz3]; rfl) rbκ4 reκ4).1
  have hV := hV.uRL hsz3 rfl reκ4 (by show 0 ≤ (0 : Int32).toInt ∧ (0 : Int32).toInt ≤ 4004; omega) (by omega) eκ4
  have hfr := hfr.uI (k := 1) hsz3 (by decide) (show ((64, 1) : Nat × Nat) ∈ ([(3, 0), (3, 1), (3, 6), (3, 7), (32, 0), (63, 1), (64, 1)] : List (Nat × Nat)) by decide) eκ4
  have uκ4 : (sI κ4.1 bz3 1).toInt = (0 : Int32).toInt := by rw [eκ4]; exact congrArg Int32.toInt u2_same
  refine ⟨(hV.mm hs_h (by decide) rfl), ?_⟩
  intro z5 ez5
  obtain ⟨bz5, ebz5, hsz5⟩ := hV.1.nn hs_h (by decide) rfl 4 rfl (by decide)
  have ebz5 := ez5.trans ebz5
  refine ⟨bz5, ebz5, (hV.mm hsz5 (by decide) rfl), ?_⟩
  intro κ6 eκ6
  obtain ⟨rbκ6, reκ6, rsκ6⟩ := hV.1.nn hsz5 (by decide) rfl 0 rfl (by decide)
  have roκ6 := (hV.2.1 bz5 (by rw [hsz5]; rfl) rbκ6 reκ6).1
  have hV := hV.uRL hsz5 rfl reκ6 (by show 0 ≤ (0 : Int32).toInt ∧ (0 : Int32).toInt ≤ 16000; omega) (by omega) eκ6
  have hfr := hfr.uI (k := 1) hsz5 (by decide) (show ((63, 1) : Nat × Nat) ∈ ([(3, 0), (3, 1), (3, 6), (3, 7), (32, 0), (63, 1), (64, 1)] : List (Nat × Nat)) by decide) eκ6
  have uκ6 : (sI κ6.1 bz5 1).toInt = (0 : Int32).toInt := by rw [eκ6]; exact congrArg Int32.toInt u2_same
  refine ⟨(hV.mm hs_h (by decide) rfl), ?_⟩
  intro z7 ez7
  obtain ⟨bz7, ebz7, hsz7⟩ := hV.1.nn hs_h (by decide) rfl 5 rfl (by decide)
  have ebz7 := ez7.trans ebz7
  have ln_ := hV.ln hsz7 (by decide) rfl
  have lx_ := hV.1.fx hsz7 (by decide) rfl 16 rfl (by decide)
  refine ⟨bz7, ebz7, (hV.mm hsz7 (by decide) rfl), by omega, ?_⟩
  intro κ8 eκ8
  have hV := hV.uJ eκ8
  have hfr := hfr.uJ (k := (0 : Int32).toInt.toNat) hsz7 (by decide) (show ((32, 0) : Nat × Nat) ∈ ([(3, 0), (3, 1), (3, 6), (3, 7), (32, 0), (63, 1), (64, 1)] : List (Nat × Nat)) by decide) eκ8
  refine ⟨(hV.mm hs_h (by decide) rfl), ?_⟩
  intro κ9 eκ9
  have rv_κ9 := i_range 1
  have hV := hV.uI (k := 6) (v := 1) hs_h (Or.inl rfl) (Or.inl (by decide)) (Or.inl (by decide)) (fun _ => (by omega : (0 : Int) ≤ (1 : Int32).toInt ∧ (1 : Int32).toInt ≤ 16)) eκ9
  have hfr := hfr.uI (k := 6) hs_h (by decide) (show ((3, 6) : Nat × Nat) ∈ ([(3, 0), (3, 1), (3, 6), (3, 7), (32, 0), (63, 1), (64, 1)] : List (Nat × Nat)) by decide) eκ9
  have uκ9 : (sI κ9.1 h 6).toInt = (1 : Int32).toInt := by rw [eκ9]; exact congrArg Int32.toInt u2_same
  refine ⟨(hV.mm hs_h (by decide) rfl), ?_⟩
  intro κ10 eκ10
  have hV := hV.uJ eκ10
  have hfr := hfr.uJ (k := 7) hs_h (by decide) (show ((3, 7) : Nat × Nat) ∈ ([(3, 0), (3, 1), (3, 6), (3, 7), (32, 0), (63, 1), (64, 1)] : List (Nat × Nat)) by decide) eκ10
  exact kk κ10 hV hfr trivial
set_option maxRecDepth 100000 in
set_option maxHeartbeats 4000000 in
theorem t_X2_vanish {G : GE} {E : CE} {W : CW} {c : Int} {κ : CS} (hV : CV G E W c κ) (h : Nat) (hs_h : W.1 h = 3)  {post : CS → Prop} (kk : ∀ (κ' : CS), CV G E W c κ' → CF [(3, 0), (63, 1), (64, 1)] W κ κ' → (True) → post κ') : F_X2_vanish G h post κ := by
  unfold F_X2_vanish
  have hfr : CF [(3, 0), (63, 1), (64, 1)] W κ κ := CF.rf
  have k_0 : (0 : Int32).toInt = 0 := rfl
  refine ⟨by omega, (hV.mm hs_h (by decide) rfl), ?_⟩
  intro κ1 eκ1
  have rv_κ1 := i_range 0
  have hV := hV.uI (k := 0) (v := 0) hs_h (Or.inl rfl) (Or.inl (by decide)) (Or.inl (by decide)) (fun _ => (by omega : (0 : Int) ≤ (0 : Int32).toInt ∧ (0 : Int32).toInt ≤ 1)) eκ1
  have hfr := hfr.uI (k := 0) hs_h (by decide) (show ((3, 0) : Nat × Nat) ∈ ([(3, 0), (63, 1), (64, 1)] : List (Nat × Nat)) by decide) eκ1
  have uκ1 : (sI κ1.1 h 0).toInt = (0 : Int32).toInt := by rw [eκ1]; exact congrArg Int32.toInt u2_same
  refine ⟨(hV.mm hs_h (by decide) rfl), ?_⟩
  intro z2 ez2
  obtain ⟨bz2, ebz2, hsz2⟩ := hV.1.nn hs_h (by decide) rfl 2 rfl (by decide)
  have ebz2 := ez2.trans ebz2
  refine ⟨bz2, ebz2, (hV.mm hsz2 (by decide) rfl), ?_⟩
  intro κ3 eκ3
  obtain ⟨rbκ3, reκ3, rsκ3⟩ := hV.1.nn hsz2 (by decide) rfl 0 rfl (by decide)
  have roκ3 := (hV.2.1 bz2 (by rw [hsz2]; rfl) rbκ3 reκ3).1
  have hV := hV.uRL hsz2 rfl reκ3 (by show 0 ≤ (0 : Int32).toInt ∧ (0 : Int32).toInt ≤ 4004; omega) (by omega) eκ3
  have hfr := hfr.uI (k := 1) hsz2 (by decide) (show ((64, 1) : Nat × Nat) ∈ ([(3, 0), (63, 1), (64, 1)] : List (Nat × Nat)) by decide) eκ3
  have uκ3 : (sI κ3.1 bz2 1).toInt = (0 : Int32).toInt := by rw [eκ3]; exact congrArg Int32.toInt u2_same
  refine ⟨(hV.mm hs_h (by decide) rfl), ?_⟩
  intro z4 ez4
  obtain ⟨bz4, ebz4, hsz4⟩ := hV.1.nn hs_h (by decide) rfl 4 rfl (by decide)
  have ebz4 := ez4.trans ebz4
  refine ⟨bz4, ebz4, (hV.mm hsz4 (by decide) rfl), ?_⟩
  intro κ5 eκ5
  obtain ⟨rbκ5, reκ5, rsκ5⟩ := hV.1.nn hsz4 (by decide) rfl 0 rfl (by decide)
  have roκ5 := (hV.2.1 bz4 (by rw [hsz4]; rfl) rbκ5 reκ5).1
  have hV := hV.uRL hsz4 rfl reκ5 (by show 0 ≤ (0 : Int32).toInt ∧ (0 : Int32).toInt ≤ 16000; omega) (by omega) eκ5
  have hfr := hfr.uI (k := 1) hsz4 (by decide) (show ((63, 1) : Nat × Nat) ∈ ([(3, 0), (63, 1), (64, 1)] : List (Nat × Nat)) by decide) eκ5
  have uκ5 : (sI κ5.1 bz4 1).toInt = (0 : Int32).toInt := by rw [eκ5]; exact congrArg Int32.toInt u2_same
  exact kk κ5 hV hfr trivial
set_option maxRecDepth 100000 in
set_option maxHeartbeats 4000000 in
theorem t_X2_admits {G : GE} {E : CE} {W : CW} {c : Int} {κ : CS} (hV : CV G E W c κ) (h : Nat) (hs_h : W.1 h = 3) (a1 : Int32) (a2 : Int64)  {post : Int32 → CS → Prop} (kk : ∀ (r : Int32) (κ' : CS), CV G E W c κ' → CF [(3, 6), (32, 0)] W κ κ' → (0 ≤ r.toInt ∧ r.toInt ≤ 1) → post r κ') : F_X2_admits G h a1 a2 post κ := by
  unfold F_X2_admits
  have hfr : CF [(3, 6), (32, 0)] W κ κ := CF.rf
  have k_0 : (0 : Int32).toInt = 0 := rfl
  have k_1 : (1 : Int32).toInt = 1 := rfl
  have k_12 : (12 : Int32).toInt = 12 := rfl
  have kl_0 : (0 : Int64).toInt = 0 := rfl
  have kl_1 : (1 : Int64).toInt = 1 := rfl
  have rg_a1 := i_range a1
  have rg_a2 := l_range a2
  refine ⟨(hV.mm hs_h (by decide) rfl), ?_⟩
  intro z1 ez1
  have vz1 := hV.1.iv hs_h (by decide) rfl 1 0 1 rfl ez1
  have wz1 : z1.toInt = (sI κ.1 h 1).toInt := by rw [ez1]
  refine jc_in (fun (x : Int32) (κ' : CS) => κ = κ' ∧ (((0 ≤ x.toInt ∧ x.toInt ≤ 1)))) (fun x2 κ3 hJ => ?_) (fun K4 hK4 => ?_)
  · obtain ⟨hsg, hv⟩ := hJ
    subst hsg
    (try dsimp only at hv)
    have rg_x2 := i_range x2
    refine ⟨fun c1 => ?_, fun c1 => ?_⟩
    · refine ⟨fun c2 => ?_, fun c2 => ?_⟩
      · refine lc_in (fun (x : Int32) (κ' : CS) => κ = κ' ∧ (((0 ≤ x.toInt)))) (fun (x : Int32) (κ' : CS) => (2147483647 - x.toInt).toNat) ⟨rfl, (by (try dsimp only); omega)⟩ (fun x7 κ8 hJ K9 hK9 => ?_)
        obtain ⟨hsg, hv⟩ := hJ
        subst hsg
        (try dsimp only at hv)
        have rg_x7 := i_range x7
        refine ⟨(hV.mm hs_h (by decide) rfl), ?_⟩
        intro z11 ez11
        have vz11 := hV.1.iv hs_h (by decide) rfl 6 0 16 rfl ez11
        have wz11 : z11.toInt = (sI κ.1 h 6).toInt := by rw [ez11]
        refine jc_dup ?_
        refine ⟨fun c3 => ?_, fun c3 => ?_⟩
        · (try dsimp only)
          refine ⟨by omega, ?_⟩
          exact kk 0 κ hV hfr (by omega)
        · refine ⟨(hV.mm hs_h (by decide) rfl), ?_⟩
          intro z17 ez17
          obtain ⟨bz17, ebz17, hsz17⟩ := hV.1.nn hs_h (by decide) rfl 5 rfl (by decide)
          have ebz17 := ez17.trans ebz17
          refine ⟨(W.2 bz17), (AL.of hV ebz17 hsz17 (by decide) rfl (by decide)), ?_⟩
          intro z18 ez18
          have lnz18 := nI_ln ez18 (hV.lm hsz17 (by decide) rfl)
          have lmz18 := (hV.lm hsz17 (by decide) rfl)
          have lxz18 := hV.1.fx hsz17 (by decide) rfl 16 rfl (by decide)
          refine ⟨fun c4 => ?_, fun c4 => ?_⟩
          · (try dsimp only)
            refine ⟨by omega, ?_⟩
            exact kk 0 κ hV hfr (by omega)
          · refine ⟨(hV.mm hs_h (by decide) rfl), ?_⟩
            intro z19 ez19
            have ebz19 : z19 = some bz17 := (ez19.trans ez17.symm).trans ebz17
            have ln_ := hV.ln hsz17 (by decide) rfl
            have lx_ := hV.1.fx hsz17 (by decide) rfl 16 rfl (by decide)
            refine ⟨bz17, ebz19, (hV.mm hsz17 (by decide) rfl), by omega, ?_⟩
            intro z20 ez20
            have rg_z20 := l_range z20
            refine ⟨fun c5 => ?_, fun c5 => ?_⟩
            · intro z21 ez21
              try have hz21 := i_add ez21 (by omega) (by omega)
              have rg_z21 := i_range z21
              exact hK9 z21 κ ⟨rfl, (by (try dsimp only); omega)⟩ (by (try dsimp only); omega)
            · refine ⟨(hV.mm hs_h (by decide) rfl), ?_⟩
              intro z22 ez22
              have vz22 := hV.1.iv hs_h (by decide) rfl 6 0 16 rfl ez22
              have wz22 : z22.toInt = (sI κ.1 h 6).toInt := by rw [ez22]
              intro z23 ez23
              try have hz23 := i_sub ez23 (by omega) (by omega)
              have rg_z23 := i_range z23
              refine ⟨(hV.mm hs_h (by decide) rfl), ?_⟩
              intro κ24 eκ24
              have rv_κ24 := i_range z23
              have hV := hV.uI (k := 6) (v := z23) hs_h (Or.inl rfl) (Or.inl (by decide)) (Or.inl (by decide)) (fun _ => (by omega : (0 : Int) ≤ (z23 : Int32).toInt ∧ (z23 : Int32).toInt ≤ 16)) eκ24
              have hfr := hfr.uI (k := 6) hs_h (by decide) (show ((3, 6) : Nat × Nat) ∈ ([(3, 6), (32, 0)] : List (Nat × Nat)) by decide) eκ24
              have uκ24 : (sI κ24.1 h 6).toInt = (z23 : Int32).toInt := by rw [eκ24]; exact congrArg Int32.toInt u2_same
              refine ⟨(hV.mm hs_h (by decide) rfl), ?_⟩
              intro z25 ez25
              have ebz25 : z25 = some bz17 := (ez25.trans (hfr.1 h (by rw [hs_h]; decide) 5 (by rw [hs_h]; decide)).2.2).trans (ez17.symm.trans ebz17)
              refine ⟨(hV.mm hs_h (by decide) rfl), ?_⟩
              intro z26 ez26
              have ebz26 : z26 = some bz17 := (ez26.trans (hfr.1 h (by rw [hs_h]; decide) 5 (by rw [hs_h]; decide)).2.2).trans (ez17.symm.trans ebz17)
              refine ⟨(hV.mm hs_h (by decide) rfl), ?_⟩
              intro z27 ez27
              have vz27 := hV.1.iv hs_h (by decide) rfl 6 0 16 rfl ez27
              have wz27 : z27.toInt = (sI κ24.1 h 6).toInt := by rw [ez27]
              have ln_ := hV.ln hsz17 (by decide) rfl
              have lx_ := hV.1.fx hsz17 (by decide) rfl 16 rfl (by decide)
              refine ⟨bz17, ebz26, (hV.mm hsz17 (by decide) rfl), by omega, ?_⟩
              intro z28 ez28
              have rg_z28 := l_range z28
              have ln_ := hV.ln hsz17 (by decide) rfl
              have lx_ := hV.1.fx hsz17 (by decide) rfl 16 rfl (by decide)
              refine ⟨bz17, ebz25, (hV.mm hsz17 (by decide) rfl), by omega, ?_⟩
              intro κ29 eκ29
              have hV := hV.uJ eκ29
              have hfr := hfr.uJ (k := x7.toInt.toNat) hsz17 (by decide) (show ((32, 0) : Nat × Nat) ∈ ([(3, 6), (32, 0)] : List (Nat × Nat)) by decide) eκ29
              refine ⟨by omega, ?_⟩
              exact kk 1 κ29 hV hfr (by omega)
      · refine ⟨by omega, ?_⟩
        exact kk 1 κ hV hfr (by omega)
    · refine ⟨by omega, ?_⟩
      exact kk 0 κ hV hfr (by omega)
  · skip
    refine ⟨fun c6 => ?_, fun c6 => ?_⟩
    · exact hK4 0 κ ⟨rfl, (by (try dsimp only); omega)⟩
    · exact hK4 1 κ ⟨rfl, (by (try dsimp only); omega)⟩
set_option maxRecDepth 100000 in
set_option maxHeartbeats 4000000 in
theorem t_X2_grant {G : GE} {E : CE} {W : CW} {c : Int} {κ : CS} (hV : CV G E W c κ) (h : Nat) (hs_h : W.1 h = 3) (a1 : Int32)  {post : Int32 → CS → Prop} (kk : ∀ (r : Int32) (κ' : CS), CV G E W c κ' → CF [(3, 6), (3, 7), (32, 0)] W κ κ' → (True) → post r κ') : F_X2_grant G h a1 post κ := by
  unfold F_X2_grant
  have hfr : CF [(3, 6), (3, 7), (32, 0)] W κ κ := CF.rf
  have k_0 : (0 : Int32).toInt = 0 := rfl
  have k_1 : (1 : Int32).toInt = 1 := rfl
  have kl_1 : (1 : Int64).toInt = 1 := rfl
  have rg_a1 := i_range a1
  intro z2 mz2
  have rg_z2 := i_range z2
  refine ⟨(hV.mm hs_h (by decide) rfl), ?_⟩
  intro z3 ez3
  obtain ⟨bz3, ebz3, hsz3⟩ := hV.1.nn hs_h (by decide) rfl 5 rfl (by decide)
  have ebz3 := ez3.trans ebz3
  refine ⟨(W.2 bz3), (AL.of hV ebz3 hsz3 (by decide) rfl (by decide)), ?_⟩
  intro z4 ez4
  have lnz4 := nI_ln ez4 (hV.lm hsz3 (by decide) rfl)
  have lmz4 := (hV.lm hsz3 (by decide) rfl)
  have lxz4 := hV.1.fx hsz3 (by decide) rfl 16 rfl (by decide)
  refine ⟨(hV.mm hs_h (by decide) rfl), ?_⟩
  intro z5 ez5
  have vz5 := hV.1.iv hs_h (by decide) rfl 6 0 16 rfl ez5
  have wz5 : z5.toInt = (sI κ.1 h 6).toInt := by rw [ez5]
  intro z6 ez6
  try have hz6 := i_sub ez6 (by omega) (by omega)
  have rg_z6 := i_range z6
  intro z8 mz8
  have rg_z8 := i_range z8
  intro z10 mz10
  have rg_z10 := i_range z10
  refine lc_in (fun (x : Int32) (κ' : CS) => CV G E W c κ' ∧ CF [(3, 6), (3, 7), (32, 0)] W κ κ' ∧ (((0 ≤ x.toInt) ∧ ((sI κ'.1 h 6).toInt + (z10.toInt - x.toInt) ≤ 16 ∨ z10.toInt ≤ x.toInt) ∧ (x.toInt ≤ z10.toInt)))) (fun (x : Int32) (κ' : CS) => (2147483647 - x.toInt).toNat) ⟨hV, hfr, (by (try dsimp only); omega)⟩ (fun x11 κ12 hJ K13 hK13 => ?_)
  obtain ⟨hV, hfr, hv⟩ := hJ
  (try dsimp only at hv)
  have rg_x11 := i_range x11
  refine ⟨fun c1 => ?_, fun c1 => ?_⟩
  · exact kk z10 κ12 hV hfr trivial
  · refine ⟨(hV.mm hs_h (by decide) rfl), ?_⟩
    intro z15 ez15
    have vz15 := l_range z15
    have wz15 : z15.toInt = (sJ κ12.1 h 7).toInt := by rw [ez15]
    intro z16 ez16
    try have hz16 := l_add ez16 (by omega) (by omega)
    have rg_z16 := l_range z16
    refine ⟨(hV.mm hs_h (by decide) rfl), ?_⟩
    intro κ17 eκ17
    have hV := hV.uJ eκ17
    have hfr := hfr.uJ (k := 7) hs_h (by decide) (show ((3, 7) : Nat × Nat) ∈ ([(3, 6), (3, 7), (32, 0)] : List (Nat × Nat)) by decide) eκ17
    have f1κ17 : CF [(3, 7)] W κ12 κ17 := CF.rf.uJ (k := 7) hs_h (by decide) (show ((3, 7) : Nat × Nat) ∈ ([(3, 7)] : List (Nat × Nat)) by simp) eκ17
    have tk1 : (sI κ17.1 h 6).toInt = (sI κ12.1 h 6).toInt := by rw [(f1κ17.1 h (by rw [hs_h]; decide) 6 (by rw [hs_h]; decide)).1]
    refine ⟨(hV.mm hs_h (by decide) rfl), ?_⟩
    intro z18 ez18
    have ebz18 : z18 = some bz3 := (ez18.trans (hfr.1 h (by rw [hs_h]; decide) 5 (by rw [hs_h]; decide)).2.2).trans (ez3.symm.trans ebz3)
    refine ⟨(hV.mm hs_h (by decide) rfl), ?_⟩
    intro z19 ez19
    have vz19 := hV.1.iv hs_h (by decide) rfl 6 0 16 rfl ez19
    have wz19 : z19.toInt = (sI κ17.1 h 6).toInt := by rw [ez19]
    refine ⟨(hV.mm hs_h (by decide) rfl), ?_⟩
    intro z20 ez20
    have vz20 := l_range z20
    have wz20 : z20.toInt = (sJ κ17.1 h 7).toInt := by rw [ez20]
    have ln_ := hV.ln hsz3 (by decide) rfl
    have lx_ := hV.1.fx hsz3 (by decide) rfl 16 rfl (by decide)
    refine ⟨bz3, ebz18, (hV.mm hsz3 (by decide) rfl), by omega, ?_⟩
    intro κ21 eκ21
    have hV := hV.uJ eκ21
    have hfr := hfr.uJ (k := z19.toInt.toNat) hsz3 (by decide) (show ((32, 0) : Nat × Nat) ∈ ([(3, 6), (3, 7), (32, 0)] : List (Nat × Nat)) by decide) eκ21
    have f1κ21 : CF [(32, 0)] W κ17 κ21 := CF.rf.uJ (k := z19.toInt.toNat) hsz3 (by decide) (show ((32, 0) : Nat × Nat) ∈ ([(32, 0)] : List (Nat × Nat)) by simp) eκ21
    have tk2 : (sI κ21.1 h 6).toInt = (sI κ17.1 h 6).toInt := by rw [(f1κ21.1 h (by rw [hs_h]; decide) 6 (by rw [hs_h]; decide)).1]
    refine ⟨(hV.mm hs_h (by decide) rfl), ?_⟩
    intro z22 ez22
    have vz22 := hV.1.iv hs_h (by decide) rfl 6 0 16 rfl ez22
    have wz22 : z22.toInt = (sI κ21.1 h 6).toInt := by rw [ez22]
    intro z23 ez23
    try have hz23 := i_add ez23 (by omega) (by omega)
    have rg_z23 := i_range z23
    refine ⟨(hV.mm hs_h (by decide) rfl), ?_⟩
    intro κ24 eκ24
    have rv_κ24 := i_range z23
    have hV := hV.uI (k := 6) (v := z23) hs_h (Or.inl rfl) (Or.inl (by decide)) (Or.inl (by decide)) (fun _ => (by omega : (0 : Int) ≤ (z23 : Int32).toInt ∧ (z23 : Int32).toInt ≤ 16)) eκ24
    have hfr := hfr.uI (k := 6) hs_h (by decide) (show ((3, 6) : Nat × Nat) ∈ ([(3, 6), (3, 7), (32, 0)] : List (Nat × Nat)) by decide) eκ24
    have uκ24 : (sI κ24.1 h 6).toInt = (z23 : Int32).toInt := by rw [eκ24]; exact congrArg Int32.toInt u2_same
    have f1κ24 : CF [(3, 6)] W κ21 κ24 := CF.rf.uI (k := 6) hs_h (by decide) (show ((3, 6) : Nat × Nat) ∈ ([(3, 6)] : List (Nat × Nat)) by simp) eκ24
    intro z25 ez25
    try have hz25 := i_add ez25 (by omega) (by omega)
    have rg_z25 := i_range z25
    exact hK13 z25 κ24 ⟨hV, hfr, (by (try dsimp only); omega)⟩ (by (try dsimp only); omega)
set_option maxRecDepth 100000 in
set_option maxHeartbeats 4000000 in
theorem t_X10_takeOptions {G : GE} {E : CE} {W : CW} {c : Int} {κ : CS} (hV : CV G E W c κ) (h : Nat) (hs_h : W.1 h = 13) (a1 : Int32)  {post : CS → Prop} (kk : ∀ (κ' : CS), CV G E W c κ' → CF [(13, 5), (13, 6), (13, 7)] W κ κ' → (True) → post κ') : F_X10_takeOptions G h a1 post κ := by
  unfold F_X10_takeOptions
  have hfr : CF [(13, 5), (13, 6), (13, 7)] W κ κ := CF.rf
  have k_0 : (0 : Int32).toInt = 0 := rfl
  have k_1 : (1 : Int32).toInt = 1 := rfl
  have k_64 : (64 : Int32).toInt = 64 := rfl
  have k_4096 : (4096 : Int32).toInt = 4096 := rfl
  have kl_1 : (1 : Int64).toInt = 1 := rfl
  have kl_64 : (64 : Int64).toInt = 64 := rfl
  have kl_4096 : (4096 : Int64).toInt = 4096 := rfl
  have rg_a1 := i_range a1
  intro z1 ez1
  try have hz1 := i_and1 ez1 (by omega)
  have rg_z1 := i_range z1
  refine jc_in (fun (x : Int32) (κ' : CS) => κ = κ' ∧ (((0 ≤ x.toInt ∧ x.toInt ≤ 1)))) (fun x2 κ3 hJ => ?_) (fun K4 hK4 => ?_)
  · obtain ⟨hsg, hv⟩ := hJ
    subst hsg
    (try dsimp only at hv)
    have rg_x2 := i_range x2
    refine ⟨by omega, (hV.mm hs_h (by decide) rfl), ?_⟩
    intro κ7 eκ7
    have rv_κ7 := i_range x2
    have hV := hV.uI (k := 5) (v := x2) hs_h (Or.inl rfl) (Or.inl (by decide)) (Or.inl (by decide)) (fun _ => (by omega : (0 : Int) ≤ (x2 : Int32).toInt ∧ (x2 : Int32).toInt ≤ 1)) eκ7
    have hfr := hfr.uI (k := 5) hs_h (by decide) (show ((13, 5) : Nat × Nat) ∈ ([(13, 5), (13, 6), (13, 7)] : List (Nat × Nat)) by decide) eκ7
    have uκ7 : (sI κ7.1 h 5).toInt = (x2 : Int32).toInt := by rw [eκ7]; exact congrArg Int32.toInt u2_same
    intro z8 ez8
    try have hz8 := i_and ez8 (by omega)
    have rg_z8 := i_range z8
    refine jc_in (fun (x : Int32) (κ' : CS) => κ7 = κ' ∧ (((0 ≤ x.toInt ∧ x.toInt ≤ 1)))) (fun x9 κ10 hJ => ?_) (fun K11 hK11 => ?_)
    · obtain ⟨hsg, hv⟩ := hJ
      subst hsg
      (try dsimp only at hv)
      have rg_x9 := i_range x9
      refine ⟨by omega, (hV.mm hs_h (by decide) rfl), ?_⟩
      intro κ14 eκ14
      have rv_κ14 := i_range x9
      have hV := hV.uI (k := 6) (v := x9) hs_h (Or.inl rfl) (Or.inl (by decide)) (Or.inl (by decide)) (fun _ => (by omega : (0 : Int) ≤ (x9 : Int32).toInt ∧ (x9 : Int32).toInt ≤ 1)) eκ14
      have hfr := hfr.uI (k := 6) hs_h (by decide) (show ((13, 6) : Nat × Nat) ∈ ([(13, 5), (13, 6), (13, 7)] : List (Nat × Nat)) by decide) eκ14
      have uκ14 : (sI κ14.1 h 6).toInt = (x9 : Int32).toInt := by rw [eκ14]; exact congrArg Int32.toInt u2_same
      intro z15 ez15
      try have hz15 := i_and ez15 (by omega)
      have rg_z15 := i_range z15
      refine jc_dup ?_
      refine ⟨fun c1 => ?_, fun c1 => ?_⟩
      · (try dsimp only)
        refine ⟨by omega, (hV.mm hs_h (by decide) rfl), ?_⟩
        intro κ21 eκ21
        have rv_κ21 := i_range 0
        have hV := hV.uI (k := 7) (v := 0) hs_h (Or.inl rfl) (Or.inl (by decide)) (Or.inl (by decide)) (fun _ => (by omega : (0 : Int) ≤ (0 : Int32).toInt ∧ (0 : Int32).toInt ≤ 1)) eκ21
        have hfr := hfr.uI (k := 7) hs_h (by decide) (show ((13, 7) : Nat × Nat) ∈ ([(13, 5), (13, 6), (13, 7)] : List (Nat × Nat)) by decide) eκ21
        have uκ21 : (sI κ21.1 h 7).toInt = (0 : Int32).toInt := by rw [eκ21]; exact congrArg Int32.toInt u2_same
        exact kk κ21 hV hfr trivial
      · (try dsimp only)
        refine ⟨by omega, (hV.mm hs_h (by decide) rfl), ?_⟩
        intro κ21 eκ21
        have rv_κ21 := i_range 1
        have hV := hV.uI (k := 7) (v := 1) hs_h (Or.inl rfl) (Or.inl (by decide)) (Or.inl (by decide)) (fun _ => (by omega : (0 : Int) ≤ (1 : Int32).toInt ∧ (1 : Int32).toInt ≤ 1)) eκ21
        have hfr := hfr.uI (k := 7) hs_h (by decide) (show ((13, 7) : Nat × Nat) ∈ ([(13, 5), (13, 6), (13, 7)] : List (Nat × Nat)) by decide) eκ21
        have uκ21 : (sI κ21.1 h 7).toInt = (1 : Int32).toInt := by rw [eκ21]; exact congrArg Int32.toInt u2_same
        exact kk κ21 hV hfr trivial
    · skip
      refine ⟨fun c2 => ?_, fun c2 => ?_⟩
      · exact hK11 0 κ7 ⟨rfl, (by (try dsimp only); omega)⟩
      · exact hK11 1 κ7 ⟨rfl, (by (try dsimp only); omega)⟩
  · skip
    refine ⟨fun c3 => ?_, fun c3 => ?_⟩
    · exact hK4 0 κ ⟨rfl, (by (try dsimp only); omega)⟩
    · exact hK4 1 κ ⟨rfl, (by (try dsimp only); omega)⟩
set_option maxRecDepth 100000 in
set_option maxHeartbeats 4000000 in
theorem t_X10_takeAccess {G : GE} {E : CE} {W : CW} {c : Int} {κ : CS} (hV : CV G E W c κ) (h : Nat) (hs_h : W.1 h = 13) (a1 : Int32)  {post : CS → Prop} (kk : ∀ (κ' : CS), CV G E W c κ' → CF [(13, 1)] W κ κ' → (True) → post κ') : F_X10_takeAccess G h a1 post κ := by
  unfold F_X10_takeAccess
  have hfr : CF [(13, 1)] W κ κ := CF.rf
  have k_m2147483648 : ((-2147483648) : Int32).toInt = (-2147483648) := rfl
  have k_0 : (0 : Int32).toInt = 0 := rfl
  have k_1179785 : (1179785 : Int32).toInt = 1179785 := rfl
  have k_1179808 : (1179808 : Int32).toInt = 1179808 := rfl
  have k_1179926 : (1179926 : Int32).toInt = 1179926 := rfl
  have k_2032127 : (2032127 : Int32).toInt = 2032127 := rfl
  have k_301989888 : (301989888 : Int32).toInt = 301989888 := rfl
  have k_536870912 : (536870912 : Int32).toInt = 536870912 := rfl
  have k_1073741824 : (1073741824 : Int32).toInt = 1073741824 := rfl
  have kl_m2147483648 : ((-2147483648) : Int64).toInt = (-2147483648) := rfl
  have kl_2032127 : (2032127 : Int64).toInt = 2032127 := rfl
  have kl_301989888 : (301989888 : Int64).toInt = 301989888 := rfl
  have kl_536870912 : (536870912 : Int64).toInt = 536870912 := rfl
  have kl_1073741824 : (1073741824 : Int64).toInt = 1073741824 := rfl
  have rg_a1 := i_range a1
  intro z1 ez1
  try have hz1 := i_and ez1 (by omega)
  have rg_z1 := i_range z1
  refine jc_in (fun (x : Int32) (κ' : CS) => κ = κ' ∧ ((True))) (fun x2 κ3 hJ => ?_) (fun K4 hK4 => ?_)
  · obtain ⟨hsg, hv⟩ := hJ
    subst hsg
    (try dsimp only at hv)
    have rg_x2 := i_range x2
    intro z7 ez7
    try have hz7 := i_orm ez7 (by omega) (by omega)
    try have h2z7 := i_or ez7 (by omega) (by omega)
    have rg_z7 := i_range z7
    intro z8 ez8
    try have hz8 := i_and ez8 (by omega)
    have rg_z8 := i_range z8
    refine jc_in (fun (x : Int32) (κ' : CS) => κ = κ' ∧ ((True))) (fun x9 κ10 hJ => ?_) (fun K11 hK11 => ?_)
    · obtain ⟨hsg, hv⟩ := hJ
      subst hsg
      (try dsimp only at hv)
      have rg_x9 := i_range x9
      intro z14 ez14
      try have hz14 := i_orm ez14 (by omega) (by omega)
      try have h2z14 := i_or ez14 (by omega) (by omega)
      have rg_z14 := i_range z14
      intro z15 ez15
      try have hz15 := i_and ez15 (by omega)
      have rg_z15 := i_range z15
      refine jc_in (fun (x : Int32) (κ' : CS) => κ = κ' ∧ ((True))) (fun x16 κ17 hJ => ?_) (fun K18 hK18 => ?_)
      · obtain ⟨hsg, hv⟩ := hJ
        subst hsg
        (try dsimp only at hv)
        have rg_x16 := i_range x16
        intro z21 ez21
        try have hz21 := i_orm ez21 (by omega) (by omega)
        try have h2z21 := i_or ez21 (by omega) (by omega)
        have rg_z21 := i_range z21
        intro z22 ez22
        try have hz22 := i_and ez22 (by omega)
        have rg_z22 := i_range z22
        refine jc_dup ?_
        refine ⟨fun c1 => ?_, fun c1 => ?_⟩
        · (try dsimp only)
          intro z28 ez28
          try have hz28 := i_orm ez28 (by omega) (by omega)
          try have h2z28 := i_or ez28 (by omega) (by omega)
          have rg_z28 := i_range z28
          intro z29 ez29
          try have hz29 := i_and ez29 (by omega)
          have rg_z29 := i_range z29
          refine ⟨(hV.mm hs_h (by decide) rfl), ?_⟩
          intro κ30 eκ30
          have rv_κ30 := i_range z29
          have hV := hV.uI (k := 1) (v := z29) hs_h (Or.inl rfl) (Or.inl (by decide)) (Or.inl (by decide)) (fun _ => (by omega : (-2147483648 : Int) ≤ (z29 : Int32).toInt ∧ (z29 : Int32).toInt ≤ 2147483647)) eκ30
          have hfr := hfr.uI (k := 1) hs_h (by decide) (show ((13, 1) : Nat × Nat) ∈ ([(13, 1)] : List (Nat × Nat)) by decide) eκ30
          have uκ30 : (sI κ30.1 h 1).toInt = (z29 : Int32).toInt := by rw [eκ30]; exact congrArg Int32.toInt u2_same
          exact kk κ30 hV hfr trivial
        · (try dsimp only)
          intro z28 ez28
          try have hz28 := i_orm ez28 (by omega) (by omega)
          try have h2z28 := i_or ez28 (by omega) (by omega)
          have rg_z28 := i_range z28
          intro z29 ez29
          try have hz29 := i_and ez29 (by omega)
          have rg_z29 := i_range z29
          refine ⟨(hV.mm hs_h (by decide) rfl), ?_⟩
          intro κ30 eκ30
          have rv_κ30 := i_range z29
          have hV := hV.uI (k := 1) (v := z29) hs_h (Or.inl rfl) (Or.inl (by decide)) (Or.inl (by decide)) (fun _ => (by omega : (-2147483648 : Int) ≤ (z29 : Int32).toInt ∧ (z29 : Int32).toInt ≤ 2147483647)) eκ30
          have hfr := hfr.uI (k := 1) hs_h (by decide) (show ((13, 1) : Nat × Nat) ∈ ([(13, 1)] : List (Nat × Nat)) by decide) eκ30
          have uκ30 : (sI κ30.1 h 1).toInt = (z29 : Int32).toInt := by rw [eκ30]; exact congrArg Int32.toInt u2_same
          exact kk κ30 hV hfr trivial
      · skip
        refine ⟨fun c2 => ?_, fun c2 => ?_⟩
        · exact hK18 0 κ ⟨rfl, trivial⟩
        · exact hK18 1179808 κ ⟨rfl, trivial⟩
    · skip
      refine ⟨fun c3 => ?_, fun c3 => ?_⟩
      · exact hK11 0 κ ⟨rfl, trivial⟩
      · exact hK11 1179926 κ ⟨rfl, trivial⟩
  · skip
    refine ⟨fun c4 => ?_, fun c4 => ?_⟩
    · exact hK4 0 κ ⟨rfl, trivial⟩
    · exact hK4 1179785 κ ⟨rfl, trivial⟩
set_option maxRecDepth 100000 in
set_option maxHeartbeats 4000000 in
theorem t_X10_nameTo {G : GE} {E : CE} {W : CW} {c : Int} {κ : CS} (hV : CV G E W c κ) (h : Nat) (hs_h : W.1 h = 13) (a1 : Option Nat) (b_a1 : Nat) (e_a1 : a1 = some b_a1) (hs_a1 : W.1 b_a1 = 4)  {post : CS → Prop} (kk : ∀ (κ' : CS), CV G E W c κ' → CF [(30, 0), (4, 5)] W κ κ' → (True) → post κ') : F_X10_nameTo G h a1 post κ := by
  unfold F_X10_nameTo
  have hfr : CF [(30, 0), (4, 5)] W κ κ := CF.rf
  have k_0 : (0 : Int32).toInt = 0 := rfl
  have k_1 : (1 : Int32).toInt = 1 := rfl
  have kl_1 : (1 : Int64).toInt = 1 := rfl
  refine ⟨(hV.mm hs_h (by decide) rfl), ?_⟩
  intro z1 ez1
  have vz1 := hV.1.iv hs_h (by decide) rfl 9 (-2147483648) 2147483647 rfl ez1
  have wz1 : z1.toInt = (sI κ.1 h 9).toInt := by rw [ez1]
  refine ⟨(hV.mm hs_h (by decide) rfl), ?_⟩
  intro z2 ez2
  have vz2 := hV.1.iv hs_h (by decide) rfl 12 (-2147483648) 2147483647 rfl ez2
  have wz2 : z2.toInt = (sI κ.1 h 12).toInt := by rw [ez2]
  intro z3 ez3
  try have hz3 := i_sub ez3 (by omega) (by omega)
  have rg_z3 := i_range z3
  refine ⟨b_a1, e_a1, (hV.mm hs_a1 (by decide) rfl), ?_⟩
  intro z4 ez4
  obtain ⟨bz4, ebz4, hsz4⟩ := hV.1.nn hs_a1 (by decide) rfl 4 rfl (by decide)
  have ebz4 := ez4.trans ebz4
  refine ⟨(W.2 bz4), (AL.of hV ebz4 hsz4 (by decide) rfl (by decide)), ?_⟩
  intro z5 ez5
  have lnz5 := nI_ln ez5 (hV.lm hsz4 (by decide) rfl)
  have lmz5 := (hV.lm hsz4 (by decide) rfl)
  have lxz5 := hV.1.fx hsz4 (by decide) rfl 12 rfl (by decide)
  intro z7 mz7
  have rg_z7 := i_range z7
  intro z9 mz9
  have rg_z9 := i_range z9
  refine ⟨b_a1, e_a1, (hV.mm hs_a1 (by decide) rfl), ?_⟩
  intro κ10 eκ10
  have rv_κ10 := i_range z9
  have hV := hV.uI (k := 5) (v := z9) hs_a1 (Or.inl rfl) (Or.inl (by decide)) (Or.inl (by decide)) (fun _ => (by omega : (0 : Int) ≤ (z9 : Int32).toInt ∧ (z9 : Int32).toInt ≤ 12)) eκ10
  have hfr := hfr.uI (k := 5) hs_a1 (by decide) (show ((4, 5) : Nat × Nat) ∈ ([(30, 0), (4, 5)] : List (Nat × Nat)) by decide) eκ10
  have uκ10 : (sI κ10.1 b_a1 5).toInt = (z9 : Int32).toInt := by rw [eκ10]; exact congrArg Int32.toInt u2_same
  refine lc_in (fun (x : Int32) (κ' : CS) => CV G E W c κ' ∧ CF [(30, 0), (4, 5)] W κ κ' ∧ (((0 ≤ x.toInt)))) (fun (x : Int32) (κ' : CS) => (2147483647 - x.toInt).toNat) ⟨hV, hfr, (by (try dsimp only); omega)⟩ (fun x11 κ12 hJ K13 hK13 => ?_)
  obtain ⟨hV, hfr, hv⟩ := hJ
  (try dsimp only at hv)
  have rg_x11 := i_range x11
  refine ⟨b_a1, e_a1, (hV.mm hs_a1 (by decide) rfl), ?_⟩
  intro z15 ez15
  have vz15 := hV.1.iv hs_a1 (by decide) rfl 5 0 12 rfl ez15
  have wz15 : z15.toInt = (sI κ12.1 b_a1 5).toInt := by rw [ez15]
  refine ⟨fun c1 => ?_, fun c1 => ?_⟩
  · exact kk κ12 hV hfr trivial
  · refine ⟨b_a1, e_a1, (hV.mm hs_a1 (by decide) rfl), ?_⟩
    intro z16 ez16
    have ebz16 : z16 = some bz4 := (ez16.trans (hfr.1 b_a1 (by rw [hs_a1]; decide) 4 (by rw [hs_a1]; decide)).2.2).trans (ez4.symm.trans ebz4)
    refine ⟨(hV.mm hs_h (by decide) rfl), ?_⟩
    intro z17 ez17
    have vz17 := hV.1.iv hs_h (by decide) rfl 12 (-2147483648) 2147483647 rfl ez17
    have wz17 : z17.toInt = (sI κ12.1 h 12).toInt := by rw [ez17]
    have w0z17 : z17.toInt = (sI κ.1 h 12).toInt := by rw [ez17, (hfr.1 h (by rw [hs_h]; decide) 12 (by rw [hs_h]; decide)).1]
    intro z18 ez18
    try have hz18 := i_add ez18 (by omega) (by omega)
    have rg_z18 := i_range z18
    refine ⟨(hV.mm hs_h (by decide) rfl), ?_⟩
    refine t_X10_unit hV h hs_h z18  (fun z20 pz20 => ?_)
    have rg_z20 := i_range z20
    intro z21 ez21
    have hz21 := i_b8 ez21
    have rg_z21 := i_range z21
    have ln_ := hV.ln hsz4 (by decide) rfl
    have lx_ := hV.1.fx hsz4 (by decide) rfl 12 rfl (by decide)
    refine ⟨bz4, ebz16, (hV.mm hsz4 (by decide) rfl), by omega, ?_⟩
    intro κ22 eκ22
    have hV := hV.uI (k := x11.toInt.toNat) (v := (vp_nar .byte z21)) hsz4 (Or.inl rfl) (Or.inl (by decide)) (Or.inl (by decide)) (fun _ => (i_byte _)) eκ22
    have hfr := hfr.uI (k := x11.toInt.toNat) hsz4 (by decide) (show ((30, 0) : Nat × Nat) ∈ ([(30, 0), (4, 5)] : List (Nat × Nat)) by decide) eκ22
    intro z23 ez23
    try have hz23 := i_add ez23 (by omega) (by omega)
    have rg_z23 := i_range z23
    exact hK13 z23 κ22 ⟨hV, hfr, (by (try dsimp only); omega)⟩ (by (try dsimp only); omega)
set_option maxRecDepth 100000 in
set_option maxHeartbeats 4000000 in
theorem t_X5_goBehind {G : GE} {E : CE} {W : CW} {c : Int} {κ : CS} (hV : CV G E W c κ) (h : Nat) (hs_h : W.1 h = 10) (a1 : Int32) (a2 : Option Nat) (b_a2 : Nat) (e_a2 : a2 = some b_a2) (hs_a2 : W.1 b_a2 = 5) (hz : 0 ≤ a1.toInt ∧ a1.toInt ≤ 2) {post : CS → Prop} (kk : ∀ (κ' : CS), CV G E W c κ' → CF [(10, 12), (10, 14), (30, 0)] W κ κ' → (True) → post κ') : F_X5_goBehind G h a1 a2 post κ := by
  unfold F_X5_goBehind
  have hfr : CF [(10, 12), (10, 14), (30, 0)] W κ κ := CF.rf
  have k_0 : (0 : Int32).toInt = 0 := rfl
  have k_1 : (1 : Int32).toInt = 1 := rfl
  have k_2 : (2 : Int32).toInt = 2 := rfl
  have kl_1 : (1 : Int64).toInt = 1 := rfl
  have rg_a1 := i_range a1
  intro z1 ez1
  try have hz1 := i_add ez1 (by omega) (by omega)
  have rg_z1 := i_range z1
  intro z3 mz3
  have rg_z3 := i_range z3
  refine ⟨(hV.mm hs_h (by decide) rfl), ?_⟩
  intro κ4 eκ4
  have rv_κ4 := i_range z3
  have hV := hV.uI (k := 12) (v := z3) hs_h (Or.inl rfl) (Or.inl (by decide)) (Or.inl (by decide)) (fun _ => (by omega : (0 : Int) ≤ (z3 : Int32).toInt ∧ (z3 : Int32).toInt ≤ 2)) eκ4
  have hfr := hfr.uI (k := 12) hs_h (by decide) (show ((10, 12) : Nat × Nat) ∈ ([(10, 12), (10, 14), (30, 0)] : List (Nat × Nat)) by decide) eκ4
  have uκ4 : (sI κ4.1 h 12).toInt = (z3 : Int32).toInt := by rw [eκ4]; exact congrArg Int32.toInt u2_same
  refine jc_dup ?_
  refine ⟨fun c1 => ?_, fun c1 => ?_⟩
  · (try dsimp only)
    exact kk κ4 hV hfr trivial
  · refine ⟨b_a2, e_a2, (hV.mm hs_a2 (by decide) rfl), ?_⟩
    intro z10 ez10
    have vz10 := hV.1.iv hs_a2 (by decide) rfl 6 0 12 rfl ez10
    have wz10 : z10.toInt = (sI κ4.1 b_a2 6).toInt := by rw [ez10]
    have w0z10 : z10.toInt = (sI κ.1 b_a2 6).toInt := by rw [ez10, (hfr.1 b_a2 (by rw [hs_a2]; decide) 6 (by rw [hs_a2]; decide)).1]
    refine ⟨(hV.mm hs_h (by decide) rfl), ?_⟩
    intro z11 ez11
    obtain ⟨bz11, ebz11, hsz11⟩ := hV.1.nn hs_h (by decide) rfl 13 rfl (by decide)
    have ebz11 := ez11.trans ebz11
    refine ⟨(W.2 bz11), (AL.of hV ebz11 hsz11 (by decide) rfl (by decide)), ?_⟩
    intro z12 ez12
    have lnz12 := nI_ln ez12 (hV.lm hsz11 (by decide) rfl)
    have lmz12 := (hV.lm hsz11 (by decide) rfl)
    have lxz12 := hV.1.fx hsz11 (by decide) rfl 12 rfl (by decide)
    intro z14 mz14
    have rg_z14 := i_range z14
    refine ⟨(hV.mm hs_h (by decide) rfl), ?_⟩
    intro κ15 eκ15
    have rv_κ15 := i_range z14
    have hV := hV.uI (k := 14) (v := z14) hs_h (Or.inl rfl) (Or.inl (by decide)) (Or.inl (by decide)) (fun _ => (by omega : (-2147483648 : Int) ≤ (z14 : Int32).toInt ∧ (z14 : Int32).toInt ≤ 2147483647)) eκ15
    have hfr := hfr.uI (k := 14) hs_h (by decide) (show ((10, 14) : Nat × Nat) ∈ ([(10, 12), (10, 14), (30, 0)] : List (Nat × Nat)) by decide) eκ15
    have uκ15 : (sI κ15.1 h 14).toInt = (z14 : Int32).toInt := by rw [eκ15]; exact congrArg Int32.toInt u2_same
    refine ⟨b_a2, e_a2, (hV.mm hs_a2 (by decide) rfl), ?_⟩
    intro z16 ez16
    obtain ⟨bz16, ebz16, hsz16⟩ := hV.1.nn hs_a2 (by decide) rfl 5 rfl (by decide)
    have ebz16 := ez16.trans ebz16
    refine ⟨(hV.mm hs_h (by decide) rfl), ?_⟩
    intro z17 ez17
    obtain ⟨bz17, ebz17, hsz17⟩ := hV.1.nn hs_h (by decide) rfl 13 rfl (by decide)
    have ebz17 := ez17.trans ebz17
    refine ⟨(hV.mm hs_h (by decide) rfl), ?_⟩
    intro z18 ez18
    have vz18 := hV.1.iv hs_h (by decide) rfl 14 (-2147483648) 2147483647 rfl ez18
    have wz18 : z18.toInt = (sI κ15.1 h 14).toInt := by rw [ez18]
    have ln0_ := hV.ln hsz16 (by decide) rfl
    have lx0_ := hV.1.fx hsz16 (by decide) rfl 12 rfl (by decide)
    have ln1_ := hV.ln hsz17 (by decide) rfl
    have lx1_ := hV.1.fx hsz17 (by decide) rfl 12 rfl (by decide)
    refine ⟨bz16, ebz16, bz17, ebz17, (hV.mm hsz16 (by decide) rfl), (hV.mm hsz17 (by decide) rfl), (by omega), fun j hj => (hV.1.el hsz16 (by decide) rfl _ (by omega)).1, ?_⟩
    intro κ19 eκ19
    have hV := hV.cpI hsz16 rfl hsz17 rfl (by omega) eκ19
    have hfr := hfr.cpI hsz17 rfl (show ((30, 0) : Nat × Nat) ∈ ([(10, 12), (10, 14), (30, 0)] : List (Nat × Nat)) by decide) eκ19
    (try dsimp only)
    exact kk κ19 hV hfr trivial
set_option maxRecDepth 100000 in
set_option maxHeartbeats 4000000 in
theorem t_X11_setToGo {G : GE} {E : CE} {W : CW} {c : Int} {κ : CS} (hV : CV G E W c κ) (h : Nat) (hs_h : W.1 h = 1) (a1 : Option Nat) (b_a1 : Nat) (e_a1 : a1 = some b_a1) (hs_a1 : W.1 b_a1 = 5) (a2 : Int32) (hz : 0 ≤ a2.toInt ∧ a2.toInt ≤ 1) {post : Int32 → CS → Prop} (kk : ∀ (r : Int32) (κ' : CS), CV G E W c κ' → CF [(5, 3)] W κ κ' → (True) → post r κ') : F_X11_setToGo G h a1 a2 post κ := by
  unfold F_X11_setToGo
  have hfr : CF [(5, 3)] W κ κ := CF.rf
  have k_m1073741567 : ((-1073741567) : Int32).toInt = (-1073741567) := rfl
  have k_m1073741535 : ((-1073741535) : Int32).toInt = (-1073741535) := rfl
  have k_m1 : ((-1) : Int32).toInt = (-1) := rfl
  have k_0 : (0 : Int32).toInt = 0 := rfl
  have k_1 : (1 : Int32).toInt = 1 := rfl
  have kl_m1073741567 : ((-1073741567) : Int64).toInt = (-1073741567) := rfl
  have kl_m1073741535 : ((-1073741535) : Int64).toInt = (-1073741535) := rfl
  have kl_0 : (0 : Int64).toInt = 0 := rfl
  have kl_1 : (1 : Int64).toInt = 1 := rfl
  have rg_a2 := i_range a2
  refine jc_in (fun (x : Unit) (κ' : CS) => κ = κ' ∧ ((True))) (fun x1 κ2 hJ => ?_) (fun K3 hK3 => ?_)
  · obtain ⟨hsg, hv⟩ := hJ
    subst hsg
    (try dsimp only at hv)
    refine jc_dup ?_
    refine ⟨fun c1 => ?_, fun c1 => ?_⟩
    · (try dsimp only)
      refine ⟨by omega, b_a1, e_a1, (hV.mm hs_a1 (by decide) rfl), ?_⟩
      intro κ11 eκ11
      have rv_κ11 := i_range a2
      have hV := hV.uI (k := 3) (v := a2) hs_a1 (Or.inl rfl) (Or.inr (by decide)) (Or.inl (by decide)) (fun _ => (by omega : (0 : Int) ≤ (a2 : Int32).toInt ∧ (a2 : Int32).toInt ≤ 1)) eκ11
      have hfr := hfr.uI (k := 3) hs_a1 (by decide) (show ((5, 3) : Nat × Nat) ∈ ([(5, 3)] : List (Nat × Nat)) by decide) eκ11
      have uκ11 : (sI κ11.1 b_a1 3).toInt = (a2 : Int32).toInt := by rw [eκ11]; exact congrArg Int32.toInt u2_same
      exact kk 0 κ11 hV hfr trivial
    · refine ⟨b_a1, e_a1, (hV.mm hs_a1 (by decide) rfl), ?_⟩
      intro z12 ez12
      have vz12 := hV.1.iv hs_a1 (by decide) rfl 2 0 1 rfl ez12
      have wz12 : z12.toInt = (sI κ.1 b_a1 2).toInt := by rw [ez12]
      refine ⟨fun c2 => ?_, fun c2 => ?_⟩
      · (try dsimp only)
        refine ⟨by omega, b_a1, e_a1, (hV.mm hs_a1 (by decide) rfl), ?_⟩
        intro κ11 eκ11
        have rv_κ11 := i_range a2
        have hV := hV.uI (k := 3) (v := a2) hs_a1 (Or.inl rfl) (Or.inr (by decide)) (Or.inl (by decide)) (fun _ => (by omega : (0 : Int) ≤ (a2 : Int32).toInt ∧ (a2 : Int32).toInt ≤ 1)) eκ11
        have hfr := hfr.uI (k := 3) hs_a1 (by decide) (show ((5, 3) : Nat × Nat) ∈ ([(5, 3)] : List (Nat × Nat)) by decide) eκ11
        have uκ11 : (sI κ11.1 b_a1 3).toInt = (a2 : Int32).toInt := by rw [eκ11]; exact congrArg Int32.toInt u2_same
        exact kk 0 κ11 hV hfr trivial
      · refine ⟨(hV.mm hs_h (by decide) rfl), ?_⟩
        intro z13 ez13
        obtain ⟨bz13, ebz13, hsz13⟩ := hV.1.nn hs_h (by decide) rfl 3 rfl (by decide)
        have ebz13 := ez13.trans ebz13
        refine ⟨b_a1, e_a1, (hV.mm hs_a1 (by decide) rfl), ?_⟩
        intro z14 ez14
        have vz14 := hV.1.iv hs_a1 (by decide) rfl 0 (-2147483648) 2147483647 rfl ez14
        have wz14 : z14.toInt = (sI κ.1 b_a1 0).toInt := by rw [ez14]
        refine ⟨bz13, ebz13, (hV.mm hsz13 (by decide) rfl), ?_⟩
        refine t_X9_holdsAny hV bz13 hsz13 z14  (fun z16 pz16 => ?_)
        have rg_z16 := i_range z16
        refine ⟨fun c3 => ?_, fun c3 => ?_⟩
        · (try dsimp only)
          refine ⟨by omega, b_a1, e_a1, (hV.mm hs_a1 (by decide) rfl), ?_⟩
          intro κ11 eκ11
          have rv_κ11 := i_range a2
          have hV := hV.uI (k := 3) (v := a2) hs_a1 (Or.inl rfl) (Or.inr (by decide)) (Or.inl (by decide)) (fun _ => (by omega : (0 : Int) ≤ (a2 : Int32).toInt ∧ (a2 : Int32).toInt ≤ 1)) eκ11
          have hfr := hfr.uI (k := 3) hs_a1 (by decide) (show ((5, 3) : Nat × Nat) ∈ ([(5, 3)] : List (Nat × Nat)) by decide) eκ11
          have uκ11 : (sI κ11.1 b_a1 3).toInt = (a2 : Int32).toInt := by rw [eκ11]; exact congrArg Int32.toInt u2_same
          exact kk 0 κ11 hV hfr trivial
        · exact kk (-1073741567) κ hV hfr trivial
  · skip
    refine ⟨fun c4 => ?_, fun c4 => ?_⟩
    · exact hK3 () κ ⟨rfl, trivial⟩
    · refine ⟨b_a1, e_a1, (hV.mm hs_a1 (by decide) rfl), ?_⟩
      intro z17 ez17
      have vz17 := hV.1.iv hs_a1 (by decide) rfl 7 (-2147483648) 2147483647 rfl ez17
      have wz17 : z17.toInt = (sI κ.1 b_a1 7).toInt := by rw [ez17]
      intro z18 ez18
      try have hz18 := i_and1 ez18 (by omega)
      have rg_z18 := i_range z18
      refine jc_dup ?_
      refine ⟨fun c5 => ?_, fun c5 => ?_⟩
      · (try dsimp only)
        exact kk (-1073741535) κ hV hfr trivial
      · refine ⟨b_a1, e_a1, (hV.mm hs_a1 (by decide) rfl), ?_⟩
        intro z24 ez24
        have vz24 := hV.1.iv hs_a1 (by decide) rfl 4 (-2147483648) 2147483647 rfl ez24
        have wz24 : z24.toInt = (sI κ.1 b_a1 4).toInt := by rw [ez24]
        refine ⟨fun c6 => ?_, fun c6 => ?_⟩
        · exact hK3 () κ ⟨rfl, trivial⟩
        · (try dsimp only)
          exact kk (-1073741535) κ hV hfr trivial
set_option maxRecDepth 100000 in
set_option maxHeartbeats 4000000 in
theorem t_X11_doAgain {G : GE} {E : CE} {W : CW} {c : Int} {κ : CS} (hV : CV G E W c κ) (h : Nat) (hs_h : W.1 h = 1) (a1 : Option Nat) (b_a1 : Nat) (e_a1 : a1 = some b_a1) (hs_a1 : W.1 b_a1 = 5)  {post : CS → Prop} (kk : ∀ (κ' : CS), CV G E W c κ' → CF [(8, 19)] W κ κ' → (True) → post κ') : F_X11_doAgain G h a1 post κ := by
  unfold F_X11_doAgain
  have hfr : CF [(8, 19)] W κ κ := CF.rf
  have k_0 : (0 : Int32).toInt = 0 := rfl
  have k_1 : (1 : Int32).toInt = 1 := rfl
  have kl_1 : (1 : Int64).toInt = 1 := rfl
  refine lc_in (fun (x : Int32) (κ' : CS) => CV G E W c κ' ∧ CF [(8, 19)] W κ κ' ∧ (((0 ≤ x.toInt)))) (fun (x : Int32) (κ' : CS) => (2147483647 - x.toInt).toNat) ⟨hV, hfr, (by (try dsimp only); omega)⟩ (fun x1 κ2 hJ K3 hK3 => ?_)
  obtain ⟨hV, hfr, hv⟩ := hJ
  (try dsimp only at hv)
  have rg_x1 := i_range x1
  refine ⟨(hV.mm hs_h (by decide) rfl), ?_⟩
  intro z5 ez5
  obtain ⟨bz5, ebz5, hsz5⟩ := hV.1.nn hs_h (by decide) rfl 12 rfl (by decide)
  have ebz5 := ez5.trans ebz5
  refine ⟨bz5, ebz5, (hV.mm hsz5 (by decide) rfl), ?_⟩
  refine t_Jx4a65c_size_8abf5 hV bz5 hsz5 (by decide) (fun z7 pz7 => ?_)
  have rg_z7 := i_range z7
  refine ⟨fun c1 => ?_, fun c1 => ?_⟩
  · exact kk κ2 hV hfr trivial
  · refine ⟨(hV.mm hs_h (by decide) rfl), ?_⟩
    intro z8 ez8
    have ebz8 : z8 = some bz5 := (ez8.trans ez5.symm).trans ebz5
    refine ⟨bz5, ebz8, (hV.mm hsz5 (by decide) rfl), ?_⟩
    refine t_Jx4a65c_get_915e3 hV bz5 hsz5 (by decide) x1 (by omega) (fun z10 pz10 => ?_)
    obtain ⟨bz10, ebz10, hsz10⟩ := pz10
    have hsz10 : W.1 bz10 = 8 := hsz10
    refine ⟨Or.inr ⟨bz10, ebz10, (hV.mm hsz10 (by decide) rfl)⟩, ?_⟩
    refine ⟨bz10, ebz10, (hV.mm hsz10 (by decide) rfl), ?_⟩
    intro z11 ez11
    have vz11 := hV.1.iv hsz10 (by decide) rfl 19 0 1 rfl ez11
    have wz11 : z11.toInt = (sI κ2.1 bz10 19).toInt := by rw [ez11]
    refine jc_dup ?_
    refine jc_dup ?_
    refine ⟨fun c2 => ?_, fun c2 => ?_⟩
    · (try dsimp only)
      (try dsimp only)
      refine ⟨by omega, bz10, ebz10, (hV.mm hsz10 (by decide) rfl), ?_⟩
      intro κ17 eκ17
      have rv_κ17 := i_range 1
      have hV := hV.uI (k := 19) (v := 1) hsz10 (Or.inl rfl) (Or.inl (by decide)) (Or.inl (by decide)) (fun _ => (by omega : (0 : Int) ≤ (1 : Int32).toInt ∧ (1 : Int32).toInt ≤ 1)) eκ17
      have hfr := hfr.uI (k := 19) hsz10 (by decide) (show ((8, 19) : Nat × Nat) ∈ ([(8, 19)] : List (Nat × Nat)) by decide) eκ17
      have uκ17 : (sI κ17.1 bz10 19).toInt = (1 : Int32).toInt := by rw [eκ17]; exact congrArg Int32.toInt u2_same
      intro z18 ez18
      try have hz18 := i_add ez18 (by omega) (by omega)
      have rg_z18 := i_range z18
      exact hK3 z18 κ17 ⟨hV, hfr, (by (try dsimp only); omega)⟩ (by (try dsimp only); omega)
    · refine ⟨bz10, ebz10, (hV.mm hsz10 (by decide) rfl), ?_⟩
      intro z24 ez24
      have nz24 := hV.1.nl hsz10 (by decide) rfl 17 rfl (by decide)
      rw [← ez24] at nz24
      refine jc_dup ?_
      refine ⟨fun c3 => ?_, fun c3 => ?_⟩
      · (try dsimp only)
        (try dsimp only)
        refine ⟨by omega, bz10, ebz10, (hV.mm hsz10 (by decide) rfl), ?_⟩
        intro κ17 eκ17
        have rv_κ17 := i_range 0
        have hV := hV.uI (k := 19) (v := 0) hsz10 (Or.inl rfl) (Or.inl (by decide)) (Or.inl (by decide)) (fun _ => (by omega : (0 : Int) ≤ (0 : Int32).toInt ∧ (0 : Int32).toInt ≤ 1)) eκ17
        have hfr := hfr.uI (k := 19) hsz10 (by decide) (show ((8, 19) : Nat × Nat) ∈ ([(8, 19)] : List (Nat × Nat)) by decide) eκ17
        have uκ17 : (sI κ17.1 bz10 19).toInt = (0 : Int32).toInt := by rw [eκ17]; exact congrArg Int32.toInt u2_same
        intro z18 ez18
        try have hz18 := i_add ez18 (by omega) (by omega)
        have rg_z18 := i_range z18
        exact hK3 z18 κ17 ⟨hV, hfr, (by (try dsimp only); omega)⟩ (by (try dsimp only); omega)
      · obtain ⟨bn1, ebn1, hsn1⟩ := nz24.resolve_left c3
        refine ⟨bz10, ebz10, (hV.mm hsz10 (by decide) rfl), ?_⟩
        intro z30 ez30
        have nz30 := hV.1.nl hsz10 (by decide) rfl 18 rfl (by decide)
        rw [← ez30] at nz30
        refine ⟨fun c4 => ?_, fun c4 => ?_⟩
        · (try dsimp only)
          (try dsimp only)
          refine ⟨by omega, bz10, ebz10, (hV.mm hsz10 (by decide) rfl), ?_⟩
          intro κ17 eκ17
          have rv_κ17 := i_range 0
          have hV := hV.uI (k := 19) (v := 0) hsz10 (Or.inl rfl) (Or.inl (by decide)) (Or.inl (by decide)) (fun _ => (by omega : (0 : Int) ≤ (0 : Int32).toInt ∧ (0 : Int32).toInt ≤ 1)) eκ17
          have hfr := hfr.uI (k := 19) hsz10 (by decide) (show ((8, 19) : Nat × Nat) ∈ ([(8, 19)] : List (Nat × Nat)) by decide) eκ17
          have uκ17 : (sI κ17.1 bz10 19).toInt = (0 : Int32).toInt := by rw [eκ17]; exact congrArg Int32.toInt u2_same
          intro z18 ez18
          try have hz18 := i_add ez18 (by omega) (by omega)
          have rg_z18 := i_range z18
          exact hK3 z18 κ17 ⟨hV, hfr, (by (try dsimp only); omega)⟩ (by (try dsimp only); omega)
        · (try dsimp only)
          (try dsimp only)
          refine ⟨by omega, bz10, ebz10, (hV.mm hsz10 (by decide) rfl), ?_⟩
          intro κ17 eκ17
          have rv_κ17 := i_range 1
          have hV := hV.uI (k := 19) (v := 1) hsz10 (Or.inl rfl) (Or.inl (by decide)) (Or.inl (by decide)) (fun _ => (by omega : (0 : Int) ≤ (1 : Int32).toInt ∧ (1 : Int32).toInt ≤ 1)) eκ17
          have hfr := hfr.uI (k := 19) hsz10 (by decide) (show ((8, 19) : Nat × Nat) ∈ ([(8, 19)] : List (Nat × Nat)) by decide) eκ17
          have uκ17 : (sI κ17.1 bz10 19).toInt = (1 : Int32).toInt := by rw [eκ17]; exact congrArg Int32.toInt u2_same
          intro z18 ez18
          try have hz18 := i_add ez18 (by omega) (by omega)
          have rg_z18 := i_range z18
          exact hK3 z18 κ17 ⟨hV, hfr, (by (try dsimp only); omega)⟩ (by (try dsimp only); omega)
set_option maxRecDepth 100000 in
set_option maxHeartbeats 4000000 in
theorem t_X11_endBreak {G : GE} {E : CE} {W : CW} {c : Int} {κ : CS} (hV : CV G E W c κ) (h : Nat) (hs_h : W.1 h = 1) (a1 : Option Nat) (b_a1 : Nat) (e_a1 : a1 = some b_a1) (hs_a1 : W.1 b_a1 = 10) (a2 : Int32)  {post : CS → Prop} (kk : ∀ (κ' : CS), CV G E W c κ' → CF [(10, 7), (10, 8), (8, 19)] W κ κ' → (True) → post κ') : F_X11_endBreak G h a1 a2 post κ := by
  unfold F_X11_endBreak
  have hfr : CF [(10, 7), (10, 8), (8, 19)] W κ κ := CF.rf
  have k_0 : (0 : Int32).toInt = 0 := rfl
  have rg_a2 := i_range a2
  refine ⟨b_a1, e_a1, (hV.mm hs_a1 (by decide) rfl), ?_⟩
  intro κ1 eκ1
  have rv_κ1 := i_range a2
  have hV := hV.uI (k := 7) (v := a2) hs_a1 (Or.inl rfl) (Or.inl (by decide)) (Or.inl (by decide)) (fun _ => (by omega : (-2147483648 : Int) ≤ (a2 : Int32).toInt ∧ (a2 : Int32).toInt ≤ 2147483647)) eκ1
  have hfr := hfr.uI (k := 7) hs_a1 (by decide) (show ((10, 7) : Nat × Nat) ∈ ([(10, 7), (10, 8), (8, 19)] : List (Nat × Nat)) by decide) eκ1
  have uκ1 : (sI κ1.1 b_a1 7).toInt = (a2 : Int32).toInt := by rw [eκ1]; exact congrArg Int32.toInt u2_same
  refine ⟨by omega, b_a1, e_a1, (hV.mm hs_a1 (by decide) rfl), ?_⟩
  intro κ2 eκ2
  have rv_κ2 := i_range 0
  have hV := hV.uI (k := 8) (v := 0) hs_a1 (Or.inl rfl) (Or.inl (by decide)) (Or.inl (by decide)) (fun _ => (by omega : (0 : Int) ≤ (0 : Int32).toInt ∧ (0 : Int32).toInt ≤ 1)) eκ2
  have hfr := hfr.uI (k := 8) hs_a1 (by decide) (show ((10, 8) : Nat × Nat) ∈ ([(10, 7), (10, 8), (8, 19)] : List (Nat × Nat)) by decide) eκ2
  have uκ2 : (sI κ2.1 b_a1 8).toInt = (0 : Int32).toInt := by rw [eκ2]; exact congrArg Int32.toInt u2_same
  refine ⟨b_a1, e_a1, (hV.mm hs_a1 (by decide) rfl), ?_⟩
  intro z3 ez3
  obtain ⟨bz3, ebz3, hsz3⟩ := hV.1.nn hs_a1 (by decide) rfl 2 rfl (by decide)
  have ebz3 := ez3.trans ebz3
  refine ⟨(hV.mm hs_h (by decide) rfl), ?_⟩
  refine t_X11_doAgain hV h hs_h z3 bz3 ebz3 hsz3  (fun κ4 hV fκ4 pu1 => ?_)
  have hfr := hfr.tr fκ4 (by decide)
  exact kk κ4 hV hfr trivial
set_option maxRecDepth 100000 in
set_option maxHeartbeats 4000000 in
theorem t_X11_nextSerial {G : GE} {E : CE} {W : CW} {c : Int} {κ : CS} (hV : CV G E W c κ) (h : Nat) (hs_h : W.1 h = 1) (a1 : Int32)  {post : Int64 → CS → Prop} (kk : ∀ (r : Int64) (κ' : CS), CV G E W c κ' → CF [(33, 0)] W κ κ' → (True) → post r κ') : F_X11_nextSerial G h a1 post κ := by
  unfold F_X11_nextSerial
  have hfr : CF [(33, 0)] W κ κ := CF.rf
  have k_m1 : ((-1) : Int32).toInt = (-1) := rfl
  have k_0 : (0 : Int32).toInt = 0 := rfl
  have k_1 : (1 : Int32).toInt = 1 := rfl
  have kl_m1 : ((-1) : Int64).toInt = (-1) := rfl
  have kl_1 : (1 : Int64).toInt = 1 := rfl
  have rg_a1 := i_range a1
  refine jc_dup ?_
  refine ⟨fun c1 => ?_, fun c1 => ?_⟩
  · (try dsimp only)
    exact kk (-1) κ hV hfr trivial
  · refine ⟨(hV.mm hs_h (by decide) rfl), ?_⟩
    intro z6 ez6
    obtain ⟨bz6, ebz6, hsz6⟩ := hV.1.nn hs_h (by decide) rfl 13 rfl (by decide)
    have ebz6 := ez6.trans ebz6
    refine ⟨(W.2 bz6), (AL.of hV ebz6 hsz6 (by decide) rfl (by decide)), ?_⟩
    intro z7 ez7
    have lnz7 := nI_ln ez7 (hV.lm hsz6 (by decide) rfl)
    have lmz7 := (hV.lm hsz6 (by decide) rfl)
    have lxz7 := hV.1.fx hsz6 (by decide) rfl 4 rfl (by decide)
    refine ⟨fun c2 => ?_, fun c2 => ?_⟩
    · refine ⟨(hV.mm hs_h (by decide) rfl), ?_⟩
      intro z8 ez8
      have ebz8 : z8 = some bz6 := (ez8.trans ez6.symm).trans ebz6
      have ln_ := hV.ln hsz6 (by decide) rfl
      have lx_ := hV.1.fx hsz6 (by decide) rfl 4 rfl (by decide)
      refine ⟨bz6, ebz8, (hV.mm hsz6 (by decide) rfl), by omega, ?_⟩
      intro z9 ez9
      have rg_z9 := l_range z9
      intro z10 ez10
      try have hz10 := l_add ez10 (by omega) (by omega)
      have rg_z10 := l_range z10
      have ln_ := hV.ln hsz6 (by decide) rfl
      have lx_ := hV.1.fx hsz6 (by decide) rfl 4 rfl (by decide)
      refine ⟨bz6, ebz8, (hV.mm hsz6 (by decide) rfl), by omega, ?_⟩
      intro κ11 eκ11
      have hV := hV.uJ eκ11
      have hfr := hfr.uJ (k := a1.toInt.toNat) hsz6 (by decide) (show ((33, 0) : Nat × Nat) ∈ ([(33, 0)] : List (Nat × Nat)) by decide) eκ11
      refine ⟨(hV.mm hs_h (by decide) rfl), ?_⟩
      intro z12 ez12
      have ebz12 : z12 = some bz6 := (ez12.trans (hfr.1 h (by rw [hs_h]; decide) 13 (by rw [hs_h]; decide)).2.2).trans (ez6.symm.trans ebz6)
      have ln_ := hV.ln hsz6 (by decide) rfl
      have lx_ := hV.1.fx hsz6 (by decide) rfl 4 rfl (by decide)
      refine ⟨bz6, ebz12, (hV.mm hsz6 (by decide) rfl), by omega, ?_⟩
      intro z13 ez13
      have rg_z13 := l_range z13
      exact kk z13 κ11 hV hfr trivial
    · (try dsimp only)
      exact kk (-1) κ hV hfr trivial

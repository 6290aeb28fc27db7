/-! the class: pure leaves -/
theorem n_x63 {x : Nat} (h : x < 2 ^ 63) : x ^^^ 2 ^ 63 = 2 ^ 63 + x := by
  apply Nat.eq_of_testBit_eq
  intro j
  rw [Nat.testBit_xor]
  rcases Nat.lt_trichotomy j 63 with c | c | c
  · rw [Nat.testBit_two_pow_add_gt c, Nat.testBit_two_pow_of_ne (by omega)]
    simp
  · subst c
    rw [Nat.testBit_two_pow_add_eq, Nat.testBit_two_pow_self]
    simp
  · rw [Nat.testBit_two_pow_of_ne (by omega)]
    have h1 : x < 2 ^ j := Nat.lt_of_lt_of_le h (Nat.pow_le_pow_right (by decide) (by omega))
    have h2 : 2 ^ 63 + x < 2 ^ j := Nat.lt_of_lt_of_le (show 2 ^ 63 + x < 2 ^ 64 by omega) (Nat.pow_le_pow_right (by decide) (by omega))
    rw [Nat.testBit_lt_two_pow h1, Nat.testBit_lt_two_pow h2]
    rfl
theorem n_x63' {x : Nat} (h : 2 ^ 63 ≤ x) (h2 : x < 2 ^ 64) : x ^^^ 2 ^ 63 = x - 2 ^ 63 := by
  have e := n_x63 (x := x - 2 ^ 63) (by omega)
  have e2 : 2 ^ 63 + (x - 2 ^ 63) = x := by omega
  rw [e2] at e
  rw [← e, Nat.xor_assoc, Nat.xor_self, Nat.xor_zero, e]
theorem l_xmin {a z : Int64} (h : z = a ^^^ (-9223372036854775808)) : (0 ≤ a.toInt → z.toInt = a.toInt - 9223372036854775808) ∧ (a.toInt < 0 → z.toInt = a.toInt + 9223372036854775808) := by
  have ti : ∀ x : Int64, x.toInt = if 2 * x.toBitVec.toNat < 2 ^ 64 then (x.toBitVec.toNat : Int) else (x.toBitVec.toNat : Int) - ((2 ^ 64 : Nat) : Int) := fun x => BitVec.toInt_eq_toNat_cond x.toBitVec
  have e : z.toBitVec.toNat = a.toBitVec.toNat ^^^ 2 ^ 63 := by
    rw [h, Int64.toBitVec_xor, BitVec.toNat_xor]
    rfl
  have la : a.toBitVec.toNat < 2 ^ 64 := a.toBitVec.isLt
  have t1 := ti a
  have t2 := ti z
  rcases Nat.lt_or_ge a.toBitVec.toNat (2 ^ 63) with c | c
  · rw [n_x63 c] at e
    rw [if_pos (by omega)] at t1
    rw [if_neg (by omega)] at t2
    omega
  · rw [n_x63' c la] at e
    rw [if_neg (by omega)] at t1
    rw [if_pos (by omega)] at t2
    omega
set_option maxRecDepth 100000 in
set_option maxHeartbeats 4000000 in
theorem t_X6_number {G : GE} {E : CE} {W : CW} {c : Int} {κ : CS} (hV : CV G E W c κ) (h : Nat) {rr : Nat} (hs_h : W.1 h = rr) (hrr : isRw rr = true) (a1 : Int32) (a2 : Int32)  {post : Int64 → CS → Prop} (kk : ∀ r : Int64, (True) → post r κ) : F_X6_number G h a1 a2 post κ := by
  unfold F_X6_number
  have k_m1 : ((-1) : Int32).toInt = (-1) := rfl
  have k_0 : (0 : Int32).toInt = 0 := rfl
  have k_1 : (1 : Int32).toInt = 1 := rfl
  have k_8 : (8 : Int32).toInt = 8 := rfl
  have k_255 : (255 : Int32).toInt = 255 := rfl
  have kl_m1 : ((-1) : Int64).toInt = (-1) := rfl
  have kl_0 : (0 : Int64).toInt = 0 := rfl
  have kl_1 : (1 : Int64).toInt = 1 := rfl
  have kl_8 : (8 : Int64).toInt = 8 := rfl
  have kl_255 : (255 : Int64).toInt = 255 := rfl
  have rg_a1 := i_range a1
  have rg_a2 := i_range a2
  intro z1 ez1
  try have hz1 := i_sub ez1 (by omega) (by omega)
  have rg_z1 := i_range z1
  refine lc_in (fun (x : Int32 × Int64) (κ' : CS) => κ = κ' ∧ ((True))) (fun (x : Int32 × Int64) (_ : CS) => (x.1.toInt + 2147483648).toNat) ⟨rfl, trivial⟩ (fun x2 κ3 hJ K4 hK4 => ?_)
  obtain ⟨hsg, hv⟩ := hJ
  subst hsg
  (try dsimp only at hv)
  have rg_x2_1 := i_range x2.1
  have rg_x2_2 := l_range x2.2
  refine ⟨fun c1 => ?_, fun c1 => ?_⟩
  · exact kk x2.2 trivial
  · intro z6 ez6
    try have hz6 := i_add ez6 (by omega) (by omega)
    have rg_z6 := i_range z6
    intro z7 ez7
    have rg_z7 := l_range z7
    refine jc_dup ?_
    refine ⟨fun c2 => ?_, fun c2 => ?_⟩
    · (try dsimp only)
      intro z13 ez13
      try have hz13 := i_add ez13 (by omega) (by omega)
      have rg_z13 := i_range z13
      exact hK4 (z13, z7) κ ⟨rfl, trivial⟩ (by (try dsimp only); omega)
    · refine ⟨(hV.mm hs_h (rw_ne hrr) (rw_k hrr)), ?_⟩
      intro z14 ez14
      have vz14 := hV.rwI hs_h hrr ez14
      have wz14 : z14.toInt = (sI κ.1 h 1).toInt := by rw [ez14]
      refine ⟨fun c3 => ?_, fun c3 => ?_⟩
      · (try dsimp only)
        intro z13 ez13
        try have hz13 := i_add ez13 (by omega) (by omega)
        have rg_z13 := i_range z13
        exact hK4 (z13, z7) κ ⟨rfl, trivial⟩ (by (try dsimp only); omega)
      · refine ⟨(hV.mm hs_h (rw_ne hrr) (rw_k hrr)), ?_⟩
        intro z15 ez15
        obtain ⟨bz15, ebz15, hsz15⟩ := hV.1.nn hs_h (rw_ne hrr) (rw_ob hrr) 0 (rw_t hrr) (by decide)
        rw [← ez15] at ebz15
        refine ⟨(W.2 bz15), (AL.of hV ebz15 hsz15 (by decide) rfl (by decide)), ?_⟩
        intro z16 ez16
        have lnz16 := nI_ln ez16 (hV.lm hsz15 (by decide) rfl)
        have lmz16 := (hV.lm hsz15 (by decide) rfl)
        refine ⟨fun c4 => ?_, fun c4 => ?_⟩
        · (try dsimp only)
          intro z13 ez13
          try have hz13 := i_add ez13 (by omega) (by omega)
          have rg_z13 := i_range z13
          exact hK4 (z13, z7) κ ⟨rfl, trivial⟩ (by (try dsimp only); omega)
        · refine ⟨(hV.mm hs_h (rw_ne hrr) (rw_k hrr)), ?_⟩
          intro z17 ez17
          have ebz17 : z17 = some bz15 := (ez17.trans ez15.symm).trans ebz15
          refine ⟨(sI κ.1 bz15), (W.2 bz15), (BA.of hV ebz17 hsz15 (by decide) rfl rfl), (by omega), ?_⟩
          intro z18 ez18
          have vz18 : -128 ≤ z18.toInt ∧ z18.toInt ≤ 127 := by rw [ez18]; exact (fun i hi => (hV.1.el hsz15 (by decide) rfl i hi).1) _ (by omega)
          intro z19 ez19
          try have hz19 := i_and ez19 (by omega)
          have rg_z19 := i_range z19
          intro z20 ez20
          have hz20 := i_tol ez20
          have rg_z20 := l_range z20
          intro z21 ez21
          have rg_z21 := l_range z21
          (try dsimp only)
          intro z13 ez13
          try have hz13 := i_add ez13 (by omega) (by omega)
          have rg_z13 := i_range z13
          exact hK4 (z13, z21) κ ⟨rfl, trivial⟩ (by (try dsimp only); omega)
set_option maxRecDepth 100000 in
set_option maxHeartbeats 4000000 in
theorem t_X11_below {G : GE} {E : CE} {W : CW} {c : Int} {κ : CS} (hV : CV G E W c κ) (a0 : Int64) (a2 : Int64)  {post : Int32 → CS → Prop} (kk : ∀ r : Int32, ((0 ≤ r.toInt ∧ r.toInt ≤ 1) ∧ (r.toInt ≠ 0 → 0 ≤ a2.toInt → 0 ≤ a0.toInt ∧ a0.toInt < a2.toInt)) → post r κ) : F_X11_below G a0 a2 post κ := by
  unfold F_X11_below
  have k_0 : (0 : Int32).toInt = 0 := rfl
  have k_1 : (1 : Int32).toInt = 1 := rfl
  have kl_m9223372036854775808 : ((-9223372036854775808) : Int64).toInt = (-9223372036854775808) := rfl
  have rg_a0 := l_range a0
  have rg_a2 := l_range a2
  intro z1 ez1
  have hz1 := l_xmin ez1
  have rg_z1 := l_range z1
  intro z2 ez2
  have hz2 := l_xmin ez2
  have rg_z2 := l_range z2
  refine jc_dup ?_
  refine ⟨fun c1 => ?_, fun c1 => ?_⟩
  · (try dsimp only)
    refine ⟨by omega, ?_⟩
    exact kk 0 ⟨by omega, fun _ _ => by omega⟩
  · (try dsimp only)
    refine ⟨by omega, ?_⟩
    exact kk 1 ⟨by omega, fun _ _ => by omega⟩
set_option maxRecDepth 100000 in
set_option maxHeartbeats 4000000 in
theorem t_X0_related {G : GE} {E : CE} {W : CW} {c : Int} {κ : CS} (hV : CV G E W c κ) (h : Nat) (hs_h : W.1 h = 8)  {post : Int32 → CS → Prop} (kk : ∀ r : Int32, (0 ≤ r.toInt ∧ r.toInt ≤ 1) → post r κ) : F_X0_related G h post κ := by
  unfold F_X0_related
  have k_0 : (0 : Int32).toInt = 0 := rfl
  have k_1 : (1 : Int32).toInt = 1 := rfl
  have k_4 : (4 : Int32).toInt = 4 := rfl
  have kl_0 : (0 : Int64).toInt = 0 := rfl
  have kl_4 : (4 : Int64).toInt = 4 := rfl
  refine ⟨(hV.mm hs_h (by decide) rfl), ?_⟩
  intro z1 ez1
  have vz1 := l_range z1
  have wz1 : z1.toInt = (sJ κ.1 h 7).toInt := by rw [ez1]
  intro z2 ez2
  try have hz2 := l_and ez2 (by omega)
  have rg_z2 := l_range z2
  refine jc_dup ?_
  refine ⟨fun c1 => ?_, fun c1 => ?_⟩
  · (try dsimp only)
    refine ⟨by omega, ?_⟩
    exact kk 0 (by omega)
  · (try dsimp only)
    refine ⟨by omega, ?_⟩
    exact kk 1 (by omega)
set_option maxRecDepth 100000 in
set_option maxHeartbeats 4000000 in
theorem t_X0_last {G : GE} {E : CE} {W : CW} {c : Int} {κ : CS} (hV : CV G E W c κ) (h : Nat) (hs_h : W.1 h = 8)  {post : Int32 → CS → Prop} (kk : ∀ r : Int32, (0 ≤ r.toInt ∧ r.toInt ≤ 1) → post r κ) : F_X0_last G h post κ := by
  unfold F_X0_last
  have k_0 : (0 : Int32).toInt = 0 := rfl
  have k_1 : (1 : Int32).toInt = 1 := rfl
  have kl_0 : (0 : Int64).toInt = 0 := rfl
  refine ⟨(hV.mm hs_h (by decide) rfl), ?_⟩
  intro z1 ez1
  have vz1 := l_range z1
  have wz1 : z1.toInt = (sJ κ.1 h 3).toInt := by rw [ez1]
  refine jc_dup ?_
  refine ⟨fun c1 => ?_, fun c1 => ?_⟩
  · (try dsimp only)
    refine ⟨by omega, ?_⟩
    exact kk 0 (by omega)
  · (try dsimp only)
    refine ⟨by omega, ?_⟩
    exact kk 1 (by omega)
set_option maxRecDepth 100000 in
set_option maxHeartbeats 4000000 in
theorem t_X0_number {G : GE} {E : CE} {W : CW} {c : Int} {κ : CS} (hV : CV G E W c κ) (h : Nat) (hs_h : W.1 h = 8) (a1 : Int32) (a2 : Int32)  {post : Int64 → CS → Prop} (kk : ∀ r : Int64, (True) → post r κ) : F_X0_number G h a1 a2 post κ := by
  unfold F_X0_number
  have k_0 : (0 : Int32).toInt = 0 := rfl
  have rg_a1 := i_range a1
  have rg_a2 := i_range a2
  refine ⟨(hV.mm hs_h (by decide) rfl), ?_⟩
  intro z1 ez1
  obtain ⟨bz1, ebz1, hsz1⟩ := hV.1.nn hs_h (by decide) rfl 0 rfl (by decide)
  rw [← ez1] at ebz1
  refine ⟨bz1, ebz1, (hV.mm hsz1 (by decide) rfl), ?_⟩
  intro z2 ez2
  obtain ⟨bz2, ebz2, hsz2⟩ := hV.1.nn hsz1 (by decide) rfl 2 rfl (by decide)
  rw [← ez2] at ebz2
  refine ⟨(hV.mm hs_h (by decide) rfl), ?_⟩
  intro z3 ez3
  have vz3 := hV.1.iv hs_h (by decide) rfl 1 (-2147483648) 2147483647 rfl ez3
  have wz3 : z3.toInt = (sI κ.1 h 1).toInt := by rw [ez3]
  intro z4 ez4
  try have hz4 := i_add ez4 (by omega) (by omega)
  have rg_z4 := i_range z4
  refine ⟨bz2, ebz2, (hV.mm hsz2 (by decide) rfl), ?_⟩
  refine t_X6_number hV bz2 hsz2 (by rfl) z4 a2  (fun z6 pz6 => ?_)
  have rg_z6 := l_range z6
  exact kk z6 trivial
set_option maxRecDepth 100000 in
set_option maxHeartbeats 4000000 in
theorem t_X0_holds {G : GE} {E : CE} {W : CW} {c : Int} {κ : CS} (hV : CV G E W c κ) (h : Nat) (hs_h : W.1 h = 8) (a1 : Int64) (a3 : Int64)  {post : Int32 → CS → Prop} (kk : ∀ r : Int32, (0 ≤ r.toInt ∧ r.toInt ≤ 1) → post r κ) : F_X0_holds G h a1 a3 post κ := by
  unfold F_X0_holds
  have k_0 : (0 : Int32).toInt = 0 := rfl
  have k_1 : (1 : Int32).toInt = 1 := rfl
  have kl_0 : (0 : Int64).toInt = 0 := rfl
  have kl_64 : (64 : Int64).toInt = 64 := rfl
  have rg_a1 := l_range a1
  have rg_a3 := l_range a3
  refine jc_dup ?_
  refine jc_dup ?_
  refine ⟨fun c1 => ?_, fun c1 => ?_⟩
  · (try dsimp only)
    (try dsimp only)
    refine ⟨by omega, ?_⟩
    exact kk 1 (by omega)
  · refine jc_dup ?_
    refine ⟨fun c2 => ?_, fun c2 => ?_⟩
    · (try dsimp only)
      (try dsimp only)
      refine ⟨by omega, ?_⟩
      exact kk 0 (by omega)
    · intro z16 ez16
      try have hz16 := l_add ez16 (by omega) (by omega)
      have rg_z16 := l_range z16
      refine ⟨(hV.mm hs_h (by decide) rfl), ?_⟩
      intro z17 ez17
      have vz17 := hV.1.iv hs_h (by decide) rfl 2 (-2147483648) 2147483647 rfl ez17
      have wz17 : z17.toInt = (sI κ.1 h 2).toInt := by rw [ez17]
      intro z18 ez18
      have hz18 := i_tol ez18
      have rg_z18 := l_range z18
      refine ⟨fun c3 => ?_, fun c3 => ?_⟩
      · (try dsimp only)
        (try dsimp only)
        refine ⟨by omega, ?_⟩
        exact kk 0 (by omega)
      · (try dsimp only)
        (try dsimp only)
        refine ⟨by omega, ?_⟩
        exact kk 1 (by omega)
set_option maxRecDepth 100000 in
set_option maxHeartbeats 4000000 in
theorem t_X3_meets {G : GE} {E : CE} {W : CW} {c : Int} {κ : CS} (hV : CV G E W c κ) (h : Nat) (hs_h : W.1 h = 9) (a1 : Int64) (a3 : Int64)  {post : Int32 → CS → Prop} (kk : ∀ r : Int32, (0 ≤ r.toInt ∧ r.toInt ≤ 1) → post r κ) : F_X3_meets G h a1 a3 post κ := by
  unfold F_X3_meets
  have k_0 : (0 : Int32).toInt = 0 := rfl
  have k_1 : (1 : Int32).toInt = 1 := rfl
  have kl_0 : (0 : Int64).toInt = 0 := rfl
  have kl_1 : (1 : Int64).toInt = 1 := rfl
  have rg_a1 := l_range a1
  have rg_a3 := l_range a3
  refine ⟨(hV.mm hs_h (by decide) rfl), ?_⟩
  intro z1 ez1
  have vz1 := l_range z1
  have wz1 : z1.toInt = (sJ κ.1 h 2).toInt := by rw [ez1]
  refine jc_dup ?_
  refine ⟨fun c1 => ?_, fun c1 => ?_⟩
  · (try dsimp only)
    refine ⟨by omega, ?_⟩
    exact kk 0 (by omega)
  · refine ⟨fun c2 => ?_, fun c2 => ?_⟩
    · intro z7 ez7
      try have hz7 := l_add ez7 (by omega) (by omega)
      have rg_z7 := l_range z7
      intro z8 ez8
      try have hz8 := l_sub ez8 (by omega) (by omega)
      have rg_z8 := l_range z8
      refine t_X11_below hV z8 a1  (fun z10 pz10 => ?_)
      have rg_z10 := i_range z10
      refine ⟨(hV.mm hs_h (by decide) rfl), ?_⟩
      intro z11 ez11
      have vz11 := l_range z11
      have wz11 : z11.toInt = (sJ κ.1 h 1).toInt := by rw [ez11]
      refine ⟨(hV.mm hs_h (by decide) rfl), ?_⟩
      intro z12 ez12
      have vz12 := l_range z12
      have wz12 : z12.toInt = (sJ κ.1 h 2).toInt := by rw [ez12]
      intro z13 ez13
      try have hz13 := l_add ez13 (by omega) (by omega)
      have rg_z13 := l_range z13
      intro z14 ez14
      try have hz14 := l_sub ez14 (by omega) (by omega)
      have rg_z14 := l_range z14
      refine t_X11_below hV z14 a1  (fun z16 pz16 => ?_)
      have rg_z16 := i_range z16
      refine jc_dup ?_
      refine jc_dup ?_
      refine ⟨fun c3 => ?_, fun c3 => ?_⟩
      · (try dsimp only)
        (try dsimp only)
        refine ⟨by omega, ?_⟩
        exact kk 0 (by omega)
      · refine jc_dup ?_
        refine ⟨fun c4 => ?_, fun c4 => ?_⟩
        · (try dsimp only)
          (try dsimp only)
          refine ⟨by omega, ?_⟩
          exact kk 1 (by omega)
        · refine ⟨(hV.mm hs_h (by decide) rfl), ?_⟩
          intro z32 ez32
          have vz32 := l_range z32
          have wz32 : z32.toInt = (sJ κ.1 h 1).toInt := by rw [ez32]
          refine t_X11_below hV z8 z32  (fun z34 pz34 => ?_)
          have rg_z34 := i_range z34
          refine ⟨fun c5 => ?_, fun c5 => ?_⟩
          · (try dsimp only)
            (try dsimp only)
            refine ⟨by omega, ?_⟩
            exact kk 0 (by omega)
          · (try dsimp only)
            (try dsimp only)
            refine ⟨by omega, ?_⟩
            exact kk 1 (by omega)
    · (try dsimp only)
      refine ⟨by omega, ?_⟩
      exact kk 0 (by omega)
set_option maxRecDepth 100000 in
set_option maxHeartbeats 4000000 in
theorem t_X4_toldAttributes {G : GE} {E : CE} {W : CW} {c : Int} {κ : CS} (hV : CV G E W c κ) (h : Nat) (hs_h : W.1 h = 5)  {post : Int32 → CS → Prop} (kk : ∀ r : Int32, (True) → post r κ) : F_X4_toldAttributes G h post κ := by
  unfold F_X4_toldAttributes
  have k_0 : (0 : Int32).toInt = 0 := rfl
  have k_16 : (16 : Int32).toInt = 16 := rfl
  have k_128 : (128 : Int32).toInt = 128 := rfl
  refine ⟨(hV.mm hs_h (by decide) rfl), ?_⟩
  intro z1 ez1
  have vz1 := hV.1.iv hs_h (by decide) rfl 7 (-2147483648) 2147483647 rfl ez1
  have wz1 : z1.toInt = (sI κ.1 h 7).toInt := by rw [ez1]
  refine ⟨(hV.mm hs_h (by decide) rfl), ?_⟩
  intro z2 ez2
  have vz2 := hV.1.iv hs_h (by decide) rfl 2 0 1 rfl ez2
  have wz2 : z2.toInt = (sI κ.1 h 2).toInt := by rw [ez2]
  refine jc_dup ?_
  refine ⟨fun c1 => ?_, fun c1 => ?_⟩
  · (try dsimp only)
    intro z8 ez8
    try have hz8 := i_orm ez8 (by omega) (by omega)
    try have h2z8 := i_or ez8 (by omega) (by omega)
    have rg_z8 := i_range z8
    refine jc_dup ?_
    refine ⟨fun c2 => ?_, fun c2 => ?_⟩
    · (try dsimp only)
      exact kk z8 trivial
    · (try dsimp only)
      exact kk 128 trivial
  · (try dsimp only)
    intro z8 ez8
    try have hz8 := i_orm ez8 (by omega) (by omega)
    try have h2z8 := i_or ez8 (by omega) (by omega)
    have rg_z8 := i_range z8
    refine jc_dup ?_
    refine ⟨fun c3 => ?_, fun c3 => ?_⟩
    · (try dsimp only)
      exact kk z8 trivial
    · (try dsimp only)
      exact kk 128 trivial
set_option maxRecDepth 100000 in
set_option maxHeartbeats 4000000 in
theorem t_X4_room {G : GE} {E : CE} {W : CW} {c : Int} {κ : CS} (hV : CV G E W c κ) (h : Nat) (hs_h : W.1 h = 5)  {post : Int32 → CS → Prop} (kk : ∀ r : Int32, (True) → post r κ) : F_X4_room G h post κ := by
  unfold F_X4_room
  have k_0 : (0 : Int32).toInt = 0 := rfl
  have k_511 : (511 : Int32).toInt = 511 := rfl
  have k_512 : (512 : Int32).toInt = 512 := rfl
  have kl_511 : (511 : Int64).toInt = 511 := rfl
  have kl_512 : (512 : Int64).toInt = 512 := rfl
  refine ⟨(hV.mm hs_h (by decide) rfl), ?_⟩
  intro z1 ez1
  have vz1 := hV.1.iv hs_h (by decide) rfl 12 0 4096 rfl ez1
  have wz1 : z1.toInt = (sI κ.1 h 12).toInt := by rw [ez1]
  intro z2 ez2
  try have hz2 := i_add ez2 (by omega) (by omega)
  have rg_z2 := i_range z2
  refine ⟨(hV.mm hs_h (by decide) rfl), ?_⟩
  intro z3 ez3
  have vz3 := hV.1.iv hs_h (by decide) rfl 12 0 4096 rfl ez3
  have wz3 : z3.toInt = (sI κ.1 h 12).toInt := by rw [ez3]
  intro z4 ez4
  try have hz4 := i_add ez4 (by omega) (by omega)
  have rg_z4 := i_range z4
  intro z5 ez5
  try have hz5 := i_rem 512 rfl ez5 (by omega) (by omega)
  have rg_z5 := i_range z5
  intro z6 ez6
  try have hz6 := i_sub ez6 (by omega) (by omega)
  have rg_z6 := i_range z6
  exact kk z6 trivial
set_option maxRecDepth 100000 in
set_option maxHeartbeats 4000000 in
theorem t_X4_byteAt {G : GE} {E : CE} {W : CW} {c : Int} {κ : CS} (hV : CV G E W c κ) (h : Nat) (hs_h : W.1 h = 5) (a1 : Int32)  {post : Int32 → CS → Prop} (kk : ∀ r : Int32, (True) → post r κ) : F_X4_byteAt G h a1 post κ := by
  unfold F_X4_byteAt
  have k_0 : (0 : Int32).toInt = 0 := rfl
  have rg_a1 := i_range a1
  refine jc_dup ?_
  refine jc_dup ?_
  refine ⟨fun c1 => ?_, fun c1 => ?_⟩
  · (try dsimp only)
    (try dsimp only)
    exact kk 0 trivial
  · refine ⟨(hV.mm hs_h (by decide) rfl), ?_⟩
    intro z11 ez11
    have vz11 := hV.1.iv hs_h (by decide) rfl 12 0 4096 rfl ez11
    have wz11 : z11.toInt = (sI κ.1 h 12).toInt := by rw [ez11]
    refine ⟨fun c2 => ?_, fun c2 => ?_⟩
    · (try dsimp only)
      (try dsimp only)
      exact kk 0 trivial
    · refine ⟨(hV.mm hs_h (by decide) rfl), ?_⟩
      intro z12 ez12
      obtain ⟨bz12, ebz12, hsz12⟩ := hV.1.nn hs_h (by decide) rfl 13 rfl (by decide)
      rw [← ez12] at ebz12
      refine ⟨(W.2 bz12), (AL.of hV ebz12 hsz12 (by decide) rfl (by decide)), ?_⟩
      intro z13 ez13
      have lnz13 := nI_ln ez13 (hV.lm hsz12 (by decide) rfl)
      have lmz13 := (hV.lm hsz12 (by decide) rfl)
      refine ⟨fun c3 => ?_, fun c3 => ?_⟩
      · (try dsimp only)
        (try dsimp only)
        exact kk 0 trivial
      · refine ⟨(hV.mm hs_h (by decide) rfl), ?_⟩
        intro z14 ez14
        have ebz14 : z14 = some bz12 := (ez14.trans ez12.symm).trans ebz12
        refine ⟨(sI κ.1 bz12), (W.2 bz12), (BA.of hV ebz14 hsz12 (by decide) rfl rfl), (by omega), ?_⟩
        intro z15 ez15
        have vz15 : -128 ≤ z15.toInt ∧ z15.toInt ≤ 127 := by rw [ez15]; exact (fun i hi => (hV.1.el hsz12 (by decide) rfl i hi).1) _ (by omega)
        (try dsimp only)
        exact kk z15 trivial
set_option maxRecDepth 100000 in
set_option maxHeartbeats 4000000 in
theorem t_X11_upper {G : GE} {E : CE} {W : CW} {c : Int} {κ : CS} (hV : CV G E W c κ) (a0 : Int32)  {post : Int32 → CS → Prop} (kk : ∀ r : Int32, (True) → post r κ) : F_X11_upper G a0 post κ := by
  unfold F_X11_upper
  have k_0 : (0 : Int32).toInt = 0 := rfl
  have k_32 : (32 : Int32).toInt = 32 := rfl
  have k_97 : (97 : Int32).toInt = 97 := rfl
  have k_122 : (122 : Int32).toInt = 122 := rfl
  have kl_32 : (32 : Int64).toInt = 32 := rfl
  have rg_a0 := i_range a0
  refine jc_dup ?_
  refine jc_dup ?_
  refine ⟨fun c1 => ?_, fun c1 => ?_⟩
  · (try dsimp only)
    (try dsimp only)
    exact kk a0 trivial
  · refine ⟨fun c2 => ?_, fun c2 => ?_⟩
    · (try dsimp only)
      (try dsimp only)
      exact kk a0 trivial
    · intro z11 ez11
      try have hz11 := i_sub ez11 (by omega) (by omega)
      have rg_z11 := i_range z11
      (try dsimp only)
      exact kk z11 trivial
set_option maxRecDepth 100000 in
set_option maxHeartbeats 4000000 in
theorem t_X10_unit {G : GE} {E : CE} {W : CW} {c : Int} {κ : CS} (hV : CV G E W c κ) (h : Nat) (hs_h : W.1 h = 13) (a1 : Int32)  {post : Int32 → CS → Prop} (kk : ∀ r : Int32, (True) → post r κ) : F_X10_unit G h a1 post κ := by
  unfold F_X10_unit
  have k_0 : (0 : Int32).toInt = 0 := rfl
  have rg_a1 := i_range a1
  refine jc_dup ?_
  refine jc_dup ?_
  refine ⟨fun c1 => ?_, fun c1 => ?_⟩
  · (try dsimp only)
    (try dsimp only)
    exact kk 0 trivial
  · refine ⟨(hV.mm hs_h (by decide) rfl), ?_⟩
    intro z11 ez11
    have vz11 := hV.1.iv hs_h (by decide) rfl 9 (-2147483648) 2147483647 rfl ez11
    have wz11 : z11.toInt = (sI κ.1 h 9).toInt := by rw [ez11]
    refine ⟨fun c2 => ?_, fun c2 => ?_⟩
    · (try dsimp only)
      (try dsimp only)
      exact kk 0 trivial
    · refine ⟨(hV.mm hs_h (by decide) rfl), ?_⟩
      intro z12 ez12
      obtain ⟨bz12, ebz12, hsz12⟩ := hV.1.nn hs_h (by decide) rfl 8 rfl (by decide)
      rw [← ez12] at ebz12
      refine ⟨(W.2 bz12), (AL.of hV ebz12 hsz12 (by decide) rfl (by decide)), ?_⟩
      intro z13 ez13
      have lnz13 := nI_ln ez13 (hV.lm hsz12 (by decide) rfl)
      have lmz13 := (hV.lm hsz12 (by decide) rfl)
      refine ⟨fun c3 => ?_, fun c3 => ?_⟩
      · (try dsimp only)
        (try dsimp only)
        exact kk 0 trivial
      · refine ⟨(hV.mm hs_h (by decide) rfl), ?_⟩
        intro z14 ez14
        have ebz14 : z14 = some bz12 := (ez14.trans ez12.symm).trans ebz12
        have ln_ := hV.ln hsz12 (by decide) rfl
        refine ⟨bz12, ebz14, (hV.mm hsz12 (by decide) rfl), by omega, ?_⟩
        intro z15 ez15
        have rg_z15 := i_range z15
        (try dsimp only)
        exact kk z15 trivial
set_option maxRecDepth 100000 in
set_option maxHeartbeats 4000000 in
theorem t_X10_empties {G : GE} {E : CE} {W : CW} {c : Int} {κ : CS} (hV : CV G E W c κ) (h : Nat) (hs_h : W.1 h = 13)  {post : Int32 → CS → Prop} (kk : ∀ r : Int32, (0 ≤ r.toInt ∧ r.toInt ≤ 1) → post r κ) : F_X10_empties G h post κ := by
  unfold F_X10_empties
  have k_0 : (0 : Int32).toInt = 0 := rfl
  have k_1 : (1 : Int32).toInt = 1 := rfl
  have k_4 : (4 : Int32).toInt = 4 := rfl
  have k_5 : (5 : Int32).toInt = 5 := rfl
  refine ⟨(hV.mm hs_h (by decide) rfl), ?_⟩
  intro z1 ez1
  have vz1 := hV.1.iv hs_h (by decide) rfl 4 (-2147483648) 2147483647 rfl ez1
  have wz1 : z1.toInt = (sI κ.1 h 4).toInt := by rw [ez1]
  refine jc_dup ?_
  refine jc_dup ?_
  refine ⟨fun c1 => ?_, fun c1 => ?_⟩
  · (try dsimp only)
    (try dsimp only)
    refine ⟨by omega, ?_⟩
    exact kk 1 (by omega)
  · refine ⟨(hV.mm hs_h (by decide) rfl), ?_⟩
    intro z12 ez12
    have vz12 := hV.1.iv hs_h (by decide) rfl 4 (-2147483648) 2147483647 rfl ez12
    have wz12 : z12.toInt = (sI κ.1 h 4).toInt := by rw [ez12]
    refine ⟨fun c2 => ?_, fun c2 => ?_⟩
    · (try dsimp only)
      (try dsimp only)
      refine ⟨by omega, ?_⟩
      exact kk 1 (by omega)
    · refine ⟨(hV.mm hs_h (by decide) rfl), ?_⟩
      intro z13 ez13
      have vz13 := hV.1.iv hs_h (by decide) rfl 4 (-2147483648) 2147483647 rfl ez13
      have wz13 : z13.toInt = (sI κ.1 h 4).toInt := by rw [ez13]
      refine ⟨fun c3 => ?_, fun c3 => ?_⟩
      · (try dsimp only)
        refine ⟨by omega, ?_⟩
        exact kk 0 (by omega)
      · (try dsimp only)
        (try dsimp only)
        refine ⟨by omega, ?_⟩
        exact kk 1 (by omega)
set_option maxRecDepth 100000 in
set_option maxHeartbeats 4000000 in
theorem t_X10_newAttributes {G : GE} {E : CE} {W : CW} {c : Int} {κ : CS} (hV : CV G E W c κ) (h : Nat) (hs_h : W.1 h = 13)  {post : Int32 → CS → Prop} (kk : ∀ r : Int32, (True) → post r κ) : F_X10_newAttributes G h post κ := by
  unfold F_X10_newAttributes
  have k_0 : (0 : Int32).toInt = 0 := rfl
  have k_6 : (6 : Int32).toInt = 6 := rfl
  have k_32 : (32 : Int32).toInt = 32 := rfl
  have k_39 : (39 : Int32).toInt = 39 := rfl
  have kl_6 : (6 : Int64).toInt = 6 := rfl
  have kl_32 : (32 : Int64).toInt = 32 := rfl
  have kl_39 : (39 : Int64).toInt = 39 := rfl
  refine ⟨(hV.mm hs_h (by decide) rfl), ?_⟩
  intro z1 ez1
  have vz1 := hV.1.iv hs_h (by decide) rfl 5 0 1 rfl ez1
  have wz1 : z1.toInt = (sI κ.1 h 5).toInt := by rw [ez1]
  refine jc_dup ?_
  refine ⟨fun c1 => ?_, fun c1 => ?_⟩
  · refine ⟨(hV.mm hs_h (by decide) rfl), ?_⟩
    intro z7 ez7
    have vz7 := hV.1.iv hs_h (by decide) rfl 2 (-2147483648) 2147483647 rfl ez7
    have wz7 : z7.toInt = (sI κ.1 h 2).toInt := by rw [ez7]
    intro z8 ez8
    try have hz8 := i_and ez8 (by omega)
    have rg_z8 := i_range z8
    intro z9 ez9
    try have hz9 := i_orm ez9 (by omega) (by omega)
    try have h2z9 := i_or ez9 (by omega) (by omega)
    have rg_z9 := i_range z9
    (try dsimp only)
    exact kk z9 trivial
  · refine ⟨(hV.mm hs_h (by decide) rfl), ?_⟩
    intro z10 ez10
    have vz10 := hV.1.iv hs_h (by decide) rfl 2 (-2147483648) 2147483647 rfl ez10
    have wz10 : z10.toInt = (sI κ.1 h 2).toInt := by rw [ez10]
    intro z11 ez11
    try have hz11 := i_and ez11 (by omega)
    have rg_z11 := i_range z11
    (try dsimp only)
    exact kk z11 trivial
set_option maxRecDepth 100000 in
set_option maxHeartbeats 4000000 in
theorem t_X11_wanted {G : GE} {E : CE} {W : CW} {c : Int} {κ : CS} (hV : CV G E W c κ) (a0 : Int32)  {post : Int32 → CS → Prop} (kk : ∀ r : Int32, (True) → post r κ) : F_X11_wanted G a0 post κ := by
  unfold F_X11_wanted
  have k_0 : (0 : Int32).toInt = 0 := rfl
  have k_1 : (1 : Int32).toInt = 1 := rfl
  have k_2 : (2 : Int32).toInt = 2 := rfl
  have k_4 : (4 : Int32).toInt = 4 := rfl
  have k_6 : (6 : Int32).toInt = 6 := rfl
  have k_33 : (33 : Int32).toInt = 33 := rfl
  have k_65536 : (65536 : Int32).toInt = 65536 := rfl
  have kl_6 : (6 : Int64).toInt = 6 := rfl
  have kl_33 : (33 : Int64).toInt = 33 := rfl
  have kl_65536 : (65536 : Int64).toInt = 65536 := rfl
  have rg_a0 := i_range a0
  intro z1 ez1
  try have hz1 := i_and ez1 (by omega)
  have rg_z1 := i_range z1
  refine jc_in (fun (x : Int32) (κ' : CS) => κ = κ' ∧ (((0 ≤ x.toInt ∧ x.toInt ≤ 1)))) (fun x2 κ3 hJ => ?_) (fun K4 hK4 => ?_)
  · obtain ⟨hsg, hv⟩ := hJ
    subst hsg
    (try dsimp only at hv)
    have rg_x2 := i_range x2
    intro z7 ez7
    try have hz7 := i_and ez7 (by omega)
    have rg_z7 := i_range z7
    refine jc_in (fun (x : Int32) (κ' : CS) => κ = κ' ∧ ((True))) (fun x8 κ9 hJ => ?_) (fun K10 hK10 => ?_)
    · obtain ⟨hsg, hv⟩ := hJ
      subst hsg
      (try dsimp only at hv)
      have rg_x8 := i_range x8
      intro z13 ez13
      try have hz13 := i_orm ez13 (by omega) (by omega)
      try have h2z13 := i_or ez13 (by omega) (by omega)
      have rg_z13 := i_range z13
      intro z14 ez14
      try have hz14 := i_and ez14 (by omega)
      have rg_z14 := i_range z14
      refine jc_dup ?_
      refine ⟨fun c1 => ?_, fun c1 => ?_⟩
      · (try dsimp only)
        intro z20 ez20
        try have hz20 := i_orm ez20 (by omega) (by omega)
        try have h2z20 := i_or ez20 (by omega) (by omega)
        have rg_z20 := i_range z20
        exact kk z20 trivial
      · (try dsimp only)
        intro z20 ez20
        try have hz20 := i_orm ez20 (by omega) (by omega)
        try have h2z20 := i_or ez20 (by omega) (by omega)
        have rg_z20 := i_range z20
        exact kk z20 trivial
    · skip
      refine ⟨fun c2 => ?_, fun c2 => ?_⟩
      · exact hK10 0 κ ⟨rfl, trivial⟩
      · exact hK10 2 κ ⟨rfl, trivial⟩
  · skip
    refine ⟨fun c3 => ?_, fun c3 => ?_⟩
    · exact hK4 0 κ ⟨rfl, (by (try dsimp only); omega)⟩
    · exact hK4 1 κ ⟨rfl, (by (try dsimp only); omega)⟩
set_option maxRecDepth 100000 in
set_option maxHeartbeats 4000000 in
theorem t_X11_isLocking {G : GE} {E : CE} {W : CW} {c : Int} {κ : CS} (hV : CV G E W c κ) (a0 : Int64) (a2 : Int32)  {post : Int32 → CS → Prop} (kk : ∀ r : Int32, (0 ≤ r.toInt ∧ r.toInt ≤ 1) → post r κ) : F_X11_isLocking G a0 a2 post κ := by
  unfold F_X11_isLocking
  have k_m17 : ((-17) : Int32).toInt = (-17) := rfl
  have k_0 : (0 : Int32).toInt = 0 := rfl
  have k_1 : (1 : Int32).toInt = 1 := rfl
  have k_16 : (16 : Int32).toInt = 16 := rfl
  have kl_m17 : ((-17) : Int64).toInt = (-17) := rfl
  have kl_0 : (0 : Int64).toInt = 0 := rfl
  have kl_1 : (1 : Int64).toInt = 1 := rfl
  have kl_2 : (2 : Int64).toInt = 2 := rfl
  have kl_16 : (16 : Int64).toInt = 16 := rfl
  have rg_a0 := l_range a0
  have rg_a2 := i_range a2
  intro z1 ez1
  try have hz1 := l_and ez1 (by omega)
  have rg_z1 := l_range z1
  intro z2 ez2
  try have hz2 := l_and ez2 (by omega)
  have rg_z2 := l_range z2
  refine jc_in (fun (x : Int32) (κ' : CS) => κ = κ' ∧ (((0 ≤ x.toInt ∧ x.toInt ≤ 1)))) (fun x3 κ4 hJ => ?_) (fun K5 hK5 => ?_)
  · obtain ⟨hsg, hv⟩ := hJ
    subst hsg
    (try dsimp only at hv)
    have rg_x3 := i_range x3
    refine jc_dup ?_
    refine jc_dup ?_
    refine jc_in (fun (x : Unit) (κ' : CS) => κ = κ' ∧ ((True))) (fun x18 κ19 hJ => ?_) (fun K20 hK20 => ?_)
    · obtain ⟨hsg, hv⟩ := hJ
      subst hsg
      (try dsimp only at hv)
      refine jc_dup ?_
      refine ⟨fun c1 => ?_, fun c1 => ?_⟩
      · (try dsimp only)
        (try dsimp only)
        refine ⟨by omega, ?_⟩
        exact kk 1 (by omega)
      · refine ⟨fun c2 => ?_, fun c2 => ?_⟩
        · (try dsimp only)
          (try dsimp only)
          refine ⟨by omega, ?_⟩
          exact kk 0 (by omega)
        · (try dsimp only)
          (try dsimp only)
          refine ⟨by omega, ?_⟩
          exact kk 1 (by omega)
    · skip
      refine ⟨fun c3 => ?_, fun c3 => ?_⟩
      · exact hK20 () κ ⟨rfl, trivial⟩
      · refine ⟨fun c4 => ?_, fun c4 => ?_⟩
        · (try dsimp only)
          (try dsimp only)
          refine ⟨by omega, ?_⟩
          exact kk 0 (by omega)
        · exact hK20 () κ ⟨rfl, trivial⟩
  · skip
    refine ⟨fun c5 => ?_, fun c5 => ?_⟩
    · exact hK5 0 κ ⟨rfl, (by (try dsimp only); omega)⟩
    · exact hK5 1 κ ⟨rfl, (by (try dsimp only); omega)⟩
set_option maxRecDepth 100000 in
set_option maxHeartbeats 4000000 in
theorem t_X11_isTooFar {G : GE} {E : CE} {W : CW} {c : Int} {κ : CS} (hV : CV G E W c κ) (a0 : Int64) (a2 : Int64)  {post : Int32 → CS → Prop} (kk : ∀ r : Int32, (0 ≤ r.toInt ∧ r.toInt ≤ 1) → post r κ) : F_X11_isTooFar G a0 a2 post κ := by
  unfold F_X11_isTooFar
  have k_0 : (0 : Int32).toInt = 0 := rfl
  have k_1 : (1 : Int32).toInt = 1 := rfl
  have kl_0 : (0 : Int64).toInt = 0 := rfl
  have rg_a0 := l_range a0
  have rg_a2 := l_range a2
  intro z1 ez1
  try have hz1 := l_add ez1 (by omega) (by omega)
  have rg_z1 := l_range z1
  refine jc_dup ?_
  refine jc_dup ?_
  refine ⟨fun c1 => ?_, fun c1 => ?_⟩
  · (try dsimp only)
    (try dsimp only)
    refine ⟨by omega, ?_⟩
    exact kk 0 (by omega)
  · refine t_X11_below hV z1 a0  (fun z13 pz13 => ?_)
    have rg_z13 := i_range z13
    refine ⟨fun c2 => ?_, fun c2 => ?_⟩
    · (try dsimp only)
      (try dsimp only)
      refine ⟨by omega, ?_⟩
      exact kk 0 (by omega)
    · (try dsimp only)
      refine ⟨by omega, ?_⟩
      exact kk 1 (by omega)
set_option maxRecDepth 100000 in
set_option maxHeartbeats 4000000 in
theorem t_X11_setSizeOf {G : GE} {E : CE} {W : CW} {c : Int} {κ : CS} (hV : CV G E W c κ) (a0 : Int32)  {post : Int32 → CS → Prop} (kk : ∀ r : Int32, (True) → post r κ) : F_X11_setSizeOf G a0 post κ := by
  unfold F_X11_setSizeOf
  have k_0 : (0 : Int32).toInt = 0 := rfl
  have k_1 : (1 : Int32).toInt = 1 := rfl
  have k_8 : (8 : Int32).toInt = 8 := rfl
  have k_20 : (20 : Int32).toInt = 20 := rfl
  have k_40 : (40 : Int32).toInt = 40 := rfl
  have kl_0 : (0 : Int64).toInt = 0 := rfl
  have kl_1 : (1 : Int64).toInt = 1 := rfl
  have kl_8 : (8 : Int64).toInt = 8 := rfl
  have kl_20 : (20 : Int64).toInt = 20 := rfl
  have kl_40 : (40 : Int64).toInt = 40 := rfl
  have rg_a0 := i_range a0
  refine ⟨fun c1 => ?_, fun c1 => ?_, fun c1 => ?_, fun c1 => ?_, fun c1 => ?_⟩
  · exact kk 40 trivial
  · exact kk 20 trivial
  · exact kk 1 trivial
  · exact kk 8 trivial
  · exact kk 0 trivial
set_option maxRecDepth 100000 in
set_option maxHeartbeats 4000000 in
theorem t_X11_setAccessOf {G : GE} {E : CE} {W : CW} {c : Int} {κ : CS} (hV : CV G E W c κ) (a0 : Int32)  {post : Int32 → CS → Prop} (kk : ∀ r : Int32, (True) → post r κ) : F_X11_setAccessOf G a0 post κ := by
  unfold F_X11_setAccessOf
  have k_0 : (0 : Int32).toInt = 0 := rfl
  have k_2 : (2 : Int32).toInt = 2 := rfl
  have k_256 : (256 : Int32).toInt = 256 := rfl
  have k_65536 : (65536 : Int32).toInt = 65536 := rfl
  have kl_2 : (2 : Int64).toInt = 2 := rfl
  have kl_256 : (256 : Int64).toInt = 256 := rfl
  have kl_65536 : (65536 : Int64).toInt = 65536 := rfl
  have rg_a0 := i_range a0
  refine ⟨fun c1 => ?_, fun c1 => ?_, fun c1 => ?_⟩
  · exact kk 256 trivial
  · exact kk 2 trivial
  · exact kk 65536 trivial
set_option maxRecDepth 100000 in
set_option maxHeartbeats 4000000 in
theorem t_X11_infoSize {G : GE} {E : CE} {W : CW} {c : Int} {κ : CS} (hV : CV G E W c κ) (a0 : Int32) (a1 : Int32)  {post : Int32 → CS → Prop} (kk : ∀ r : Int32, (0 ≤ r.toInt ∧ r.toInt ≤ 80) → post r κ) : F_X11_infoSize G a0 a1 post κ := by
  unfold F_X11_infoSize
  have k_0 : (0 : Int32).toInt = 0 := rfl
  have k_1 : (1 : Int32).toInt = 1 := rfl
  have k_2 : (2 : Int32).toInt = 2 := rfl
  have k_3 : (3 : Int32).toInt = 3 := rfl
  have k_24 : (24 : Int32).toInt = 24 := rfl
  have k_40 : (40 : Int32).toInt = 40 := rfl
  have k_80 : (80 : Int32).toInt = 80 := rfl
  have kl_0 : (0 : Int64).toInt = 0 := rfl
  have kl_24 : (24 : Int64).toInt = 24 := rfl
  have kl_40 : (40 : Int64).toInt = 40 := rfl
  have kl_80 : (80 : Int64).toInt = 80 := rfl
  have rg_a0 := i_range a0
  have rg_a1 := i_range a1
  refine ⟨fun c1 => ?_, fun c1 => ?_⟩
  · refine ⟨fun c2 => ?_, fun c2 => ?_⟩
    · refine ⟨fun c3 => ?_, fun c3 => ?_, fun c3 => ?_, fun c3 => ?_⟩
      · exact kk 40 (by omega)
      · exact kk 24 (by omega)
      · exact kk 80 (by omega)
      · exact kk 0 (by omega)
    · exact kk 0 (by omega)
  · refine jc_dup ?_
    refine ⟨fun c4 => ?_, fun c4 => ?_⟩
    · (try dsimp only)
      exact kk 0 (by omega)
    · (try dsimp only)
      exact kk 24 (by omega)
set_option maxRecDepth 100000 in
set_option maxHeartbeats 4000000 in
theorem t_X0_stands {G : GE} {E : CE} {W : CW} {c : Int} {κ : CS} (hV : CV G E W c κ) (h : Nat) (hs_h : W.1 h = 8)  {post : Int32 → CS → Prop} (kk : ∀ r : Int32, (0 ≤ r.toInt ∧ r.toInt ≤ 1) → post r κ) : F_X0_stands G h post κ := by
  unfold F_X0_stands
  have k_0 : (0 : Int32).toInt = 0 := rfl
  have k_1 : (1 : Int32).toInt = 1 := rfl
  have k_2 : (2 : Int32).toInt = 2 := rfl
  have k_4 : (4 : Int32).toInt = 4 := rfl
  have k_8 : (8 : Int32).toInt = 8 := rfl
  have k_64 : (64 : Int32).toInt = 64 := rfl
  have kl_0 : (0 : Int64).toInt = 0 := rfl
  have kl_1 : (1 : Int64).toInt = 1 := rfl
  have kl_2 : (2 : Int64).toInt = 2 := rfl
  have kl_4 : (4 : Int64).toInt = 4 := rfl
  have kl_8 : (8 : Int64).toInt = 8 := rfl
  have kl_64 : (64 : Int64).toInt = 64 := rfl
  have kl_1112364030 : (1112364030 : Int64).toInt = 1112364030 := rfl
  refine ⟨(hV.mm hs_h (by decide) rfl), ?_⟩
  intro z1 ez1
  obtain ⟨bz1, ebz1, hsz1⟩ := hV.1.nn hs_h (by decide) rfl 0 rfl (by decide)
  rw [← ez1] at ebz1
  refine ⟨bz1, ebz1, (hV.mm hsz1 (by decide) rfl), ?_⟩
  intro z2 ez2
  obtain ⟨bz2, ebz2, hsz2⟩ := hV.1.nn hsz1 (by decide) rfl 2 rfl (by decide)
  rw [← ez2] at ebz2
  refine ⟨bz2, ebz2, (hV.mm hsz2 (by decide) rfl), ?_⟩
  intro z3 ez3
  have vz3 := hV.1.iv hsz2 (by decide) rfl 1 0 4004 rfl ez3
  have wz3 : z3.toInt = (sI κ.1 bz2 1).toInt := by rw [ez3]
  refine ⟨(hV.mm hs_h (by decide) rfl), ?_⟩
  intro z4 ez4
  have vz4 := hV.1.iv hs_h (by decide) rfl 1 (-2147483648) 2147483647 rfl ez4
  have wz4 : z4.toInt = (sI κ.1 h 1).toInt := by rw [ez4]
  intro z5 ez5
  try have hz5 := i_sub ez5 (by omega) (by omega)
  have rg_z5 := i_range z5
  refine ⟨(hV.mm hs_h (by decide) rfl), ?_⟩
  intro z6 ez6
  have vz6 := l_range z6
  have wz6 : z6.toInt = (sJ κ.1 h 3).toInt := by rw [ez6]
  refine jc_in (fun (x : Int32) (κ' : CS) => κ = κ' ∧ (((0 ≤ x.toInt ∧ x.toInt ≤ 1)))) (fun x7 κ8 hJ => ?_) (fun K9 hK9 => ?_)
  · obtain ⟨hsg, hv⟩ := hJ
    subst hsg
    (try dsimp only at hv)
    have rg_x7 := i_range x7
    refine ⟨(hV.mm hs_h (by decide) rfl), ?_⟩
    intro z12 ez12
    have vz12 := hV.1.iv hs_h (by decide) rfl 1 (-2147483648) 2147483647 rfl ez12
    have wz12 : z12.toInt = (sI κ.1 h 1).toInt := by rw [ez12]
    refine jc_in (fun (x : Int32) (κ' : CS) => κ = κ' ∧ (((0 ≤ x.toInt ∧ x.toInt ≤ 1)))) (fun x13 κ14 hJ => ?_) (fun K15 hK15 => ?_)
    · obtain ⟨hsg, hv⟩ := hJ
      subst hsg
      (try dsimp only at hv)
      have rg_x13 := i_range x13
      refine jc_dup ?_
      refine jc_dup ?_
      refine ⟨fun c1 => ?_, fun c1 => ?_⟩
      · (try dsimp only)
        (try dsimp only)
        refine ⟨by omega, ?_⟩
        exact kk 0 (by omega)
      · refine ⟨(hV.mm hs_h (by decide) rfl), ?_⟩
        refine t_X0_number hV h hs_h 0 4  (fun z29 pz29 => ?_)
        have rg_z29 := l_range z29
        refine ⟨fun c2 => ?_, fun c2 => ?_⟩
        · (try dsimp only)
          (try dsimp only)
          refine ⟨by omega, ?_⟩
          exact kk 0 (by omega)
        · refine ⟨(hV.mm hs_h (by decide) rfl), ?_⟩
          refine t_X0_number hV h hs_h 4 2  (fun z31 pz31 => ?_)
          have rg_z31 := l_range z31
          refine ⟨fun c3 => ?_, fun c3 => ?_⟩
          · (try dsimp only)
            (try dsimp only)
            refine ⟨by omega, ?_⟩
            exact kk 0 (by omega)
          · refine ⟨(hV.mm hs_h (by decide) rfl), ?_⟩
            intro z32 ez32
            have vz32 := l_range z32
            have wz32 : z32.toInt = (sJ κ.1 h 7).toInt := by rw [ez32]
            intro z33 ez33
            try have hz33 := l_and ez33 (by omega)
            have rg_z33 := l_range z33
            refine ⟨fun c4 => ?_, fun c4 => ?_⟩
            · (try dsimp only)
              (try dsimp only)
              refine ⟨by omega, ?_⟩
              exact kk 0 (by omega)
            · refine ⟨fun c5 => ?_, fun c5 => ?_⟩
              · (try dsimp only)
                (try dsimp only)
                refine ⟨by omega, ?_⟩
                exact kk 0 (by omega)
              · refine jc_dup ?_
                refine ⟨fun c6 => ?_, fun c6 => ?_⟩
                · (try dsimp only)
                  (try dsimp only)
                  refine ⟨by omega, ?_⟩
                  exact kk 1 (by omega)
                · refine ⟨(hV.mm hs_h (by decide) rfl), ?_⟩
                  refine t_X0_related hV h hs_h  (fun z40 pz40 => ?_)
                  have rg_z40 := i_range z40
                  refine ⟨fun c7 => ?_, fun c7 => ?_⟩
                  · (try dsimp only)
                    (try dsimp only)
                    refine ⟨by omega, ?_⟩
                    exact kk 0 (by omega)
                  · (try dsimp only)
                    (try dsimp only)
                    refine ⟨by omega, ?_⟩
                    exact kk 1 (by omega)
    · skip
      refine ⟨fun c8 => ?_, fun c8 => ?_⟩
      · exact hK15 0 κ ⟨rfl, (by (try dsimp only); omega)⟩
      · exact hK15 1 κ ⟨rfl, (by (try dsimp only); omega)⟩
  · skip
    refine jc_dup ?_
    refine ⟨fun c9 => ?_, fun c9 => ?_⟩
    · (try dsimp only)
      exact hK9 1 κ ⟨rfl, (by (try dsimp only); omega)⟩
    · refine ⟨(hV.mm hs_h (by decide) rfl), ?_⟩
      intro z46 ez46
      have vz46 := l_range z46
      have wz46 : z46.toInt = (sJ κ.1 h 3).toInt := by rw [ez46]
      intro z47 ez47
      try have hz47 := l_rem 8 rfl ez47 (by omega) (by omega)
      have rg_z47 := l_range z47
      refine jc_dup ?_
      refine ⟨fun c10 => ?_, fun c10 => ?_⟩
      · (try dsimp only)
        exact hK9 0 κ ⟨rfl, (by (try dsimp only); omega)⟩
      · refine ⟨(hV.mm hs_h (by decide) rfl), ?_⟩
        intro z53 ez53
        have vz53 := l_range z53
        have wz53 : z53.toInt = (sJ κ.1 h 3).toInt := by rw [ez53]
        refine ⟨fun c11 => ?_, fun c11 => ?_⟩
        · (try dsimp only)
          exact hK9 0 κ ⟨rfl, (by (try dsimp only); omega)⟩
        · refine ⟨(hV.mm hs_h (by decide) rfl), ?_⟩
          intro z54 ez54
          have vz54 := l_range z54
          have wz54 : z54.toInt = (sJ κ.1 h 3).toInt := by rw [ez54]
          intro z55 ez55
          try have hz55 := i_sub ez55 (by omega) (by omega)
          have rg_z55 := i_range z55
          intro z56 ez56
          have hz56 := i_tol ez56
          have rg_z56 := l_range z56
          refine ⟨fun c12 => ?_, fun c12 => ?_⟩
          · (try dsimp only)
            exact hK9 0 κ ⟨rfl, (by (try dsimp only); omega)⟩
          · (try dsimp only)
            exact hK9 1 κ ⟨rfl, (by (try dsimp only); omega)⟩
set_option maxRecDepth 100000 in
set_option maxHeartbeats 4000000 in
theorem t_X0_holdsWhatItTells {G : GE} {E : CE} {W : CW} {c : Int} {κ : CS} (hV : CV G E W c κ) (h : Nat) (hs_h : W.1 h = 8)  {post : Int32 → CS → Prop} (kk : ∀ r : Int32, (0 ≤ r.toInt ∧ r.toInt ≤ 1) → post r κ) : F_X0_holdsWhatItTells G h post κ := by
  unfold F_X0_holdsWhatItTells
  have k_0 : (0 : Int32).toInt = 0 := rfl
  have k_1 : (1 : Int32).toInt = 1 := rfl
  have k_2 : (2 : Int32).toInt = 2 := rfl
  have k_4 : (4 : Int32).toInt = 4 := rfl
  have k_66 : (66 : Int32).toInt = 66 := rfl
  have k_68 : (68 : Int32).toInt = 68 := rfl
  have k_70 : (70 : Int32).toInt = 70 := rfl
  have k_72 : (72 : Int32).toInt = 72 := rfl
  have k_76 : (76 : Int32).toInt = 76 := rfl
  have k_78 : (78 : Int32).toInt = 78 := rfl
  have k_88 : (88 : Int32).toInt = 88 := rfl
  have k_90 : (90 : Int32).toInt = 90 := rfl
  have k_108 : (108 : Int32).toInt = 108 := rfl
  have k_110 : (110 : Int32).toInt = 110 := rfl
  have kl_1 : (1 : Int64).toInt = 1 := rfl
  have kl_2 : (2 : Int64).toInt = 2 := rfl
  have kl_4 : (4 : Int64).toInt = 4 := rfl
  have kl_66 : (66 : Int64).toInt = 66 := rfl
  have kl_68 : (68 : Int64).toInt = 68 := rfl
  have kl_70 : (70 : Int64).toInt = 70 := rfl
  have kl_72 : (72 : Int64).toInt = 72 := rfl
  have kl_76 : (76 : Int64).toInt = 76 := rfl
  have kl_78 : (78 : Int64).toInt = 78 := rfl
  have kl_88 : (88 : Int64).toInt = 88 := rfl
  have kl_90 : (90 : Int64).toInt = 90 := rfl
  have kl_108 : (108 : Int64).toInt = 108 := rfl
  have kl_110 : (110 : Int64).toInt = 110 := rfl
  have kl_1024 : (1024 : Int64).toInt = 1024 := rfl
  refine ⟨(hV.mm hs_h (by decide) rfl), ?_⟩
  intro z1 ez1
  have vz1 := hV.1.iv hs_h (by decide) rfl 5 (-2147483648) 2147483647 rfl ez1
  have wz1 : z1.toInt = (sI κ.1 h 5).toInt := by rw [ez1]
  refine jc_dup ?_
  refine ⟨fun c1 => ?_, fun c1 => ?_, fun c1 => ?_, fun c1 => ?_, fun c1 => ?_, fun c1 => ?_, fun c1 => ?_, fun c1 => ?_, fun c1 => ?_, fun c1 => ?_, fun c1 => ?_, fun c1 => ?_, fun c1 => ?_, fun c1 => ?_, fun c1 => ?_, fun c1 => ?_, fun c1 => ?_, fun c1 => ?_⟩
  · (try dsimp only)
    refine ⟨by omega, ?_⟩
    exact kk 1 (by omega)
  · refine ⟨(hV.mm hs_h (by decide) rfl), ?_⟩
    refine t_X0_number hV h hs_h 76 2  (fun z8 pz8 => ?_)
    have rg_z8 := l_range z8
    refine ⟨(hV.mm hs_h (by decide) rfl), ?_⟩
    refine t_X0_number hV h hs_h 78 2  (fun z10 pz10 => ?_)
    have rg_z10 := l_range z10
    refine ⟨(hV.mm hs_h (by decide) rfl), ?_⟩
    refine t_X0_holds hV h hs_h z8 z10  (fun z12 pz12 => ?_)
    have rg_z12 := i_range z12
    refine ⟨by omega, ?_⟩
    exact kk z12 (by omega)
  · (try dsimp only)
    refine ⟨by omega, ?_⟩
    exact kk 1 (by omega)
  · refine ⟨(hV.mm hs_h (by decide) rfl), ?_⟩
    refine t_X0_number hV h hs_h 68 2  (fun z14 pz14 => ?_)
    have rg_z14 := l_range z14
    refine ⟨(hV.mm hs_h (by decide) rfl), ?_⟩
    refine t_X0_number hV h hs_h 70 2  (fun z16 pz16 => ?_)
    have rg_z16 := l_range z16
    refine ⟨(hV.mm hs_h (by decide) rfl), ?_⟩
    refine t_X0_holds hV h hs_h z14 z16  (fun z18 pz18 => ?_)
    have rg_z18 := i_range z18
    refine ⟨by omega, ?_⟩
    exact kk z18 (by omega)
  · (try dsimp only)
    refine ⟨by omega, ?_⟩
    exact kk 1 (by omega)
  · refine ⟨(hV.mm hs_h (by decide) rfl), ?_⟩
    refine t_X0_number hV h hs_h 108 2  (fun z20 pz20 => ?_)
    have rg_z20 := l_range z20
    refine ⟨(hV.mm hs_h (by decide) rfl), ?_⟩
    refine t_X0_number hV h hs_h 110 2  (fun z22 pz22 => ?_)
    have rg_z22 := l_range z22
    refine ⟨(hV.mm hs_h (by decide) rfl), ?_⟩
    refine t_X0_holds hV h hs_h z20 z22  (fun z24 pz24 => ?_)
    have rg_z24 := i_range z24
    refine ⟨by omega, ?_⟩
    exact kk z24 (by omega)
  · (try dsimp only)
    refine ⟨by omega, ?_⟩
    exact kk 1 (by omega)
  · (try dsimp only)
    refine ⟨by omega, ?_⟩
    exact kk 1 (by omega)
  · (try dsimp only)
    refine ⟨by omega, ?_⟩
    exact kk 1 (by omega)
  · refine ⟨(hV.mm hs_h (by decide) rfl), ?_⟩
    refine t_X0_number hV h hs_h 68 4  (fun z26 pz26 => ?_)
    have rg_z26 := l_range z26
    refine jc_dup ?_
    refine jc_dup ?_
    refine ⟨fun c2 => ?_, fun c2 => ?_⟩
    · (try dsimp only)
      (try dsimp only)
      refine ⟨by omega, ?_⟩
      exact kk 0 (by omega)
    · refine ⟨(hV.mm hs_h (by decide) rfl), ?_⟩
      refine t_X0_number hV h hs_h 66 2  (fun z38 pz38 => ?_)
      have rg_z38 := l_range z38
      refine ⟨(hV.mm hs_h (by decide) rfl), ?_⟩
      refine t_X0_number hV h hs_h 68 4  (fun z40 pz40 => ?_)
      have rg_z40 := l_range z40
      refine ⟨(hV.mm hs_h (by decide) rfl), ?_⟩
      refine t_X0_holds hV h hs_h z38 z40  (fun z42 pz42 => ?_)
      have rg_z42 := i_range z42
      refine ⟨fun c3 => ?_, fun c3 => ?_⟩
      · (try dsimp only)
        (try dsimp only)
        refine ⟨by omega, ?_⟩
        exact kk 0 (by omega)
      · (try dsimp only)
        refine ⟨by omega, ?_⟩
        exact kk 1 (by omega)
  · (try dsimp only)
    refine ⟨by omega, ?_⟩
    exact kk 1 (by omega)
  · (try dsimp only)
    refine ⟨by omega, ?_⟩
    exact kk 1 (by omega)
  · (try dsimp only)
    refine ⟨by omega, ?_⟩
    exact kk 1 (by omega)
  · (try dsimp only)
    refine ⟨by omega, ?_⟩
    exact kk 1 (by omega)
  · refine ⟨(hV.mm hs_h (by decide) rfl), ?_⟩
    refine t_X0_number hV h hs_h 88 2  (fun z44 pz44 => ?_)
    have rg_z44 := l_range z44
    refine ⟨(hV.mm hs_h (by decide) rfl), ?_⟩
    refine t_X0_number hV h hs_h 90 2  (fun z46 pz46 => ?_)
    have rg_z46 := l_range z46
    refine ⟨(hV.mm hs_h (by decide) rfl), ?_⟩
    refine t_X0_holds hV h hs_h z44 z46  (fun z48 pz48 => ?_)
    have rg_z48 := i_range z48
    refine ⟨by omega, ?_⟩
    exact kk z48 (by omega)
  · (try dsimp only)
    refine ⟨by omega, ?_⟩
    exact kk 1 (by omega)
  · (try dsimp only)
    refine ⟨by omega, ?_⟩
    exact kk 1 (by omega)
  · refine ⟨(hV.mm hs_h (by decide) rfl), ?_⟩
    refine t_X0_number hV h hs_h 72 2  (fun z50 pz50 => ?_)
    have rg_z50 := l_range z50
    refine ⟨(hV.mm hs_h (by decide) rfl), ?_⟩
    refine t_X0_number hV h hs_h 68 4  (fun z52 pz52 => ?_)
    have rg_z52 := l_range z52
    refine ⟨(hV.mm hs_h (by decide) rfl), ?_⟩
    refine t_X0_holds hV h hs_h z50 z52  (fun z54 pz54 => ?_)
    have rg_z54 := i_range z54
    refine ⟨by omega, ?_⟩
    exact kk z54 (by omega)

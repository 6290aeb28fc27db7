/-! the class: the last pure methods -/
set_option maxRecDepth 100000 in
set_option maxHeartbeats 4000000 in
theorem t_J0_isLatin1_aae02 {G : GE} {E : CE} {W : CW} {c : Int} {κ : CS} (hV : CV G E W c κ)   {post : Int32 → CS → Prop} (kk : ∀ r : Int32, (r.toInt = 1) → post r κ) : F_J0_isLatin1_aae02 G  post κ := by
  unfold F_J0_isLatin1_aae02
  have k_0 : (0 : Int32).toInt = 0 := rfl
  have k_1 : (1 : Int32).toInt = 1 := rfl
  refine jc_dup ?_
  refine jc_dup ?_
  refine ⟨fun c1 => ?_, fun c1 => ?_⟩
  · (try dsimp only)
    (try dsimp only)
    refine ⟨by omega, ?_⟩
    exact kk 0 (by omega)
  · refine ⟨fun c2 => ?_, fun c2 => ?_⟩
    · (try dsimp only)
      (try dsimp only)
      refine ⟨by omega, ?_⟩
      exact kk 0 (by omega)
    · (try dsimp only)
      refine ⟨by omega, ?_⟩
      exact kk 1 (by omega)
set_option maxRecDepth 100000 in
set_option maxHeartbeats 4000000 in
theorem t_J0_coder_7d493 {G : GE} {E : CE} {W : CW} {c : Int} {κ : CS} (hV : CV G E W c κ)   {post : Int32 → CS → Prop} (kk : ∀ r : Int32, (r.toInt = 0) → post r κ) : F_J0_coder_7d493 G  post κ := by
  unfold F_J0_coder_7d493
  have k_0 : (0 : Int32).toInt = 0 := rfl
  have k_1 : (1 : Int32).toInt = 1 := rfl
  refine jc_dup ?_
  refine ⟨fun c1 => ?_, fun c1 => ?_⟩
  · (try dsimp only)
    refine ⟨by omega, ?_⟩
    exact kk 1 (by omega)
  · (try dsimp only)
    refine ⟨by omega, ?_⟩
    exact kk 0 (by omega)
set_option maxRecDepth 100000 in
set_option maxHeartbeats 4000000 in
theorem t_J0_length_8abf5 {G : GE} {E : CE} {W : CW} {c : Int} {κ : CS} (hV : CV G E W c κ)   {post : Int32 → CS → Prop} (kk : ∀ r : Int32, (True) → post r κ) : F_J0_length_8abf5 G  post κ := by
  unfold F_J0_length_8abf5
  have k_0 : (0 : Int32).toInt = 0 := rfl
  refine ⟨9, (Or.inr (Or.inr (Or.inr ⟨rfl, rfl⟩))), ?_⟩
  intro z1 ez1
  have lnz1 := nI_ln ez1 (by decide)
  have lmz1 := (by decide : 9 ≤ 1000000)
  refine t_J0_coder_7d493 hV   (fun z3 pz3 => ?_)
  have rg_z3 := i_range z3
  intro z4 ez4
  have rg_z4 := i_range z4
  exact kk z4 trivial
set_option maxRecDepth 100000 in
set_option maxHeartbeats 4000000 in
theorem t_J1_canEncode_9a6ad {G : GE} {E : CE} {W : CW} {c : Int} {κ : CS} (hV : CV G E W c κ) (a0 : Int32)  {post : Int32 → CS → Prop} (kk : ∀ r : Int32, (0 ≤ r.toInt ∧ r.toInt ≤ 1) → post r κ) : F_J1_canEncode_9a6ad G a0 post κ := by
  unfold F_J1_canEncode_9a6ad
  have k_0 : (0 : Int32).toInt = 0 := rfl
  have k_1 : (1 : Int32).toInt = 1 := rfl
  have k_255 : (255 : Int32).toInt = 255 := rfl
  have rg_a0 := i_range a0
  refine jc_dup ?_
  refine jc_dup ?_
  refine ⟨fun c1 => ?_, fun c1 => ?_⟩
  · (try dsimp only)
    (try dsimp only)
    refine ⟨by omega, ?_⟩
    exact kk 0 (by omega)
  · refine ⟨fun c2 => ?_, fun c2 => ?_⟩
    · (try dsimp only)
      (try dsimp only)
      refine ⟨by omega, ?_⟩
      exact kk 0 (by omega)
    · (try dsimp only)
      refine ⟨by omega, ?_⟩
      exact kk 1 (by omega)
set_option maxRecDepth 100000 in
set_option maxHeartbeats 4000000 in
theorem t_J1_indexOfChar_4cfef {G : GE} {E : CE} {W : CW} {c : Int} {κ : CS} (hV : CV G E W c κ) (a0 : Option Nat) (n_a0 : Nat) (f_a0 : Nat → Int32) (hA_a0 : AL G κ a0 n_a0) (hB_a0 : BA G κ a0 f_a0 n_a0) (hn_a0 : n_a0 ≤ 1000000) (hf_a0 : ∀ i : Nat, i < n_a0 → -128 ≤ (f_a0 i).toInt ∧ (f_a0 i).toInt ≤ 127) (a1 : Int32) (a2 : Int32) (a3 : Int32) (hz : 0 ≤ a2.toInt ∧ a3.toInt ≤ n_a0) {post : Int32 → CS → Prop} (kk : ∀ r : Int32, (True) → post r κ) : F_J1_indexOfChar_4cfef G a0 a1 a2 a3 post κ := by
  unfold F_J1_indexOfChar_4cfef
  have k_m1 : ((-1) : Int32).toInt = (-1) := rfl
  have k_0 : (0 : Int32).toInt = 0 := rfl
  have k_1 : (1 : Int32).toInt = 1 := rfl
  have kl_m1 : ((-1) : Int64).toInt = (-1) := rfl
  have kl_1 : (1 : Int64).toInt = 1 := rfl
  have rg_a1 := i_range a1
  have rg_a2 := i_range a2
  have rg_a3 := i_range a3
  intro z1 ez1
  have hz1 := i_b8 ez1
  have rg_z1 := i_range z1
  refine lc_in (fun (x : Int32) (κ' : CS) => κ = κ' ∧ (((0 ≤ x.toInt)))) (fun (x : Int32) (_ : CS) => (2147483647 - x.toInt).toNat) ⟨rfl, (by (try dsimp only); omega)⟩ (fun x2 κ3 hJ K4 hK4 => ?_)
  obtain ⟨hsg, hv⟩ := hJ
  subst hsg
  (try dsimp only at hv)
  have rg_x2 := i_range x2
  refine ⟨fun c1 => ?_, fun c1 => ?_⟩
  · exact kk (-1) trivial
  · refine ⟨f_a0, n_a0, hB_a0, (by omega), ?_⟩
    intro z6 ez6
    have vz6 : -128 ≤ z6.toInt ∧ z6.toInt ≤ 127 := by rw [ez6]; exact hf_a0 _ (by omega)
    refine ⟨fun c2 => ?_, fun c2 => ?_⟩
    · intro z7 ez7
      try have hz7 := i_add ez7 (by omega) (by omega)
      have rg_z7 := i_range z7
      exact hK4 z7 κ ⟨rfl, (by (try dsimp only); omega)⟩ (by (try dsimp only); omega)
    · exact kk x2 trivial
set_option maxRecDepth 100000 in
set_option maxHeartbeats 4000000 in
theorem t_J1_indexOf_4cfef {G : GE} {E : CE} {W : CW} {c : Int} {κ : CS} (hV : CV G E W c κ) (a0 : Option Nat) (n_a0 : Nat) (f_a0 : Nat → Int32) (hA_a0 : AL G κ a0 n_a0) (hB_a0 : BA G κ a0 f_a0 n_a0) (hn_a0 : n_a0 ≤ 1000000) (hf_a0 : ∀ i : Nat, i < n_a0 → -128 ≤ (f_a0 i).toInt ∧ (f_a0 i).toInt ≤ 127) (a1 : Int32) (a2 : Int32) (a3 : Int32)  {post : Int32 → CS → Prop} (kk : ∀ r : Int32, (True) → post r κ) : F_J1_indexOf_4cfef G a0 a1 a2 a3 post κ := by
  unfold F_J1_indexOf_4cfef
  have k_m1 : ((-1) : Int32).toInt = (-1) := rfl
  have k_0 : (0 : Int32).toInt = 0 := rfl
  have kl_m1 : ((-1) : Int64).toInt = (-1) := rfl
  have rg_a1 := i_range a1
  have rg_a2 := i_range a2
  have rg_a3 := i_range a3
  refine t_J1_canEncode_9a6ad hV a1  (fun z2 pz2 => ?_)
  have rg_z2 := i_range z2
  refine ⟨fun c1 => ?_, fun c1 => ?_⟩
  · intro z4 mz4
    have rg_z4 := i_range z4
    refine ⟨n_a0, hA_a0, ?_⟩
    intro z5 ez5
    have lnz5 := nI_ln ez5 hn_a0
    have lmz5 := hn_a0
    intro z7 mz7
    have rg_z7 := i_range z7
    refine ⟨fun c2 => ?_, fun c2 => ?_⟩
    · refine t_J1_indexOfChar_4cfef hV a0 n_a0 f_a0 hA_a0 hB_a0 hn_a0 hf_a0 a1 z4 z7 (by omega) (fun z9 pz9 => ?_)
      have rg_z9 := i_range z9
      exact kk z9 trivial
    · exact kk (-1) trivial
  · exact kk (-1) trivial
set_option maxRecDepth 100000 in
set_option maxHeartbeats 4000000 in
theorem t_J0_indexOf_7cf53 {G : GE} {E : CE} {W : CW} {c : Int} {κ : CS} (hV : CV G E W c κ) (a1 : Int32) (a2 : Int32)  {post : Int32 → CS → Prop} (kk : ∀ r : Int32, (True) → post r κ) : F_J0_indexOf_7cf53 G a1 a2 post κ := by
  unfold F_J0_indexOf_7cf53
  have k_0 : (0 : Int32).toInt = 0 := rfl
  have rg_a1 := i_range a1
  have rg_a2 := i_range a2
  refine t_J0_isLatin1_aae02 hV   (fun z2 pz2 => ?_)
  have rg_z2 := i_range z2
  refine jc_dup ?_
  refine ⟨fun c1 => ?_, fun c1 => ?_⟩
  · refine t_J0_length_8abf5 hV   (fun z9 pz9 => ?_)
    have rg_z9 := i_range z9
    exfalso; omega
  · refine t_J0_length_8abf5 hV   (fun z12 pz12 => ?_)
    have rg_z12 := i_range z12
    refine t_J1_indexOf_4cfef hV (some G.2.2.2.2.2.2) 9 nmsF (Or.inr (Or.inr (Or.inr ⟨rfl, rfl⟩))) (Or.inr (Or.inr ⟨rfl, rfl, rfl⟩)) (by decide) (by decide) a1 a2 z12  (fun z14 pz14 => ?_)
    have rg_z14 := i_range z14
    (try dsimp only)
    exact kk z14 trivial
set_option maxRecDepth 100000 in
set_option maxHeartbeats 4000000 in
theorem t_J0_indexOf_0f7a4 {G : GE} {E : CE} {W : CW} {c : Int} {κ : CS} (hV : CV G E W c κ) (a1 : Int32)  {post : Int32 → CS → Prop} (kk : ∀ r : Int32, (True) → post r κ) : F_J0_indexOf_0f7a4 G a1 post κ := by
  unfold F_J0_indexOf_0f7a4
  have k_0 : (0 : Int32).toInt = 0 := rfl
  have kl_0 : (0 : Int64).toInt = 0 := rfl
  have rg_a1 := i_range a1
  refine t_J0_indexOf_7cf53 hV a1 0  (fun z2 pz2 => ?_)
  have rg_z2 := i_range z2
  exact kk z2 trivial
set_option maxRecDepth 100000 in
set_option maxHeartbeats 4000000 in
theorem t_X10_isName {G : GE} {E : CE} {W : CW} {c : Int} {κ : CS} (hV : CV G E W c κ) (h : Nat) (hs_h : W.1 h = 13) (a1 : Int32) (a2 : Int32)  {post : Int32 → CS → Prop} (kk : ∀ r : Int32, (0 ≤ r.toInt ∧ r.toInt ≤ 1) → post r κ) : F_X10_isName G h a1 a2 post κ := by
  unfold F_X10_isName
  have k_0 : (0 : Int32).toInt = 0 := rfl
  have k_1 : (1 : Int32).toInt = 1 := rfl
  have k_2 : (2 : Int32).toInt = 2 := rfl
  have k_12 : (12 : Int32).toInt = 12 := rfl
  have k_32 : (32 : Int32).toInt = 32 := rfl
  have k_46 : (46 : Int32).toInt = 46 := rfl
  have k_126 : (126 : Int32).toInt = 126 := rfl
  have kl_0 : (0 : Int64).toInt = 0 := rfl
  have kl_1 : (1 : Int64).toInt = 1 := rfl
  have rg_a1 := i_range a1
  have rg_a2 := i_range a2
  intro z1 ez1
  try have hz1 := i_sub ez1 (by omega) (by omega)
  have rg_z1 := i_range z1
  refine jc_dup ?_
  refine ⟨fun c1 => ?_, fun c1 => ?_⟩
  · (try dsimp only)
    refine ⟨by omega, ?_⟩
    exact kk 0 (by omega)
  · refine ⟨fun c2 => ?_, fun c2 => ?_⟩
    · refine jc_in (fun (x : Int32) (κ' : CS) => κ = κ' ∧ (((0 ≤ x.toInt ∧ x.toInt ≤ 1)))) (fun x7 κ8 hJ => ?_) (fun K9 hK9 => ?_)
      · obtain ⟨hsg, hv⟩ := hJ
        subst hsg
        (try dsimp only at hv)
        have rg_x7 := i_range x7
        refine lc_in (fun (x : Int32 × Int32) (κ' : CS) => κ = κ' ∧ (((0 ≤ x.2.toInt ∧ x.2.toInt ≤ 1)))) (fun (x : Int32 × Int32) (_ : CS) => (2147483647 - x.1.toInt).toNat) ⟨rfl, (by (try dsimp only); omega)⟩ (fun x12 κ13 hJ K14 hK14 => ?_)
        obtain ⟨hsg, hv⟩ := hJ
        subst hsg
        (try dsimp only at hv)
        have rg_x12_1 := i_range x12.1
        have rg_x12_2 := i_range x12.2
        refine ⟨fun c3 => ?_, fun c3 => ?_⟩
        · refine jc_dup ?_
          refine ⟨fun c4 => ?_, fun c4 => ?_⟩
          · (try dsimp only)
            refine ⟨by omega, ?_⟩
            exact kk 0 (by omega)
          · (try dsimp only)
            refine ⟨by omega, ?_⟩
            exact kk 1 (by omega)
        · refine ⟨(hV.mm hs_h (by decide) rfl), ?_⟩
          refine t_X10_unit hV h hs_h x12.1  (fun z22 pz22 => ?_)
          have rg_z22 := i_range z22
          refine jc_dup ?_
          refine ⟨fun c5 => ?_, fun c5 => ?_⟩
          · (try dsimp only)
            refine ⟨by omega, ?_⟩
            exact kk 0 (by omega)
          · refine ⟨fun c6 => ?_, fun c6 => ?_⟩
            · (try dsimp only)
              refine ⟨by omega, ?_⟩
              exact kk 0 (by omega)
            · intro z28 ez28
              have rg_z28 := i_range z28
              refine t_J0_indexOf_0f7a4 hV z28  (fun z30 pz30 => ?_)
              have rg_z30 := i_range z30
              refine ⟨fun c7 => ?_, fun c7 => ?_⟩
              · refine jc_dup ?_
                refine jc_dup ?_
                refine ⟨fun c8 => ?_, fun c8 => ?_⟩
                · (try dsimp only)
                  (try dsimp only)
                  intro z36 ez36
                  try have hz36 := i_add ez36 (by omega) (by omega)
                  have rg_z36 := i_range z36
                  exact hK14 (z36, 0) κ ⟨rfl, (by (try dsimp only); omega)⟩ (by (try dsimp only); omega)
                · refine ⟨fun c9 => ?_, fun c9 => ?_⟩
                  · (try dsimp only)
                    (try dsimp only)
                    intro z36 ez36
                    try have hz36 := i_add ez36 (by omega) (by omega)
                    have rg_z36 := i_range z36
                    exact hK14 (z36, 0) κ ⟨rfl, (by (try dsimp only); omega)⟩ (by (try dsimp only); omega)
                  · (try dsimp only)
                    intro z36 ez36
                    try have hz36 := i_add ez36 (by omega) (by omega)
                    have rg_z36 := i_range z36
                    exact hK14 (z36, 1) κ ⟨rfl, (by (try dsimp only); omega)⟩ (by (try dsimp only); omega)
              · (try dsimp only)
                refine ⟨by omega, ?_⟩
                exact kk 0 (by omega)
      · skip
        refine ⟨fun c10 => ?_, fun c10 => ?_⟩
        · exact hK9 0 κ ⟨rfl, (by (try dsimp only); omega)⟩
        · exact hK9 1 κ ⟨rfl, (by (try dsimp only); omega)⟩
    · (try dsimp only)
      refine ⟨by omega, ?_⟩
      exact kk 0 (by omega)
set_option maxRecDepth 100000 in
set_option maxHeartbeats 4000000 in
theorem t_J8_hugeLength_7cf53 {G : GE} {E : CE} {W : CW} {c : Int} {κ : CS} (hV : CV G E W c κ) (a0 : Int32) (a1 : Int32) (hz : 0 ≤ a0.toInt ∧ a0.toInt ≤ 1000 ∧ 0 ≤ a1.toInt ∧ a1.toInt ≤ 1000) {post : Int32 → CS → Prop} (kk : ∀ r : Int32, (True) → post r κ) : F_J8_hugeLength_7cf53 G a0 a1 post κ := by
  unfold F_J8_hugeLength_7cf53
  have k_0 : (0 : Int32).toInt = 0 := rfl
  have k_2147483639 : (2147483639 : Int32).toInt = 2147483639 := rfl
  have kl_2147483639 : (2147483639 : Int64).toInt = 2147483639 := rfl
  have rg_a0 := i_range a0
  have rg_a1 := i_range a1
  intro z1 ez1
  try have hz1 := i_add ez1 (by omega) (by omega)
  have rg_z1 := i_range z1
  refine ⟨fun c1 => ?_, fun c1 => ?_⟩
  · refine ⟨fun c2 => ?_, fun c2 => ?_⟩
    · exact kk z1 trivial
    · exact kk 2147483639 trivial
  · exfalso; omega
set_option maxRecDepth 100000 in
set_option maxHeartbeats 4000000 in
theorem t_J8_newLength_cabcc {G : GE} {E : CE} {W : CW} {c : Int} {κ : CS} (hV : CV G E W c κ) (a0 : Int32) (a1 : Int32) (a2 : Int32) (hz : 0 ≤ a0.toInt ∧ a0.toInt ≤ 1000 ∧ 1 ≤ a1.toInt ∧ a1.toInt ≤ 1000 ∧ 0 ≤ a2.toInt ∧ a2.toInt ≤ 1000) {post : Int32 → CS → Prop} (kk : ∀ r : Int32, (a0.toInt < r.toInt ∧ (r.toInt = a0.toInt + a1.toInt ∨ r.toInt = a0.toInt + a2.toInt) ∧ a0.toInt + a1.toInt ≤ r.toInt) → post r κ) : F_J8_newLength_cabcc G a0 a1 a2 post κ := by
  unfold F_J8_newLength_cabcc
  have k_0 : (0 : Int32).toInt = 0 := rfl
  have k_2147483639 : (2147483639 : Int32).toInt = 2147483639 := rfl
  have rg_a0 := i_range a0
  have rg_a1 := i_range a1
  have rg_a2 := i_range a2
  intro z2 mz2
  have rg_z2 := i_range z2
  intro z3 ez3
  try have hz3 := i_add ez3 (by omega) (by omega)
  have rg_z3 := i_range z3
  refine jc_dup ?_
  refine ⟨fun c1 => ?_, fun c1 => ?_⟩
  · (try dsimp only)
    refine t_J8_hugeLength_7cf53 hV a0 a1 (by omega) (fun z10 pz10 => ?_)
    have rg_z10 := i_range z10
    exact kk z10 (by omega)
  · refine ⟨fun c2 => ?_, fun c2 => ?_⟩
    · (try dsimp only)
      refine t_J8_hugeLength_7cf53 hV a0 a1 (by omega) (fun z10 pz10 => ?_)
      have rg_z10 := i_range z10
      exact kk z10 (by omega)
    · exact kk z3 (by omega)
set_option maxRecDepth 100000 in
set_option maxHeartbeats 4000000 in
theorem t_X11_firstEndingSession {G : GE} {E : CE} {W : CW} {c : Int} {κ : CS} (hV : CV G E W c κ) (h : Nat) (hs_h : W.1 h = 1)  {post : Int32 → CS → Prop} (kk : ∀ r : Int32, (-1 ≤ r.toInt ∧ (0 ≤ r.toInt → ∀ l, sP κ.1 h 8 = some l → r.toInt < (sI κ.1 l 2).toInt)) → post r κ) : F_X11_firstEndingSession G h post κ := by
  unfold F_X11_firstEndingSession
  have k_m1 : ((-1) : Int32).toInt = (-1) := rfl
  have k_0 : (0 : Int32).toInt = 0 := rfl
  have k_1 : (1 : Int32).toInt = 1 := rfl
  have kl_m1 : ((-1) : Int64).toInt = (-1) := rfl
  have kl_1 : (1 : Int64).toInt = 1 := rfl
  refine lc_in (fun (x : Int32) (κ' : CS) => κ = κ' ∧ (((0 ≤ x.toInt)))) (fun (x : Int32) (_ : CS) => (2147483647 - x.toInt).toNat) ⟨rfl, (by (try dsimp only); omega)⟩ (fun x1 κ2 hJ K3 hK3 => ?_)
  obtain ⟨hsg, hv⟩ := hJ
  subst hsg
  (try dsimp only at hv)
  have rg_x1 := i_range x1
  refine ⟨(hV.mm hs_h (by decide) rfl), ?_⟩
  intro z5 ez5
  obtain ⟨bz5, ebz5, hsz5⟩ := hV.1.nn hs_h (by decide) rfl 8 rfl (by decide)
  rw [← ez5] at ebz5
  refine ⟨bz5, ebz5, (hV.mm hsz5 (by decide) rfl), ?_⟩
  refine t_Jx4a65c_size_8abf5 hV bz5 hsz5 (by decide) (fun z7 pz7 => ?_)
  have rg_z7 := i_range z7
  refine ⟨fun c1 => ?_, fun c1 => ?_⟩
  · exact kk (-1) ⟨by omega, fun q => by exfalso; omega⟩
  · refine ⟨(hV.mm hs_h (by decide) rfl), ?_⟩
    intro z8 ez8
    have ebz8 : z8 = some bz5 := (ez8.trans ez5.symm).trans ebz5
    refine ⟨bz5, ebz8, (hV.mm hsz5 (by decide) rfl), ?_⟩
    refine t_Jx4a65c_get_915e3 hV bz5 hsz5 (by decide) x1 (by omega) (fun z10 pz10 => ?_)
    obtain ⟨bz10, ebz10, hsz10⟩ := pz10
    have hsz10 : W.1 bz10 = 11 := hsz10
    refine ⟨Or.inr ⟨bz10, ebz10, (hV.mm hsz10 (by decide) rfl)⟩, ?_⟩
    refine ⟨bz10, ebz10, (hV.mm hsz10 (by decide) rfl), ?_⟩
    intro z11 ez11
    have vz11 := hV.1.iv hsz10 (by decide) rfl 4 0 1 rfl ez11
    have wz11 : z11.toInt = (sI κ.1 bz10 4).toInt := by rw [ez11]
    refine ⟨fun c2 => ?_, fun c2 => ?_⟩
    · intro z12 ez12
      try have hz12 := i_add ez12 (by omega) (by omega)
      have rg_z12 := i_range z12
      exact hK3 z12 κ ⟨rfl, (by (try dsimp only); omega)⟩ (by (try dsimp only); omega)
    · exact kk x1 ⟨by omega, fun _ l hl => by rw [← ez5, ebz5] at hl; cases hl; omega⟩
set_option maxRecDepth 100000 in
set_option maxHeartbeats 4000000 in
theorem t_X11_firstEndingTree {G : GE} {E : CE} {W : CW} {c : Int} {κ : CS} (hV : CV G E W c κ) (h : Nat) (hs_h : W.1 h = 1) (a1 : Option Nat) (n_a1 : a1 = none ∨ ∃ b, a1 = some b ∧ W.1 b = 11)  {post : Int32 → CS → Prop} (kk : ∀ r : Int32, (-1 ≤ r.toInt ∧ (0 ≤ r.toInt → ∀ l, sP κ.1 h 9 = some l → r.toInt < (sI κ.1 l 2).toInt)) → post r κ) : F_X11_firstEndingTree G h a1 post κ := by
  unfold F_X11_firstEndingTree
  have k_m1 : ((-1) : Int32).toInt = (-1) := rfl
  have k_0 : (0 : Int32).toInt = 0 := rfl
  have k_1 : (1 : Int32).toInt = 1 := rfl
  have kl_m1 : ((-1) : Int64).toInt = (-1) := rfl
  have kl_1 : (1 : Int64).toInt = 1 := rfl
  refine lc_in (fun (x : Int32) (κ' : CS) => κ = κ' ∧ (((0 ≤ x.toInt)))) (fun (x : Int32) (_ : CS) => (2147483647 - x.toInt).toNat) ⟨rfl, (by (try dsimp only); omega)⟩ (fun x1 κ2 hJ K3 hK3 => ?_)
  obtain ⟨hsg, hv⟩ := hJ
  subst hsg
  (try dsimp only at hv)
  have rg_x1 := i_range x1
  refine ⟨(hV.mm hs_h (by decide) rfl), ?_⟩
  intro z5 ez5
  obtain ⟨bz5, ebz5, hsz5⟩ := hV.1.nn hs_h (by decide) rfl 9 rfl (by decide)
  rw [← ez5] at ebz5
  refine ⟨bz5, ebz5, (hV.mm hsz5 (by decide) rfl), ?_⟩
  refine t_Jx4a65c_size_8abf5 hV bz5 hsz5 (by decide) (fun z7 pz7 => ?_)
  have rg_z7 := i_range z7
  refine ⟨fun c1 => ?_, fun c1 => ?_⟩
  · exact kk (-1) ⟨by omega, fun q => by exfalso; omega⟩
  · refine ⟨(hV.mm hs_h (by decide) rfl), ?_⟩
    intro z8 ez8
    have ebz8 : z8 = some bz5 := (ez8.trans ez5.symm).trans ebz5
    refine ⟨bz5, ebz8, (hV.mm hsz5 (by decide) rfl), ?_⟩
    refine t_Jx4a65c_get_915e3 hV bz5 hsz5 (by decide) x1 (by omega) (fun z10 pz10 => ?_)
    obtain ⟨bz10, ebz10, hsz10⟩ := pz10
    have hsz10 : W.1 bz10 = 12 := hsz10
    refine ⟨Or.inr ⟨bz10, ebz10, (hV.mm hsz10 (by decide) rfl)⟩, ?_⟩
    refine ⟨bz10, ebz10, (hV.mm hsz10 (by decide) rfl), ?_⟩
    intro z11 ez11
    have vz11 := hV.1.iv hsz10 (by decide) rfl 3 0 1 rfl ez11
    have wz11 : z11.toInt = (sI κ.1 bz10 3).toInt := by rw [ez11]
    refine jc_dup ?_
    refine ⟨fun c2 => ?_, fun c2 => ?_⟩
    · (try dsimp only)
      exact kk x1 ⟨by omega, fun _ l hl => by rw [← ez5, ebz5] at hl; cases hl; omega⟩
    · refine jc_dup ?_
      refine ⟨fun c3 => ?_, fun c3 => ?_⟩
      · (try dsimp only)
        intro z22 ez22
        try have hz22 := i_add ez22 (by omega) (by omega)
        have rg_z22 := i_range z22
        exact hK3 z22 κ ⟨rfl, (by (try dsimp only); omega)⟩ (by (try dsimp only); omega)
      · obtain ⟨bn1, ebn1, hsn1⟩ := n_a1.resolve_left c3
        refine ⟨bz10, ebz10, (hV.mm hsz10 (by decide) rfl), ?_⟩
        intro z23 ez23
        obtain ⟨bz23, ebz23, hsz23⟩ := hV.1.nn hsz10 (by decide) rfl 1 rfl (by decide)
        rw [← ez23] at ebz23
        refine ⟨fun c4 => ?_, fun c4 => ?_⟩
        · (try dsimp only)
          intro z22 ez22
          try have hz22 := i_add ez22 (by omega) (by omega)
          have rg_z22 := i_range z22
          exact hK3 z22 κ ⟨rfl, (by (try dsimp only); omega)⟩ (by (try dsimp only); omega)
        · (try dsimp only)
          exact kk x1 ⟨by omega, fun _ l hl => by rw [← ez5, ebz5] at hl; cases hl; omega⟩
set_option maxRecDepth 100000 in
set_option maxHeartbeats 4000000 in
theorem t_X11_eldestLock {G : GE} {E : CE} {W : CW} {c : Int} {κ : CS} (hV : CV G E W c κ) (h : Nat) (hs_h : W.1 h = 1) (a1 : Option Nat) (b_a1 : Nat) (e_a1 : a1 = some b_a1) (hs_a1 : W.1 b_a1 = 10) (a2 : Int64) (a4 : Int64)  {post : Int32 → CS → Prop} (kk : ∀ r : Int32, (-1 ≤ r.toInt ∧ (0 ≤ r.toInt → ∀ l, sP κ.1 h 11 = some l → r.toInt < (sI κ.1 l 2).toInt)) → post r κ) : F_X11_eldestLock G h a1 a2 a4 post κ := by
  unfold F_X11_eldestLock
  have k_m1 : ((-1) : Int32).toInt = (-1) := rfl
  have k_0 : (0 : Int32).toInt = 0 := rfl
  have k_1 : (1 : Int32).toInt = 1 := rfl
  have kl_m1 : ((-1) : Int64).toInt = (-1) := rfl
  have kl_1 : (1 : Int64).toInt = 1 := rfl
  have rg_a2 := l_range a2
  have rg_a4 := l_range a4
  refine lc_in (fun (x : Int32) (κ' : CS) => κ = κ' ∧ (((0 ≤ x.toInt)))) (fun (x : Int32) (_ : CS) => (2147483647 - x.toInt).toNat) ⟨rfl, (by (try dsimp only); omega)⟩ (fun x1 κ2 hJ K3 hK3 => ?_)
  obtain ⟨hsg, hv⟩ := hJ
  subst hsg
  (try dsimp only at hv)
  have rg_x1 := i_range x1
  refine ⟨(hV.mm hs_h (by decide) rfl), ?_⟩
  intro z5 ez5
  obtain ⟨bz5, ebz5, hsz5⟩ := hV.1.nn hs_h (by decide) rfl 11 rfl (by decide)
  rw [← ez5] at ebz5
  refine ⟨bz5, ebz5, (hV.mm hsz5 (by decide) rfl), ?_⟩
  refine t_Jx4a65c_size_8abf5 hV bz5 hsz5 (by decide) (fun z7 pz7 => ?_)
  have rg_z7 := i_range z7
  refine ⟨fun c1 => ?_, fun c1 => ?_⟩
  · exact kk (-1) ⟨by omega, fun q => by exfalso; omega⟩
  · refine ⟨(hV.mm hs_h (by decide) rfl), ?_⟩
    intro z8 ez8
    have ebz8 : z8 = some bz5 := (ez8.trans ez5.symm).trans ebz5
    refine ⟨bz5, ebz8, (hV.mm hsz5 (by decide) rfl), ?_⟩
    refine t_Jx4a65c_get_915e3 hV bz5 hsz5 (by decide) x1 (by omega) (fun z10 pz10 => ?_)
    obtain ⟨bz10, ebz10, hsz10⟩ := pz10
    have hsz10 : W.1 bz10 = 9 := hsz10
    refine ⟨Or.inr ⟨bz10, ebz10, (hV.mm hsz10 (by decide) rfl)⟩, ?_⟩
    refine ⟨bz10, ebz10, (hV.mm hsz10 (by decide) rfl), ?_⟩
    intro z11 ez11
    obtain ⟨bz11, ebz11, hsz11⟩ := hV.1.nn hsz10 (by decide) rfl 0 rfl (by decide)
    rw [← ez11] at ebz11
    refine jc_dup ?_
    refine ⟨fun c2 => ?_, fun c2 => ?_⟩
    · (try dsimp only)
      intro z17 ez17
      try have hz17 := i_add ez17 (by omega) (by omega)
      have rg_z17 := i_range z17
      exact hK3 z17 κ ⟨rfl, (by (try dsimp only); omega)⟩ (by (try dsimp only); omega)
    · refine ⟨bz10, ebz10, (hV.mm hsz10 (by decide) rfl), ?_⟩
      intro z18 ez18
      have vz18 := l_range z18
      have wz18 : z18.toInt = (sJ κ.1 bz10 1).toInt := by rw [ez18]
      refine ⟨fun c3 => ?_, fun c3 => ?_⟩
      · (try dsimp only)
        intro z17 ez17
        try have hz17 := i_add ez17 (by omega) (by omega)
        have rg_z17 := i_range z17
        exact hK3 z17 κ ⟨rfl, (by (try dsimp only); omega)⟩ (by (try dsimp only); omega)
      · refine ⟨bz10, ebz10, (hV.mm hsz10 (by decide) rfl), ?_⟩
        intro z19 ez19
        have vz19 := l_range z19
        have wz19 : z19.toInt = (sJ κ.1 bz10 2).toInt := by rw [ez19]
        refine ⟨fun c4 => ?_, fun c4 => ?_⟩
        · (try dsimp only)
          intro z17 ez17
          try have hz17 := i_add ez17 (by omega) (by omega)
          have rg_z17 := i_range z17
          exact hK3 z17 κ ⟨rfl, (by (try dsimp only); omega)⟩ (by (try dsimp only); omega)
        · exact kk x1 ⟨by omega, fun _ l hl => by rw [← ez5, ebz5] at hl; cases hl; omega⟩

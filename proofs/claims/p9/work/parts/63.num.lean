/-! numbers of the row that is read; what is sent -/
section R63
variable {h0 : Nat} {L : Nat → Nat} {σ : HS}
theorem InM.at {M : Int} (h : InM h0 L σ M) (hM : MdI h0 L σ) {q : Option Nat} (e : q = sP σ h0 85) (i : Int) (h1 : 0 ≤ i) (h2 : i < (sI σ h0 86).toInt + M) : ∃ j : Nat, (j = 29 ∨ j = 75) ∧ q = some (L j) ∧ (0 ≤ i ∧ i < (lnL.getD j 0 : Int)) ∧ InRow h0 L σ = sI σ (L j) := by
  rcases h with ⟨a, b⟩ | ⟨a, b⟩
  · refine ⟨29, Or.inl rfl, by rw [e, a], ⟨h1, ?_⟩, InRow_1 a⟩
    have : (lnL.getD 29 0 : Int) = 72600 := rfl
    omega
  · refine ⟨75, Or.inr rfl, by rw [e, a], ⟨h1, ?_⟩, InRow_2 hM a⟩
    have : (lnL.getD 75 0 : Int) = 64000 := rfl
    omega
theorem OKM.aIn (hI : OKM h0 L σ) {j : Nat} (hj : j = 29 ∨ j = 75) {i : Int} (hb : 0 ≤ i ∧ i < (lnL.getD j 0 : Int)) {z : Int32} (e : z = sI σ (L j) i.toNat) : -128 ≤ z.toInt ∧ z.toInt ≤ 127 := by
  rcases hj with rfl | rfl
  · exact hI.aI 29 72600 (-128) 127 (by decide) (by decide) rfl rfl rfl hb e
  · exact hI.aI 75 64000 (-128) 127 (by decide) (by decide) rfl rfl rfl hb e
theorem num_t {z : Int64} {a : Int} {n K : Nat} (h : z = lN (NUM h0 L σ a n)) (hK : 256 ^ n = K) (hn : K ≤ 2 ^ 56) : z.toInt = (NUM h0 L σ a n : Int) ∧ z.toInt < K := by
  have h1 := NUM_lt (h0 := h0) (L := L) (σ := σ) (a := a) (n := n)
  rw [hK] at h1
  have h2 := num_i h (by omega)
  omega
theorem s_X12_number (hI : OKM h0 L σ) (a1 a2 : Int32) (hz : 0 ≤ a1.toInt ∧ 0 ≤ a2.toInt ∧ a2.toInt ≤ 8 ∧ a1.toInt ≤ 100000) (hN : InM h0 L σ (a1.toInt + a2.toInt)) {post : Int64 → HS → Prop} (kk : ∀ r : Int64, r = lN (NUM h0 L σ a1.toInt a2.toInt.toNat) → post r σ) : F_X12_number h0 L a1 a2 post σ := by
  unfold F_X12_number
  have k_1 : (1 : Int32).toInt = 1 := rfl
  have k_m1 : (-1 : Int32).toInt = -1 := rfl
  have k_0 : (0 : Int32).toInt = 0 := rfl
  have hbs : (0 : Int) ≤ (sI σ h0 86).toInt ∧ (sI σ h0 86).toInt ≤ 72600 := hI.fI 86 0 72600 (by decide) rfl rfl rfl rfl
  intro z1 ez1
  have hz1 := i_sub ez1 (by omega) (by omega)
  refine lw_in (fun (x : Int32 × Int64) (σ' : HS) => σ = σ' ∧ (-1 ≤ x.1.toInt ∧ x.1.toInt < a2.toInt) ∧ x.2 = lN (NumN (InRow h0 L σ) ((sI σ h0 86).toInt + a1.toInt + x.1.toInt + 1).toNat (a2.toInt - 1 - x.1.toInt).toNat)) (fun x _ => (1 + x.1.toInt).toNat) ⟨rfl, by (try dsimp only); omega, ?_⟩ (fun x2 σ3 hJ K4 hK4 => ?_)
  · dsimp only
    rw [show (a2.toInt - 1 - z1.toInt).toNat = 0 by omega]
    rfl
  obtain ⟨hsg, hv, hx⟩ := hJ
  subst hsg
  refine ⟨fun c1 => ?_, fun c1 => ?_⟩
  · refine kk _ ?_
    unfold NUM
    rw [hx, show ((sI σ h0 86).toInt + a1.toInt + x2.1.toInt + 1) = (sI σ h0 86).toInt + a1.toInt by omega, show (a2.toInt - 1 - x2.1.toInt).toNat = a2.toInt.toNat by omega]
  intro z6 ez6 z7 ez7 z8 ez8 z9 ez9
  have w8 : z8.toInt = (sI σ h0 86).toInt := by rw [ez8]
  have hz9 := i_add ez9 (by omega) (by omega)
  intro z10 ez10
  have hz10 := i_add ez10 (by omega) (by omega)
  obtain ⟨j, hj, hq, hb, hrow⟩ := hN.at hI.2 ez7 z10.toInt (by omega) (by omega)
  refine ⟨j, hj, hq, hb, ?_⟩
  intro z11 ez11 z12 ez12 z13 ez13 z14 ez14 z15 ez15
  have hz15 := i_add ez15 (by omega) (by omega)
  have hst := num_step (f := InRow h0 L σ) (s := z10.toInt.toNat) (c := (a2.toInt - 1 - x2.1.toInt).toNat) (z := z11) (by omega) (by rw [hrow]; exact ez11)
  have hs1 : ((sI σ h0 86).toInt + a1.toInt + x2.1.toInt + 1).toNat = z10.toInt.toNat + 1 := by omega
  have hs2 : ((sI σ h0 86).toInt + a1.toInt + z15.toInt + 1).toNat = z10.toInt.toNat := by omega
  have hs3 : (a2.toInt - 1 - z15.toInt).toNat = (a2.toInt - 1 - x2.1.toInt).toNat + 1 := by omega
  refine hK4 (z15, z14) σ ⟨rfl, by (try dsimp only); omega, ?_⟩ (by (try dsimp only); omega)
  dsimp only
  rw [hs2, hs3, ← hst, ← hs1, ← hx, ez14, ez6, ez13, ez12]
theorem s_X12_number1 (hI : OKM h0 L σ) (a1 : Int32) (hz : 0 ≤ a1.toInt ∧ a1.toInt ≤ 100000) (hN : InM h0 L σ (a1.toInt + 1)) {post : Int32 → HS → Prop} (kk : ∀ r : Int32, (0 ≤ r.toInt ∧ r.toInt ≤ 255) → post r σ) : F_X12_number1 h0 L a1 post σ := by
  unfold F_X12_number1
  have k_255 : (255 : Int32).toInt = 255 := rfl
  have hbs : (0 : Int) ≤ (sI σ h0 86).toInt ∧ (sI σ h0 86).toInt ≤ 72600 := hI.fI 86 0 72600 (by decide) rfl rfl rfl rfl
  intro z1 ez1 z2 ez2 z3 ez3
  have w2 : z2.toInt = (sI σ h0 86).toInt := by rw [ez2]
  have hz3 := i_add ez3 (by omega) (by omega)
  obtain ⟨j, hj, hq, hb, hrow⟩ := hN.at hI.2 ez1 z3.toInt (by omega) (by omega)
  refine ⟨j, hj, hq, hb, ?_⟩
  intro z4 ez4 z5 ez5
  have hz5 := i_and ez5 (by omega)
  exact kk _ (by omega)
theorem s_X12_number2 (hI : OKM h0 L σ) (a1 : Int32) (hz : 0 ≤ a1.toInt ∧ a1.toInt ≤ 100000) (hN : InM h0 L σ (a1.toInt + 2)) {post : Int32 → HS → Prop} (kk : ∀ r : Int32, (r.toInt = (NUM h0 L σ a1.toInt 2 : Int) ∧ r.toInt < 65536 ∧ 0 ≤ r.toInt) → post r σ) : F_X12_number2 h0 L a1 post σ := by
  unfold F_X12_number2
  have k_2 : (2 : Int32).toInt = 2 := rfl
  refine s_X12_number hI a1 2 (by omega) hN (fun z2 pz2 => ?_)
  have t := num_t (n := 2) (K := 65536) pz2 rfl (by decide)
  intro z3 ez3
  have hz3 := l_toi ez3 (by omega) (by omega)
  exact kk _ (by omega)
end R63

set_option maxRecDepth 100000 in
set_option maxHeartbeats 4000000 in
theorem s_X12_small {h0 : Nat} {L : Nat → Nat} {σ : HS} (hI : OKM h0 L σ) (a1 : Int32) (hz : 0 ≤ a1.toInt ∧ a1.toInt ≤ 1100) {post : Int64 → HS → Prop} (kk : ∀ (r : Int64) (σ' : HS), OKM h0 L σ' → Fr h0 L [91] [76] σ σ' → (r.toInt = 0 ∧ (sI σ' h0 91).toInt = 64 + a1.toInt) → post r σ') : F_X12_small h0 L a1 post σ := by
  unfold F_X12_small
  have k_0 : (0 : Int32).toInt = 0 := rfl
  have k_2 : (2 : Int32).toInt = 2 := rfl
  have k_64 : (64 : Int32).toInt = 64 := rfl
  have kl_0 : (0 : Int64).toInt = 0 := rfl
  have rg_a1 := i_range a1
  have hfr : Fr h0 L [91] [76] σ σ := Fr.rf
  refine s_X12_body hI a1 (by omega) (fun σ1 hI fz2 pz2 => ?_)
  have hfr := hfr.tr fz2 (by decide) (by decide)
  intro z3 ez3
  have hz3 := i_tol ez3
  have rg_z3 := l_range z3
  refine s_X12_set hI 64 2 z3 (by omega) (fun σ4 hI fz5 pz5 => ?_)
  have hfr := hfr.tr fz5 (by decide) (by decide)
  have tk2 : (sI σ4 h0 91).toInt = (sI σ1 h0 91).toInt := by rw [(fz5.1 91 (by decide)).1]
  exact kk 0 σ4 hI hfr ⟨(by (try dsimp only); omega), by omega⟩
set_option maxRecDepth 100000 in
set_option maxHeartbeats 4000000 in
theorem s_X12_header {h0 : Nat} {L : Nat → Nat} {σ : HS} (hI : OKM h0 L σ) (a1 : Int64) (a3 : Int32) (a4 : Int32) (a5 : Int32) (a6 : Int64) (a8 : Int64) (a10 : Int64) (a12 : Int64)  {post : HS → Prop} (kk : ∀ (σ' : HS), OKM h0 L σ' → Fr h0 L [] [76] σ σ' → (True) → post σ') : F_X12_header h0 L a1 a3 a4 a5 a6 a8 a10 a12 post σ := by
  unfold F_X12_header
  have k_0 : (0 : Int32).toInt = 0 := rfl
  have k_1 : (1 : Int32).toInt = 1 := rfl
  have k_2 : (2 : Int32).toInt = 2 := rfl
  have k_4 : (4 : Int32).toInt = 4 := rfl
  have k_6 : (6 : Int32).toInt = 6 := rfl
  have k_8 : (8 : Int32).toInt = 8 := rfl
  have k_12 : (12 : Int32).toInt = 12 := rfl
  have k_14 : (14 : Int32).toInt = 14 := rfl
  have k_16 : (16 : Int32).toInt = 16 := rfl
  have k_24 : (24 : Int32).toInt = 24 := rfl
  have k_32 : (32 : Int32).toInt = 32 := rfl
  have k_40 : (40 : Int32).toInt = 40 := rfl
  have k_64 : (64 : Int32).toInt = 64 := rfl
  have kl_64 : (64 : Int64).toInt = 64 := rfl
  have kl_1112364030 : (1112364030 : Int64).toInt = 1112364030 := rfl
  have rg_a1 := l_range a1
  have rg_a3 := i_range a3
  have rg_a4 := i_range a4
  have rg_a5 := i_range a5
  have rg_a6 := l_range a6
  have rg_a8 := l_range a8
  have rg_a10 := l_range a10
  have rg_a12 := l_range a12
  have hfr : Fr h0 L [] [76] σ σ := Fr.rf
  refine lw_in (fun (x : Int32) (σ' : HS) => OKM h0 L σ' ∧ Fr h0 L [] [76] σ σ' ∧ ((0 ≤ x.toInt ∧ x.toInt ≤ 64))) (fun (x : Int32) (σ' : HS) => (64 - x.toInt).toNat) ⟨hI, hfr, (by (try dsimp only); omega)⟩ (fun x1 σ2 hJ K3 hK3 => ?_)
  obtain ⟨hI, hfr, hv⟩ := hJ
  (try dsimp only at hv)
  have rg_x1 := i_range x1
  refine ⟨fun c1 => ?_, fun c1 => ?_⟩
  · refine s_X12_set hI 0 4 1112364030 (by omega) (fun σ5 hI fz6 pz6 => ?_)
    have hfr := hfr.tr fz6 (by decide) (by decide)
    refine s_X12_set hI 4 2 64 (by omega) (fun σ7 hI fz8 pz8 => ?_)
    have hfr := hfr.tr fz8 (by decide) (by decide)
    intro z9 ez9
    have hz9 := i_tol ez9
    have rg_z9 := l_range z9
    refine s_X12_set hI 6 2 z9 (by omega) (fun σ10 hI fz11 pz11 => ?_)
    have hfr := hfr.tr fz11 (by decide) (by decide)
    refine s_X12_set hI 8 4 a1 (by omega) (fun σ12 hI fz13 pz13 => ?_)
    have hfr := hfr.tr fz13 (by decide) (by decide)
    intro z14 ez14
    have hz14 := i_tol ez14
    have rg_z14 := l_range z14
    refine s_X12_set hI 12 2 z14 (by omega) (fun σ15 hI fz16 pz16 => ?_)
    have hfr := hfr.tr fz16 (by decide) (by decide)
    intro z17 ez17
    have hz17 := i_tol ez17
    have rg_z17 := l_range z17
    refine s_X12_set hI 14 2 z17 (by omega) (fun σ18 hI fz19 pz19 => ?_)
    have hfr := hfr.tr fz19 (by decide) (by decide)
    refine s_X12_set hI 16 4 a6 (by omega) (fun σ20 hI fz21 pz21 => ?_)
    have hfr := hfr.tr fz21 (by decide) (by decide)
    refine s_X12_set hI 24 8 a8 (by omega) (fun σ22 hI fz23 pz23 => ?_)
    have hfr := hfr.tr fz23 (by decide) (by decide)
    refine s_X12_set hI 32 8 a10 (by omega) (fun σ24 hI fz25 pz25 => ?_)
    have hfr := hfr.tr fz25 (by decide) (by decide)
    refine s_X12_set hI 40 8 a12 (by omega) (fun σ26 hI fz27 pz27 => ?_)
    have hfr := hfr.tr fz27 (by decide) (by decide)
    exact kk σ26 hI hfr trivial
  · intro z28 ez28
    have vz28 := hI.fI 90 0 85000 (by decide) rfl rfl rfl ez28
    have wz28 : z28.toInt = (sI σ2 h0 90).toInt := by rw [ez28]
    intro z29 ez29
    try have hz29 := i_add ez29 (by omega) (by omega)
    have rg_z29 := i_range z29
    refine ⟨by omega, ?_⟩
    intro σ30 eσ30
    have hMp := hI.2
    have hI := hI.pA 76 (-128) 127 (by decide) (by decide) rfl rfl (i_byte _) eσ30
    have hfr := hfr.aI hMp (by decide) eσ30 (by decide)
    intro z31 ez31
    try have hz31 := i_add ez31 (by omega) (by omega)
    have rg_z31 := i_range z31
    exact hK3 z31 σ30 ⟨hI, hfr, (by (try dsimp only); omega)⟩ (by (try dsimp only); omega)
set_option maxRecDepth 100000 in
set_option maxHeartbeats 4000000 in
theorem s_X12_send {h0 : Nat} {L : Nat → Nat} {σ : HS} (hI : OKM h0 L σ) (a1 : Int32) (a2 : Int32) (a3 : Int32) (hz : 0 ≤ a1.toInt ∧ a1.toInt < 6 ∧ 0 ≤ a2.toInt ∧ 0 ≤ a3.toInt ∧ a2.toInt + a3.toInt ≤ 90000) {post : HS → Prop} (kk : ∀ (σ' : HS), OKM h0 L σ' → Fr h0 L [] [27, 28] σ σ' → (True) → post σ') : F_X12_send h0 L a1 a2 a3 post σ := by
  unfold F_X12_send
  have k_0 : (0 : Int32).toInt = 0 := rfl
  have k_1 : (1 : Int32).toInt = 1 := rfl
  have k_2 : (2 : Int32).toInt = 2 := rfl
  have k_3 : (3 : Int32).toInt = 3 := rfl
  have k_4 : (4 : Int32).toInt = 4 := rfl
  have k_8 : (8 : Int32).toInt = 8 := rfl
  have k_16 : (16 : Int32).toInt = 16 := rfl
  have k_16000 : (16000 : Int32).toInt = 16000 := rfl
  have rg_a1 := i_range a1
  have rg_a2 := i_range a2
  have rg_a3 := i_range a3
  have hfr : Fr h0 L [] [27, 28] σ σ := Fr.rf
  refine ⟨by omega, ?_⟩
  intro z1 ez1
  have vz1 := hI.aI 25 6 0 1 (by decide) (by decide) rfl rfl rfl (i := a1.toInt) (by omega) ez1
  have wz1 : z1.toInt = (sI σ (L 25) a1.toInt.toNat).toInt := by rw [ez1]
  refine jn_dup ?_
  refine ⟨fun c1 => ?_, fun c1 => ?_⟩
  · (try dsimp only)
    exact kk σ hI hfr trivial
  · refine ⟨by omega, ?_⟩
    intro z7 ez7
    have vz7 := hI.aI 28 6 0 16000 (by decide) (by decide) rfl rfl rfl (i := a1.toInt) (by omega) ez7
    have wz7 : z7.toInt = (sI σ (L 28) a1.toInt.toNat).toInt := by rw [ez7]
    intro z8 ez8
    try have hz8 := i_add ez8 (by omega) (by omega)
    have rg_z8 := i_range z8
    intro z9 ez9
    try have hz9 := i_add ez9 (by omega) (by omega)
    have rg_z9 := i_range z9
    refine ⟨fun c2 => ?_, fun c2 => ?_⟩
    · intro z10 ez10
      try have hz10 := i_mulk 16000 rfl ez10 (by omega) (by omega)
      have rg_z10 := i_range z10
      refine ⟨by omega, ?_⟩
      intro z11 ez11
      have vz11 := hI.aI 28 6 0 16000 (by decide) (by decide) rfl rfl rfl (i := a1.toInt) (by omega) ez11
      have wz11 : z11.toInt = (sI σ (L 28) a1.toInt.toNat).toInt := by rw [ez11]
      intro z12 ez12
      try have hz12 := i_add ez12 (by omega) (by omega)
      have rg_z12 := i_range z12
      refine ⟨by omega, ?_⟩
      intro σ13 eσ13
      have hMp := hI.2
      have hI := hI.pA 27 (-128) 127 (by decide) (by decide) rfl rfl (i_byte _) eσ13
      have hfr := hfr.aI hMp (by decide) eσ13 (by decide)
      have f1σ13 : Fr h0 L [] [27] σ σ13 := Fr.rf.aI hMp (by decide) eσ13 (by decide)
      have tk1 : (sI σ13 (L 28) a1.toInt.toNat).toInt = (sI σ (L 28) a1.toInt.toNat).toInt := by rw [(f1σ13.2.1 28 (by decide) (by decide) _).1]
      intro z14 ez14
      try have hz14 := i_add ez14 (by omega) (by omega)
      have rg_z14 := i_range z14
      intro z15 ez15
      have rg_z15 := i_range z15
      intro z16 ez16
      have hz16 := i_b8 ez16
      have rg_z16 := i_range z16
      refine ⟨by omega, ?_⟩
      intro σ17 eσ17
      have hMp := hI.2
      have hI := hI.pA 27 (-128) 127 (by decide) (by decide) rfl rfl (i_byte _) eσ17
      have hfr := hfr.aI hMp (by decide) eσ17 (by decide)
      have f1σ17 : Fr h0 L [] [27] σ13 σ17 := Fr.rf.aI hMp (by decide) eσ17 (by decide)
      have tk2 : (sI σ17 (L 28) a1.toInt.toNat).toInt = (sI σ13 (L 28) a1.toInt.toNat).toInt := by rw [(f1σ17.2.1 28 (by decide) (by decide) _).1]
      intro z18 ez18
      try have hz18 := i_add ez18 (by omega) (by omega)
      have rg_z18 := i_range z18
      intro z19 ez19
      have rg_z19 := i_range z19
      intro z20 ez20
      have hz20 := i_b8 ez20
      have rg_z20 := i_range z20
      refine ⟨by omega, ?_⟩
      intro σ21 eσ21
      have hMp := hI.2
      have hI := hI.pA 27 (-128) 127 (by decide) (by decide) rfl rfl (i_byte _) eσ21
      have hfr := hfr.aI hMp (by decide) eσ21 (by decide)
      have f1σ21 : Fr h0 L [] [27] σ17 σ21 := Fr.rf.aI hMp (by decide) eσ21 (by decide)
      have tk3 : (sI σ21 (L 28) a1.toInt.toNat).toInt = (sI σ17 (L 28) a1.toInt.toNat).toInt := by rw [(f1σ21.2.1 28 (by decide) (by decide) _).1]
      intro z22 ez22
      try have hz22 := i_add ez22 (by omega) (by omega)
      have rg_z22 := i_range z22
      intro z23 ez23
      have hz23 := i_b8 ez23
      have rg_z23 := i_range z23
      refine ⟨by omega, ?_⟩
      intro σ24 eσ24
      have hMp := hI.2
      have hI := hI.pA 27 (-128) 127 (by decide) (by decide) rfl rfl (i_byte _) eσ24
      have hfr := hfr.aI hMp (by decide) eσ24 (by decide)
      have f1σ24 : Fr h0 L [] [27] σ21 σ24 := Fr.rf.aI hMp (by decide) eσ24 (by decide)
      have tk4 : (sI σ24 (L 28) a1.toInt.toNat).toInt = (sI σ21 (L 28) a1.toInt.toNat).toInt := by rw [(f1σ24.2.1 28 (by decide) (by decide) _).1]
      refine lw_in (fun (x : Int32) (σ' : HS) => OKM h0 L σ' ∧ Fr h0 L [] [27, 28] σ σ' ∧ ((0 ≤ x.toInt ∧ x.toInt ≤ 90000) ∧ ((sI σ' (L 28) a1.toInt.toNat).toInt + 4 + a3.toInt ≤ 16000) ∧ (x.toInt ≤ a3.toInt))) (fun (x : Int32) (σ' : HS) => (a3.toInt - x.toInt).toNat) ⟨hI, hfr, (by (try dsimp only); omega)⟩ (fun x25 σ26 hJ K27 hK27 => ?_)
      obtain ⟨hI, hfr, hv⟩ := hJ
      (try dsimp only at hv)
      have rg_x25 := i_range x25
      refine ⟨fun c3 => ?_, fun c3 => ?_⟩
      · refine ⟨by omega, ?_⟩
        intro z29 ez29
        have vz29 := hI.aI 28 6 0 16000 (by decide) (by decide) rfl rfl rfl (i := a1.toInt) (by omega) ez29
        have wz29 : z29.toInt = (sI σ26 (L 28) a1.toInt.toNat).toInt := by rw [ez29]
        intro z30 ez30
        try have hz30 := i_add ez30 (by omega) (by omega)
        have rg_z30 := i_range z30
        intro z31 ez31
        try have hz31 := i_add ez31 (by omega) (by omega)
        have rg_z31 := i_range z31
        refine ⟨by omega, ?_⟩
        intro σ32 eσ32
        have hMp := hI.2
        have hI := hI.pA 28 0 16000 (by decide) (by decide) rfl rfl (by omega) eσ32
        have hfr := hfr.aI hMp (by decide) eσ32 (by decide)
        have f1σ32 : Fr h0 L [] [28] σ26 σ32 := Fr.rf.aI hMp (by decide) eσ32 (by decide)
        have tk5 := atI eσ32 a1.toInt.toNat
        exact kk σ32 hI hfr trivial
      · intro z33 ez33
        try have hz33 := i_add ez33 (by omega) (by omega)
        have rg_z33 := i_range z33
        intro z34 ez34
        try have hz34 := i_add ez34 (by omega) (by omega)
        have rg_z34 := i_range z34
        intro z35 ez35
        try have hz35 := i_add ez35 (by omega) (by omega)
        have rg_z35 := i_range z35
        refine ⟨by omega, ?_⟩
        intro z36 ez36
        have vz36 := hI.aI 76 90000 (-128) 127 (by decide) (by decide) rfl rfl rfl (i := z35.toInt) (by omega) ez36
        have wz36 : z36.toInt = (sI σ26 (L 76) z35.toInt.toNat).toInt := by rw [ez36]
        refine ⟨by omega, ?_⟩
        intro σ37 eσ37
        have hMp := hI.2
        have hI := hI.pA 27 (-128) 127 (by decide) (by decide) rfl rfl (i_byte _) eσ37
        have hfr := hfr.aI hMp (by decide) eσ37 (by decide)
        have f1σ37 : Fr h0 L [] [27] σ26 σ37 := Fr.rf.aI hMp (by decide) eσ37 (by decide)
        have tk6 : (sI σ37 (L 28) a1.toInt.toNat).toInt = (sI σ26 (L 28) a1.toInt.toNat).toInt := by rw [(f1σ37.2.1 28 (by decide) (by decide) _).1]
        intro z38 ez38
        try have hz38 := i_add ez38 (by omega) (by omega)
        have rg_z38 := i_range z38
        exact hK27 z38 σ37 ⟨hI, hfr, (by (try dsimp only); omega)⟩ (by (try dsimp only); omega)
    · (try dsimp only)
      exact kk σ hI hfr trivial
set_option maxRecDepth 100000 in
set_option maxHeartbeats 4000000 in
theorem s_X12_takeId {h0 : Nat} {L : Nat → Nat} {σ : HS} (hI : OKM h0 L σ) (a1 : Int32) (a2 : Int64) (hz : 0 ≤ a1.toInt ∧ a1.toInt < 6) {post : Int32 → HS → Prop} (kk : ∀ (r : Int32) (σ' : HS), OKM h0 L σ' → Fr h0 L [] [31, 32] σ σ' → (0 ≤ r.toInt ∧ r.toInt ≤ 1) → post r σ') : F_X12_takeId h0 L a1 a2 post σ := by
  unfold F_X12_takeId
  have k_0 : (0 : Int32).toInt = 0 := rfl
  have k_1 : (1 : Int32).toInt = 1 := rfl
  have k_16 : (16 : Int32).toInt = 16 := rfl
  have rg_a1 := i_range a1
  have rg_a2 := l_range a2
  have hfr : Fr h0 L [] [31, 32] σ σ := Fr.rf
  refine lw_in (fun (x : Int32) (σ' : HS) => OKM h0 L σ' ∧ Fr h0 L [] [31, 32] σ σ' ∧ ((0 ≤ x.toInt ∧ x.toInt ≤ 16))) (fun (x : Int32) (σ' : HS) => (16 - x.toInt).toNat) ⟨hI, hfr, (by (try dsimp only); omega)⟩ (fun x1 σ2 hJ K3 hK3 => ?_)
  obtain ⟨hI, hfr, hv⟩ := hJ
  (try dsimp only at hv)
  have rg_x1 := i_range x1
  refine ⟨by omega, ?_⟩
  intro z5 ez5
  have vz5 := hI.aI 32 6 0 16 (by decide) (by decide) rfl rfl rfl (i := a1.toInt) (by omega) ez5
  have wz5 : z5.toInt = (sI σ2 (L 32) a1.toInt.toNat).toInt := by rw [ez5]
  refine ⟨fun c1 => ?_, fun c1 => ?_⟩
  · refine ⟨by omega, ?_⟩
    exact kk 0 σ2 hI hfr (by (try dsimp only); omega)
  · intro z6 ez6
    try have hz6 := i_mulk 16 rfl ez6 (by omega) (by omega)
    have rg_z6 := i_range z6
    intro z7 ez7
    try have hz7 := i_add ez7 (by omega) (by omega)
    have rg_z7 := i_range z7
    refine ⟨by omega, ?_⟩
    intro z8 ez8
    have wz8 : z8.toInt = (sJ σ2 (L 31) z7.toInt.toNat).toInt := by rw [ez8]
    refine ⟨fun c2 => ?_, fun c2 => ?_⟩
    · intro z9 ez9
      try have hz9 := i_add ez9 (by omega) (by omega)
      have rg_z9 := i_range z9
      exact hK3 z9 σ2 ⟨hI, hfr, (by (try dsimp only); omega)⟩ (by (try dsimp only); omega)
    · refine ⟨by omega, ?_⟩
      intro z10 ez10
      have vz10 := hI.aI 32 6 0 16 (by decide) (by decide) rfl rfl rfl (i := a1.toInt) (by omega) ez10
      have wz10 : z10.toInt = (sI σ2 (L 32) a1.toInt.toNat).toInt := by rw [ez10]
      intro z11 ez11
      try have hz11 := i_sub ez11 (by omega) (by omega)
      have rg_z11 := i_range z11
      refine ⟨by omega, ?_⟩
      intro σ12 eσ12
      have hMp := hI.2
      have hI := hI.pA 32 0 16 (by decide) (by decide) rfl rfl (by omega) eσ12
      have hfr := hfr.aI hMp (by decide) eσ12 (by decide)
      have f1σ12 : Fr h0 L [] [32] σ2 σ12 := Fr.rf.aI hMp (by decide) eσ12 (by decide)
      have tk1 := atI eσ12 a1.toInt.toNat
      intro z13 ez13
      try have hz13 := i_mulk 16 rfl ez13 (by omega) (by omega)
      have rg_z13 := i_range z13
      intro z14 ez14
      try have hz14 := i_add ez14 (by omega) (by omega)
      have rg_z14 := i_range z14
      intro z15 ez15
      try have hz15 := i_mulk 16 rfl ez15 (by omega) (by omega)
      have rg_z15 := i_range z15
      refine ⟨by omega, ?_⟩
      intro z16 ez16
      have vz16 := hI.aI 32 6 0 16 (by decide) (by decide) rfl rfl rfl (i := a1.toInt) (by omega) ez16
      have wz16 : z16.toInt = (sI σ12 (L 32) a1.toInt.toNat).toInt := by rw [ez16]
      intro z17 ez17
      try have hz17 := i_add ez17 (by omega) (by omega)
      have rg_z17 := i_range z17
      refine ⟨by omega, ?_⟩
      intro z18 ez18
      have wz18 : z18.toInt = (sJ σ12 (L 31) z17.toInt.toNat).toInt := by rw [ez18]
      refine ⟨by omega, ?_⟩
      intro σ19 eσ19
      have hMp := hI.2
      have hI := hI.pJ eσ19
      have hfr := hfr.aJ hMp (by decide) eσ19 (by decide)
      have f1σ19 : Fr h0 L [] [31] σ12 σ19 := Fr.rf.aJ hMp (by decide) eσ19 (by decide)
      have tk2 : (sI σ19 (L 32) a1.toInt.toNat).toInt = (sI σ12 (L 32) a1.toInt.toNat).toInt := by rw [(f1σ19.2.1 32 (by decide) (by decide) _).1]
      refine ⟨by omega, ?_⟩
      exact kk 1 σ19 hI hfr (by (try dsimp only); omega)
set_option maxRecDepth 100000 in
set_option maxHeartbeats 4000000 in
theorem s_X12_grant {h0 : Nat} {L : Nat → Nat} {σ : HS} (hI : OKM h0 L σ) (a1 : Int32) (a2 : Int32) (hz : 0 ≤ a1.toInt ∧ a1.toInt < 6) {post : Int32 → HS → Prop} (kk : ∀ (r : Int32) (σ' : HS), OKM h0 L σ' → Fr h0 L [] [31, 32, 33] σ σ' → (r.toInt ≤ 16) → post r σ') : F_X12_grant h0 L a1 a2 post σ := by
  unfold F_X12_grant
  have k_0 : (0 : Int32).toInt = 0 := rfl
  have k_1 : (1 : Int32).toInt = 1 := rfl
  have k_16 : (16 : Int32).toInt = 16 := rfl
  have kl_1 : (1 : Int64).toInt = 1 := rfl
  have rg_a1 := i_range a1
  have rg_a2 := i_range a2
  have hfr : Fr h0 L [] [31, 32, 33] σ σ := Fr.rf
  refine jn_in (fun (x : Int32) (σ' : HS) => OKM h0 L σ' ∧ Fr h0 L [] [31, 32, 33] σ σ' ∧ ((1 ≤ x.toInt))) (fun x1 σ2 hJ => ?_) (fun K3 hK3 => ?_)
  · obtain ⟨hI, hfr, hv⟩ := hJ
    (try dsimp only at hv)
    have rg_x1 := i_range x1
    refine ⟨by omega, ?_⟩
    intro z6 ez6
    have vz6 := hI.aI 32 6 0 16 (by decide) (by decide) rfl rfl rfl (i := a1.toInt) (by omega) ez6
    have wz6 : z6.toInt = (sI σ2 (L 32) a1.toInt.toNat).toInt := by rw [ez6]
    intro z7 ez7
    try have hz7 := i_sub ez7 (by omega) (by omega)
    have rg_z7 := i_range z7
    refine jn_in (fun (x : Int32) (σ' : HS) => OKM h0 L σ' ∧ Fr h0 L [] [31, 32, 33] σ σ' ∧ ((0 ≤ x.toInt ∧ x.toInt ≤ 16) ∧ (x.toInt + (sI σ' (L 32) a1.toInt.toNat).toInt ≤ 16))) (fun x8 σ9 hJ => ?_) (fun K10 hK10 => ?_)
    · obtain ⟨hI, hfr, hv⟩ := hJ
      (try dsimp only at hv)
      have rg_x8 := i_range x8
      refine lw_in (fun (x : Int32) (σ' : HS) => OKM h0 L σ' ∧ Fr h0 L [] [31, 32, 33] σ σ' ∧ ((0 ≤ x.toInt ∧ x.toInt ≤ 16) ∧ (0 < x8.toInt - x.toInt → x8.toInt - x.toInt + (sI σ' (L 32) a1.toInt.toNat).toInt ≤ 16))) (fun (x : Int32) (σ' : HS) => (x8.toInt - x.toInt).toNat) ⟨hI, hfr, (by (try dsimp only); omega)⟩ (fun x13 σ14 hJ K15 hK15 => ?_)
      obtain ⟨hI, hfr, hv⟩ := hJ
      (try dsimp only at hv)
      have rg_x13 := i_range x13
      refine ⟨fun c1 => ?_, fun c1 => ?_⟩
      · exact kk x8 σ14 hI hfr (by (try dsimp only); omega)
      · refine ⟨by omega, ?_⟩
        intro z17 ez17
        have wz17 : z17.toInt = (sJ σ14 (L 33) a1.toInt.toNat).toInt := by rw [ez17]
        intro z18 ez18
        try have hz18 := l_add ez18 (by omega) (by omega)
        have rg_z18 := l_range z18
        refine ⟨by omega, ?_⟩
        intro σ19 eσ19
        have hMp := hI.2
        have hI := hI.pJ eσ19
        have hfr := hfr.aJ hMp (by decide) eσ19 (by decide)
        have f1σ19 : Fr h0 L [] [33] σ14 σ19 := Fr.rf.aJ hMp (by decide) eσ19 (by decide)
        have tk1 : (sI σ19 (L 32) a1.toInt.toNat).toInt = (sI σ14 (L 32) a1.toInt.toNat).toInt := by rw [(f1σ19.2.1 32 (by decide) (by decide) _).1]
        intro z20 ez20
        try have hz20 := i_mulk 16 rfl ez20 (by omega) (by omega)
        have rg_z20 := i_range z20
        refine ⟨by omega, ?_⟩
        intro z21 ez21
        have vz21 := hI.aI 32 6 0 16 (by decide) (by decide) rfl rfl rfl (i := a1.toInt) (by omega) ez21
        have wz21 : z21.toInt = (sI σ19 (L 32) a1.toInt.toNat).toInt := by rw [ez21]
        intro z22 ez22
        try have hz22 := i_add ez22 (by omega) (by omega)
        have rg_z22 := i_range z22
        refine ⟨by omega, ?_⟩
        intro z23 ez23
        have wz23 : z23.toInt = (sJ σ19 (L 33) a1.toInt.toNat).toInt := by rw [ez23]
        refine ⟨by omega, ?_⟩
        intro σ24 eσ24
        have hMp := hI.2
        have hI := hI.pJ eσ24
        have hfr := hfr.aJ hMp (by decide) eσ24 (by decide)
        have f1σ24 : Fr h0 L [] [31] σ19 σ24 := Fr.rf.aJ hMp (by decide) eσ24 (by decide)
        have tk2 : (sI σ24 (L 32) a1.toInt.toNat).toInt = (sI σ19 (L 32) a1.toInt.toNat).toInt := by rw [(f1σ24.2.1 32 (by decide) (by decide) _).1]
        refine ⟨by omega, ?_⟩
        intro z25 ez25
        have vz25 := hI.aI 32 6 0 16 (by decide) (by decide) rfl rfl rfl (i := a1.toInt) (by omega) ez25
        have wz25 : z25.toInt = (sI σ24 (L 32) a1.toInt.toNat).toInt := by rw [ez25]
        intro z26 ez26
        try have hz26 := i_add ez26 (by omega) (by omega)
        have rg_z26 := i_range z26
        refine ⟨by omega, ?_⟩
        intro σ27 eσ27
        have hMp := hI.2
        have hI := hI.pA 32 0 16 (by decide) (by decide) rfl rfl (by omega) eσ27
        have hfr := hfr.aI hMp (by decide) eσ27 (by decide)
        have f1σ27 : Fr h0 L [] [32] σ24 σ27 := Fr.rf.aI hMp (by decide) eσ27 (by decide)
        have tk3 := atI eσ27 a1.toInt.toNat
        intro z28 ez28
        try have hz28 := i_add ez28 (by omega) (by omega)
        have rg_z28 := i_range z28
        exact hK15 z28 σ27 ⟨hI, hfr, (by (try dsimp only); omega)⟩ (by (try dsimp only); omega)
    · skip
      refine ⟨fun c2 => ?_, fun c2 => ?_⟩
      · exact hK10 x1 σ2 ⟨hI, hfr, (by (try dsimp only); omega)⟩
      · exact hK10 z7 σ2 ⟨hI, hfr, (by (try dsimp only); omega)⟩
  · skip
    refine ⟨fun c3 => ?_, fun c3 => ?_⟩
    · exact hK3 a2 σ ⟨hI, hfr, (by (try dsimp only); omega)⟩
    · exact hK3 1 σ ⟨hI, hfr, (by (try dsimp only); omega)⟩

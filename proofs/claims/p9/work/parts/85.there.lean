/-! who waits for a file; may it be opened -/
section R85
variable {h0 : Nat} {L : Nat → Nat} {σ σ' : HS} {B : Int} {fs js : List Nat}
theorem GI.wait (hG : GI h0 L B σ) (hI : OKM h0 L σ) (f : Fr h0 L fs js σ σ') (h1 : nof fs [16, 61] = true) (h2 : nof js GJM = true) (e69 : (sI σ' h0 69).toInt = (sI σ h0 69).toInt + 1) (hE : ∀ w : Nat, (w : Int) < (sI σ h0 69).toInt → EqW L σ σ' w w) (hw : ∀ r : Nat, (r : Int) = (sI σ h0 69).toInt → WG1 L σ' r) : GI h0 L (B + 1) σ' := by
  have sub : ∀ l : List Nat, (∀ x ∈ l, x ∈ GJM) → nof js l = true := fun l hl => List.all_eq_true.mpr (fun x hx => by
    have : ¬ x ∈ l := fun q => nof_n h2 (hl x q) hx
    simpa using this)
  refine ⟨hG.1.fr f (nof_n h1 (by decide)) (sub _ (by decide)), hG.2.1.fr f (sub _ (by decide)), hG.2.2.1.fr f (sub _ (by decide)), fun w hw' => ?_, ?_⟩
  · by_cases c : (w : Int) < (sI σ h0 69).toInt
    · exact (hE w c).wg (rts_ff f (nof_n h2 (by decide))) (sI_ff f (by decide) (nof_n h2 (by decide))) (hG.2.2.2.1 w c) (hI.wz c)
    · exact hw w (by omega)
  · have e := hG.2.2.2.2
    refine ⟨?_, ?_, ?_⟩
    · rw [sJ_ff f (by decide) (nof_n h2 (by decide))]
      exact e.1
    · rw [(f.1 61 (nof_n h1 (by decide))).2.1]
      exact e.2.1
    · rw [(f.1 61 (nof_n h1 (by decide))).2.1]
      have := e.2.2
      omega
theorem EqW.u75 {k w : Nat} {v : Int32} (e : σ' = h_uI σ (L 75) k v) (hM : MdI h0 L σ) (hk : 4000 * w + 4000 ≤ k) : EqW L σ σ' w w := by
  subst e
  refine ⟨fun j h1 h2 => ⟨fun _ => rfl, fun _ => ?_⟩, fun i h1 _ => ?_⟩
  · show u2 (sI σ) (L 75) k v (L j) w = _
    exact u2_addr (fun e => by have := hM.inj (by omega) (by omega) e; omega)
  · show u2 (sI σ) (L 75) k v (L 75) _ = _
    exact u2_pl (by omega)
/-- the bytes that one who waits keeps -/
def CY (h0 : Nat) (L : Nat → Nat) (σ σ' : HS) (r m : Nat) : Prop := ∀ i, i < m → sI σ' (L 75) (4000 * r + i) = InRow h0 L σ ((sI σ h0 86).toInt.toNat + i)
theorem CY.st {σ2 : HS} {r m k : Nat} {z : Int32} (h : CY h0 L σ σ' r m) (hk : k = 4000 * r + m) (hz : z = InRow h0 L σ ((sI σ h0 86).toInt.toNat + m)) (e : σ2 = h_uI σ' (L 75) k z) : CY h0 L σ σ2 r (m + 1) := by
  subst e
  subst hk
  intro i hi
  show u2 (sI σ') (L 75) (4000 * r + m) z (L 75) (4000 * r + i) = _
  rcases (show i < m ∨ i = m by omega) with q | q
  · rw [u2_pl (by omega)]
    exact h i q
  · subst q
    rw [u2_same, hz]
theorem CY.wn {r m a : Nat} (h : CY h0 L σ σ' r m) (hb : 0 ≤ (sI σ h0 86).toInt) (ha : a + 2 ≤ m) : WN L σ' r a = NUM h0 L σ (a : Int) 2 := by
  unfold WN NUM
  refine NumN_ev 2 _ _ (fun i hi => ?_)
  rw [Nat.add_assoc, h (a + i) (by omega), show ((sI σ h0 86).toInt + (a : Int)).toNat = (sI σ h0 86).toInt.toNat + a by omega, Nat.add_assoc]
end R85
set_option maxRecDepth 100000 in
set_option maxHeartbeats 4000000 in
theorem s_X12_waitsFor {h0 : Nat} {L : Nat → Nat} {σ : HS} (hI : OKM h0 L σ) (a1 : Int32) (a2 : Int32) {B : Int} (hG : GI h0 L B σ) (hN : InM h0 L σ (sI σ h0 87).toInt) (hT : 0 ≤ rts L σ (sI σ (L 40) (sI σ h0 99).toInt.toNat).toInt.toNat) (hw : 120 ≤ (sI σ h0 87).toInt ∧ (NUM h0 L σ 110 2 = 0 ∨ (NUM h0 L σ 108 2 : Int) + NUM h0 L σ 110 2 ≤ (sI σ h0 87).toInt)) (hq : a1.toInt < 0 → sP σ h0 85 = some (L 29)) (hz : a1.toInt < 16 ∧ 0 ≤ a2.toInt ∧ a2.toInt ≤ 79 ∧ 0 ≤ (sI σ h0 98).toInt ∧ 0 ≤ (sI σ h0 99).toInt) {post : Int64 → HS → Prop} (kk : ∀ (r : Int64) (σ' : HS), OKM h0 L σ' → Fr h0 L [62, 69, 109] [61, 62, 63, 64, 65, 66, 67, 68, 69, 70, 74, 75] σ σ' → (GI h0 L (B + 1) σ' ∧ r.toInt ≠ 0 ∧ (0 ≤ a1.toInt → r.toInt = 259 ∧ GI h0 L B σ' ∧ (sI σ' h0 69).toInt = (sI σ h0 69).toInt)) → post r σ') : F_X12_waitsFor h0 L a1 a2 post σ := by
  unfold F_X12_waitsFor
  have k_0 : (0 : Int32).toInt = 0 := rfl
  have k_1 : (1 : Int32).toInt = 1 := rfl
  have k_16 : (16 : Int32).toInt = 16 := rfl
  have k_4000 : (4000 : Int32).toInt = 4000 := rfl
  have kl_0 : (0 : Int64).toInt = 0 := rfl
  have kl_259 : (259 : Int64).toInt = 259 := rfl
  have kl_3221225539 : (3221225539 : Int64).toInt = 3221225539 := rfl
  have kl_3221225626 : (3221225626 : Int64).toInt = 3221225626 := rfl
  have rg_a1 := i_range a1
  have rg_a2 := i_range a2
  have hfr : Fr h0 L [62, 69, 109] [61, 62, 63, 64, 65, 66, 67, 68, 69, 70, 74, 75] σ σ := Fr.rf
  have h87 : (0 : Int) ≤ (sI σ h0 87).toInt ∧ (sI σ h0 87).toInt ≤ 4000 := hI.fI 87 0 4000 (by decide) rfl rfl rfl rfl
  have hI0 := hI
  refine ⟨fun c1 => ?_, fun c1 => ?_⟩
  · intro z1 ez1
    have vz1 := hI.fI 95 0 1 (by decide) rfl rfl rfl ez1
    have wz1 : z1.toInt = (sI σ h0 95).toInt := by rw [ez1, (hfr.1 95 (by decide)).1]
    refine ⟨fun c2 => ?_, fun c2 => ?_⟩
    · intro z2 ez2
      have vz2 := hI.fI 69 0 16 (by decide) rfl rfl rfl ez2
      have wz2 : z2.toInt = (sI σ h0 69).toInt := by rw [ez2]
      refine ⟨fun c3 => ?_, fun c3 => ?_⟩
      · refine s_X12_waitFor hI a2 0 ((hN.fr hfr (by decide) (by decide)).le (by omega)) (by omega) (fun z4 σ3 hI fz4 pz4 => ?_)
        have hfr := hfr.tr fz4 (by decide) (by decide)
        have rg_z4 := i_range z4
        intro z5 ez5
        have vz5 := hI.fI 87 0 4000 (by decide) rfl rfl rfl ez5
        have wz5 : z5.toInt = (sI σ h0 87).toInt := by rw [ez5, (hfr.1 87 (by decide)).1]
        refine ⟨by omega, ?_⟩
        intro σ6 eσ6
        have hMp := hI.2
        have hI := hI.pA 74 0 4000 (by decide) (by decide) rfl rfl (by omega) eσ6
        have hfr := hfr.aI hMp (by decide) eσ6 (by decide)
        have f1σ6 : Fr h0 L [] [74] σ3 σ6 := Fr.rf.aI hMp (by decide) eσ6 (by decide)
        have tk5 : (sI σ6 h0 69).toInt = (sI σ3 h0 69).toInt := by rw [(f1σ6.1 69 (by decide)).1]
        have tk6 : (sI σ6 (L 62) z4.toInt.toNat).toInt = (sI σ3 (L 62) z4.toInt.toNat).toInt := by rw [(f1σ6.2.1 62 (by decide) (by decide) _).1]
        have tk7 : (sI σ6 (L 68) z4.toInt.toNat).toInt = (sI σ3 (L 68) z4.toInt.toNat).toInt := by rw [(f1σ6.2.1 68 (by decide) (by decide) _).1]
        have tk8 := atI eσ6 z4.toInt.toNat
        refine lw_in (fun (x : Int32) (σ' : HS) => OKM h0 L σ' ∧ Fr h0 L [62, 69, 109] [61, 62, 63, 64, 65, 66, 67, 68, 69, 70, 74, 75] σ σ' ∧ ((0 ≤ x.toInt ∧ x.toInt ≤ 4000) ∧ (z4.toInt = (sI σ h0 69).toInt) ∧ ((sI σ' h0 69).toInt = z4.toInt + 1) ∧ ((sI σ' (L 68) z4.toInt.toNat).toInt = (sI σ h0 99).toInt) ∧ ((sI σ' (L 74) z4.toInt.toNat).toInt = (sI σ h0 87).toInt) ∧ (0 ≤ x.toInt) ∧ (x.toInt ≤ (sI σ h0 87).toInt) ∧ (0 ≤ z4.toInt) ∧ (z4.toInt ≤ 15)) ∧ (∀ w : Nat, (w : Int) < (sI σ h0 69).toInt → EqW L σ σ' w w) ∧ (CY h0 L σ σ' z4.toInt.toNat x.toInt.toNat)) (fun (x : Int32) (σ' : HS) => ((sI σ h0 87).toInt - x.toInt).toNat) ⟨hI, hfr, (by (try dsimp only); omega), (fun w hw_ => (pz4.2.2.1 w (by omega)).tr (EqW.uI eσ6 hMp (by decide) (by omega))), (fun i hi => by have k_ : (0 : Int32).toInt.toNat = 0 := rfl; omega)⟩ (fun x7 σ8 hJ K9 hK9 => ?_)
        obtain ⟨hI, hfr, hv, hE, hB⟩ := hJ
        (try dsimp only at hv)
        have rg_x7 := i_range x7
        intro z11 ez11
        have vz11 := hI.fI 87 0 4000 (by decide) rfl rfl rfl ez11
        have wz11 : z11.toInt = (sI σ h0 87).toInt := by rw [ez11, (hfr.1 87 (by decide)).1]
        refine ⟨fun c4 => ?_, fun c4 => ?_⟩
        · have e40 := sI_ff hfr (j := 40) (by decide) (by decide)
          have e11 := rts_ff hfr (by decide)
          have h86 := hI0.fI 86 0 72600 (by decide) rfl rfl rfl rfl
          have wnew : ∀ r : Nat, (r : Int) = z4.toInt → WG1 L σ8 r := fun r hr => by
            have er : z4.toInt.toNat = r := by omega
            rw [er] at hB hv
            refine ⟨by rw [e11, e40, show (sI σ8 (L 68) r).toInt = (sI σ h0 99).toInt by omega]; exact hT, fun _ => ?_⟩
            rw [hB.wn (by omega) (a := 110) (by omega), hB.wn (by omega) (a := 108) (by omega)]
            have hw2 := hw.2
            exact ⟨by omega, by rw [show (sI σ8 (L 74) r).toInt = (sI σ h0 87).toInt by omega]; exact hw2⟩
          exact kk 259 σ8 hI hfr ⟨hG.wait hI0 hfr (by decide) (by decide) (by omega) hE (fun r hr => wnew r (by omega)), by omega, fun h => by exfalso; omega⟩
        · intro z12 ez12
          try have hz12 := i_mulk 4000 rfl ez12 (by omega) (by omega)
          have rg_z12 := i_range z12
          intro z13 ez13
          try have hz13 := i_add ez13 (by omega) (by omega)
          have rg_z13 := i_range z13
          intro z14 ez14
          intro z15 ez15
          have vz15 := hI.fI 86 0 72600 (by decide) rfl rfl rfl ez15
          have wz15 : z15.toInt = (sI σ h0 86).toInt := by rw [ez15, (hfr.1 86 (by decide)).1]
          intro z16 ez16
          try have hz16 := i_add ez16 (by omega) (by omega)
          have rg_z16 := i_range z16
          have hfr8 := hfr
          have b86z17 := congrArg Int32.toInt (hfr.1 86 (by decide)).1
          obtain ⟨jn_, hjn, hjq, hjb, hjr⟩ := (hN.fr hfr (by decide) (by decide)).at hI.2 ez14 z16.toInt (by omega) (by omega)
          refine ⟨jn_, hjn, hjq, hjb, ?_⟩
          intro z17 ez17
          have vz17 := hI.aIn hjn hjb ez17
          refine ⟨by omega, ?_⟩
          intro σ18 eσ18
          have hMp := hI.2
          have hI := hI.pA 75 (-128) 127 (by decide) (by decide) rfl rfl (i_byte _) eσ18
          have hfr := hfr.aI hMp (by decide) eσ18 (by decide)
          have f1σ18 : Fr h0 L [] [75] σ8 σ18 := Fr.rf.aI hMp (by decide) eσ18 (by decide)
          have tk9 : (sI σ18 h0 69).toInt = (sI σ8 h0 69).toInt := by rw [(f1σ18.1 69 (by decide)).1]
          have tk10 : (sI σ18 (L 62) z4.toInt.toNat).toInt = (sI σ8 (L 62) z4.toInt.toNat).toInt := by rw [(f1σ18.2.1 62 (by decide) (by decide) _).1]
          have tk11 : (sI σ18 (L 68) z4.toInt.toNat).toInt = (sI σ8 (L 68) z4.toInt.toNat).toInt := by rw [(f1σ18.2.1 68 (by decide) (by decide) _).1]
          have tk12 : (sI σ18 (L 74) z4.toInt.toNat).toInt = (sI σ8 (L 74) z4.toInt.toNat).toInt := by rw [(f1σ18.2.1 74 (by decide) (by decide) _).1]
          intro z19 ez19
          try have hz19 := i_add ez19 (by omega) (by omega)
          have rg_z19 := i_range z19
          have q8 : sP σ8 h0 85 = some (L 29) := by rw [(hfr8.1 85 (by decide)).2.2]; exact hq (by omega)
          have ir : InRow h0 L σ8 = InRow h0 L σ := by rw [InRow_1 q8, InRow_1 (hq (by omega)), sI_ff hfr8 (by decide) (by decide)]
          exact hK9 z19 σ18 ⟨hI, hfr, (by (try dsimp only); omega), (fun w hw_ => (hE w hw_).tr (EqW.u75 eσ18 hMp (by omega))), (by rw [show z19.toInt.toNat = x7.toInt.toNat + 1 by omega]; exact hB.st (by omega) (by rw [nar_byte (by omega), ez17, ← hjr, ir]; exact congrArg _ (by omega)) eσ18)⟩ (by (try dsimp only); omega)
      · exact kk 3221225626 σ hI hfr ⟨hG.mono (by omega), by omega, fun h => by exfalso; omega⟩
    · exact kk 3221225539 σ hI hfr ⟨hG.mono (by omega), by omega, fun h => by exfalso; omega⟩
  · refine ⟨by omega, ?_⟩
    intro σ20 eσ20
    have hMp := hI.2
    have hI := hI.pA 70 0 79 (by decide) (by decide) rfl rfl (by omega) eσ20
    have hfr := hfr.aI hMp (by decide) eσ20 (by decide)
    have f1σ20 : Fr h0 L [] [70] σ σ20 := Fr.rf.aI hMp (by decide) eσ20 (by decide)
    have tk13 : (sI σ20 h0 69).toInt = (sI σ h0 69).toInt := by rw [(f1σ20.1 69 (by decide)).1]
    exact kk 259 σ20 hI hfr ⟨(hG.fr f1σ20 (by decide) (by decide)).mono (by omega), by omega, fun _ => ⟨by omega, hG.fr f1σ20 (by decide) (by decide), by omega⟩⟩
set_option maxRecDepth 100000 in
set_option maxHeartbeats 4000000 in
theorem s_X12_there {h0 : Nat} {L : Nat → Nat} {σ : HS} (hI : OKM h0 L σ) (a1 : Int32) (a2 : Int32) (a3 : Int32) (a4 : Int32) (a5 : Int32) (a6 : Int32) (a7 : Int32) (a8 : Int32) (a9 : Int32) (a10 : Int32) {B : Int} (hG : GI h0 L B σ) (hN : InM h0 L σ (sI σ h0 87).toInt) (hT : 0 ≤ rts L σ (sI σ (L 40) (sI σ h0 99).toInt.toNat).toInt.toNat) (hw : 120 ≤ (sI σ h0 87).toInt ∧ (NUM h0 L σ 110 2 = 0 ∨ (NUM h0 L σ 108 2 : Int) + NUM h0 L σ 110 2 ≤ (sI σ h0 87).toInt)) (hq : a2.toInt < 0 → sP σ h0 85 = some (L 29)) (hz : 0 ≤ a1.toInt ∧ a1.toInt < 80 ∧ a2.toInt < 16 ∧ 0 ≤ (sI σ h0 98).toInt ∧ 0 ≤ (sI σ h0 99).toInt) {post : Int64 → HS → Prop} (kk : ∀ (r : Int64) (σ' : HS), OKM h0 L σ' → Fr h0 L [62, 69, 109] [27, 28, 47, 48, 49, 61, 62, 63, 64, 65, 66, 67, 68, 69, 70, 74, 75, 76] σ σ' → (GI h0 L (B + 1) σ' ∧ ((r.toInt = 0 → σ' = σ ∧ (a8.toInt ≠ 0 → a1.toInt ≠ a10.toInt) ∧ ¬ ∀ o : Nat, o < 40 → 0 < (sJ σ (L 41) o).toInt) ∧ (0 ≤ a2.toInt → GI h0 L B σ' ∧ (sI σ' h0 69).toInt = (sI σ h0 69).toInt))) → post r σ') : F_X12_there h0 L a1 a2 a3 a4 a5 a6 a7 a8 a9 a10 post σ := by
  unfold F_X12_there
  have k_m1 : ((-1) : Int32).toInt = (-1) := rfl
  have k_0 : (0 : Int32).toInt = 0 := rfl
  have k_1 : (1 : Int32).toInt = 1 := rfl
  have k_2 : (2 : Int32).toInt = 2 := rfl
  have k_6 : (6 : Int32).toInt = 6 := rfl
  have k_8 : (8 : Int32).toInt = 8 := rfl
  have k_9 : (9 : Int32).toInt = 9 := rfl
  have k_40 : (40 : Int32).toInt = 40 := rfl
  have kl_0 : (0 : Int64).toInt = 0 := rfl
  have kl_3221225506 : (3221225506 : Int64).toInt = 3221225506 := rfl
  have kl_3221225525 : (3221225525 : Int64).toInt = 3221225525 := rfl
  have kl_3221225539 : (3221225539 : Int64).toInt = 3221225539 := rfl
  have kl_3221225558 : (3221225558 : Int64).toInt = 3221225558 := rfl
  have kl_3221225626 : (3221225626 : Int64).toInt = 3221225626 := rfl
  have kl_3221225658 : (3221225658 : Int64).toInt = 3221225658 := rfl
  have kl_3221225731 : (3221225731 : Int64).toInt = 3221225731 := rfl
  have kl_3221225761 : (3221225761 : Int64).toInt = 3221225761 := rfl
  have rg_a1 := i_range a1
  have rg_a2 := i_range a2
  have rg_a3 := i_range a3
  have rg_a4 := i_range a4
  have rg_a5 := i_range a5
  have rg_a6 := i_range a6
  have rg_a7 := i_range a7
  have rg_a8 := i_range a8
  have rg_a9 := i_range a9
  have rg_a10 := i_range a10
  have hfr : Fr h0 L [62, 69, 109] [27, 28, 47, 48, 49, 61, 62, 63, 64, 65, 66, 67, 68, 69, 70, 74, 75, 76] σ σ := Fr.rf
  have h87 : (0 : Int) ≤ (sI σ h0 87).toInt ∧ (sI σ h0 87).toInt ≤ 4000 := hI.fI 87 0 4000 (by decide) rfl rfl rfl rfl
  refine ⟨by omega, ?_⟩
  intro z1 ez1
  have vz1 := hI.aI 10 80 0 1 (by decide) (by decide) rfl rfl rfl (i := a1.toInt) (by omega) ez1
  have wz1 : z1.toInt = (sI σ (L 10) a1.toInt.toNat).toInt := by rw [ez1, (hfr.2.1 10 (by decide) (by decide) _).1]
  refine ⟨fun c1 => ?_, fun c1 => ?_⟩
  · refine ⟨fun c2 => ?_, fun c2 => ?_⟩
    · refine ⟨by omega, ?_⟩
      intro z2 ez2
      have vz2 := hI.aI 3 160 0 1 (by decide) (by decide) rfl rfl rfl (i := a1.toInt) (by omega) ez2
      have wz2 : z2.toInt = (sI σ (L 3) a1.toInt.toNat).toInt := by rw [ez2, (hfr.2.1 3 (by decide) (by decide) _).1]
      refine jn_in (fun (x : Unit) (σ' : HS) => σ = σ' ∧ (True)) (fun x3 σ4 hJ => ?_) (fun K5 hK5 => ?_)
      · obtain ⟨hsg, hv⟩ := hJ
        subst hsg
        (try dsimp only at hv)
        refine ⟨by omega, ?_⟩
        intro z8 ez8
        have vz8 := hI.aI 3 160 0 1 (by decide) (by decide) rfl rfl rfl (i := a1.toInt) (by omega) ez8
        have wz8 : z8.toInt = (sI σ (L 3) a1.toInt.toNat).toInt := by rw [ez8, (hfr.2.1 3 (by decide) (by decide) _).1]
        refine jn_in (fun (x : Unit) (σ' : HS) => σ = σ' ∧ (True)) (fun x9 σ10 hJ => ?_) (fun K11 hK11 => ?_)
        · obtain ⟨hsg, hv⟩ := hJ
          subst hsg
          (try dsimp only at hv)
          refine ⟨by omega, ?_⟩
          intro z14 ez14
          have vz14 := hI.aI 6 160 (-2147483648) 2147483647 (by decide) (by decide) rfl rfl rfl (i := a1.toInt) (by omega) ez14
          have wz14 : z14.toInt = (sI σ (L 6) a1.toInt.toNat).toInt := by rw [ez14, (hfr.2.1 6 (by decide) (by decide) _).1]
          intro z15 ez15
          try have hz15 := i_and1 ez15 (by omega)
          have rg_z15 := i_range z15
          refine jn_in (fun (x : Int32) (σ' : HS) => σ = σ' ∧ ((0 ≤ x.toInt ∧ x.toInt ≤ 1))) (fun x16 σ17 hJ => ?_) (fun K18 hK18 => ?_)
          · obtain ⟨hsg, hv⟩ := hJ
            subst hsg
            (try dsimp only at hv)
            have rg_x16 := i_range x16
            refine jn_in (fun (x : Unit) (σ' : HS) => σ = σ' ∧ (True)) (fun x21 σ22 hJ => ?_) (fun K23 hK23 => ?_)
            · obtain ⟨hsg, hv⟩ := hJ
              subst hsg
              (try dsimp only at hv)
              refine jn_in (fun (x : Unit) (σ' : HS) => σ = σ' ∧ ((a8.toInt = 0 ∨ a1.toInt ≠ a10.toInt))) (fun x26 σ27 hJ => ?_) (fun K28 hK28 => ?_)
              · obtain ⟨hsg, hv⟩ := hJ
                subst hsg
                (try dsimp only at hv)
                refine s_X12_count hI 41 40 (by decide) rfl rfl (by decide)  (fun z32 pz32 => ?_)
                have rg_z32 := i_range z32
                refine ⟨fun c3 => ?_, fun c3 => ?_⟩
                · refine jn_in (fun (x : Int32) (σ' : HS) => σ = σ' ∧ ((0 ≤ x.toInt ∧ x.toInt ≤ 1))) (fun x33 σ34 hJ => ?_) (fun K35 hK35 => ?_)
                  · obtain ⟨hsg, hv⟩ := hJ
                    subst hsg
                    (try dsimp only at hv)
                    have rg_x33 := i_range x33
                    refine ⟨by omega, ?_⟩
                    intro z38 ez38
                    have vz38 := hI.aI 3 160 0 1 (by decide) (by decide) rfl rfl rfl (i := a1.toInt) (by omega) ez38
                    have wz38 : z38.toInt = (sI σ (L 3) a1.toInt.toNat).toInt := by rw [ez38, (hfr.2.1 3 (by decide) (by decide) _).1]
                    refine jn_in (fun (x : Unit) (σ' : HS) => σ = σ' ∧ (True)) (fun x39 σ40 hJ => ?_) (fun K41 hK41 => ?_)
                    · obtain ⟨hsg, hv⟩ := hJ
                      subst hsg
                      (try dsimp only at hv)
                      refine s_X12_isShared hI a1 a3 a4  (fun z45 pz45 => ?_)
                      have rg_z45 := i_range z45
                      refine ⟨fun c4 => ?_, fun c4 => ?_⟩
                      · refine ⟨by omega, ?_⟩
                        intro z46 ez46
                        have vz46 := hI.aI 3 160 0 1 (by decide) (by decide) rfl rfl rfl (i := a1.toInt) (by omega) ez46
                        have wz46 : z46.toInt = (sI σ (L 3) a1.toInt.toNat).toInt := by rw [ez46, (hfr.2.1 3 (by decide) (by decide) _).1]
                        refine jn_dup ?_
                        refine ⟨fun c5 => ?_, fun c5 => ?_⟩
                        · (try dsimp only)
                          exact kk 0 σ hI hfr ⟨hG.mono (by omega), (fun _ => ⟨rfl, by omega, fun q => by have q2 := pz32.2 q; omega⟩), fun _ => ⟨hG, rfl⟩⟩
                        · refine s_X12_openWith hI a1 8  (fun z53 pz53 => ?_)
                          have rg_z53 := i_range z53
                          refine ⟨fun c6 => ?_, fun c6 => ?_⟩
                          · (try dsimp only)
                            exact kk 0 σ hI hfr ⟨hG.mono (by omega), (fun _ => ⟨rfl, by omega, fun q => by have q2 := pz32.2 q; omega⟩), fun _ => ⟨hG, rfl⟩⟩
                          · have hIp := hI
                            refine s_X12_breaks hI z53 x33 (by omega) (fun σ54 hI fz55 pz55 => ?_)
                            have hfr := hfr.tr fz55 (by decide) (by decide)
                            have tk1 : (sI σ54 h0 69).toInt = (sI σ h0 69).toInt := by rw [(fz55.1 69 (by decide)).1]
                            have tk2 : (sI σ54 h0 16).toInt = (sI σ h0 16).toInt := by rw [(fz55.1 16 (by decide)).1]
                            have hG := hG.fr fz55 (by decide) (by decide)
                            have hIp := hI
                            refine s_X12_waitsFor hI a2 a1 hG (by have q := hN.fr fz55 (by decide) (by decide); rw [(fz55.1 87 (by decide)).1]; exact q) (by rw [rts_ff fz55 (by decide), sI_ff fz55 (by decide) (by decide), (fz55.1 99 (by decide)).1]; exact hT) (by rw [(fz55.1 87 (by decide)).1, NUM_fr fz55 (by decide) (by decide) (by decide) (by decide), NUM_fr fz55 (by decide) (by decide) (by decide) (by decide)]; exact hw) (by rw [(fz55.1 85 (by decide)).2.2]; exact hq) (by rw [(fz55.1 98 (by decide)).1, (fz55.1 99 (by decide)).1]; omega) (fun z57 σ56 hI fz57 pz57 => ?_)
                            have hfr := hfr.tr fz57 (by decide) (by decide)
                            have tk4 : (sI σ56 h0 16).toInt = (sI σ54 h0 16).toInt := by rw [(fz57.1 16 (by decide)).1]
                            have hG := pz57.1
                            exact kk z57 σ56 hI hfr ⟨pz57.1, (fun h => absurd h pz57.2.1), fun h => ⟨(pz57.2.2 h).2.1, by have q := (pz57.2.2 h).2.2; omega⟩⟩
                      · exact kk 3221225539 σ hI hfr ⟨hG.mono (by omega), (fun h => by exfalso; omega), fun _ => ⟨hG, rfl⟩⟩
                    · skip
                      refine ⟨fun c7 => ?_, fun c7 => ?_⟩
                      · exact hK41 () σ ⟨rfl, trivial⟩
                      · refine s_X12_openWith hI a1 (-1)  (fun z59 pz59 => ?_)
                        have rg_z59 := i_range z59
                        refine ⟨fun c8 => ?_, fun c8 => ?_⟩
                        · refine s_X12_openWith hI a1 9  (fun z61 pz61 => ?_)
                          have rg_z61 := i_range z61
                          refine ⟨fun c9 => ?_, fun c9 => ?_⟩
                          · exact hK41 () σ ⟨rfl, trivial⟩
                          · have hIp := hI
                            refine s_X12_breaks hI z61 x33 (by omega) (fun σ62 hI fz63 pz63 => ?_)
                            have hfr := hfr.tr fz63 (by decide) (by decide)
                            have tk5 : (sI σ62 h0 69).toInt = (sI σ h0 69).toInt := by rw [(fz63.1 69 (by decide)).1]
                            have tk6 : (sI σ62 h0 16).toInt = (sI σ h0 16).toInt := by rw [(fz63.1 16 (by decide)).1]
                            have hG := hG.fr fz63 (by decide) (by decide)
                            have hIp := hI
                            refine s_X12_waitsFor hI a2 a1 hG (by have q := hN.fr fz63 (by decide) (by decide); rw [(fz63.1 87 (by decide)).1]; exact q) (by rw [rts_ff fz63 (by decide), sI_ff fz63 (by decide) (by decide), (fz63.1 99 (by decide)).1]; exact hT) (by rw [(fz63.1 87 (by decide)).1, NUM_fr fz63 (by decide) (by decide) (by decide) (by decide), NUM_fr fz63 (by decide) (by decide) (by decide) (by decide)]; exact hw) (by rw [(fz63.1 85 (by decide)).2.2]; exact hq) (by rw [(fz63.1 98 (by decide)).1, (fz63.1 99 (by decide)).1]; omega) (fun z65 σ64 hI fz65 pz65 => ?_)
                            have hfr := hfr.tr fz65 (by decide) (by decide)
                            have tk8 : (sI σ64 h0 16).toInt = (sI σ62 h0 16).toInt := by rw [(fz65.1 16 (by decide)).1]
                            have hG := pz65.1
                            exact kk z65 σ64 hI hfr ⟨pz65.1, (fun h => absurd h pz65.2.1), fun h => ⟨(pz65.2.2 h).2.1, by have q := (pz65.2.2 h).2.2; omega⟩⟩
                        · have hIp := hI
                          refine s_X12_waitsFor hI a2 a1 hG (by have q := hN.fr (Fr.rf : Fr h0 L [] [] σ σ) (by decide) (by decide); rw [((Fr.rf : Fr h0 L [] [] σ σ).1 87 (by decide)).1]; exact q) (by rw [rts_ff (Fr.rf : Fr h0 L [] [] σ σ) (by decide), sI_ff (Fr.rf : Fr h0 L [] [] σ σ) (by decide) (by decide), ((Fr.rf : Fr h0 L [] [] σ σ).1 99 (by decide)).1]; exact hT) (by rw [((Fr.rf : Fr h0 L [] [] σ σ).1 87 (by decide)).1, NUM_fr (Fr.rf : Fr h0 L [] [] σ σ) (by decide) (by decide) (by decide) (by decide), NUM_fr (Fr.rf : Fr h0 L [] [] σ σ) (by decide) (by decide) (by decide) (by decide)]; exact hw) (by rw [((Fr.rf : Fr h0 L [] [] σ σ).1 85 (by decide)).2.2]; exact hq) (by rw [((Fr.rf : Fr h0 L [] [] σ σ).1 98 (by decide)).1, ((Fr.rf : Fr h0 L [] [] σ σ).1 99 (by decide)).1]; omega) (fun z67 σ66 hI fz67 pz67 => ?_)
                          have hfr := hfr.tr fz67 (by decide) (by decide)
                          have tk10 : (sI σ66 h0 16).toInt = (sI σ h0 16).toInt := by rw [(fz67.1 16 (by decide)).1]
                          have hG := pz67.1
                          exact kk z67 σ66 hI hfr ⟨pz67.1, (fun h => absurd h pz67.2.1), fun h => ⟨(pz67.2.2 h).2.1, by have q := (pz67.2.2 h).2.2; omega⟩⟩
                  · skip
                    refine ⟨fun c10 => ?_, fun c10 => ?_⟩
                    · exact hK35 1 σ ⟨rfl, (by (try dsimp only); omega)⟩
                    · exact hK35 0 σ ⟨rfl, (by (try dsimp only); omega)⟩
                · exact kk 3221225626 σ hI hfr ⟨hG.mono (by omega), (fun h => by exfalso; omega), fun _ => ⟨hG, rfl⟩⟩
              · skip
                refine ⟨fun c11 => ?_, fun c11 => ?_⟩
                · exact hK28 () σ ⟨rfl, (by (try dsimp only); omega)⟩
                · refine jn_dup ?_
                  refine ⟨fun c12 => ?_, fun c12 => ?_⟩
                  · (try dsimp only)
                    exact kk 3221225761 σ hI hfr ⟨hG.mono (by omega), (fun h => by exfalso; omega), fun _ => ⟨hG, rfl⟩⟩
                  · refine ⟨fun c13 => ?_, fun c13 => ?_⟩
                    · exact hK28 () σ ⟨rfl, (by (try dsimp only); omega)⟩
                    · (try dsimp only)
                      exact kk 3221225761 σ hI hfr ⟨hG.mono (by omega), (fun h => by exfalso; omega), fun _ => ⟨hG, rfl⟩⟩
            · skip
              refine ⟨fun c14 => ?_, fun c14 => ?_⟩
              · exact hK23 () σ ⟨rfl, trivial⟩
              · intro z73 ez73
                try have hz73 := i_and ez73 (by omega)
                have rg_z73 := i_range z73
                refine jn_dup ?_
                refine ⟨fun c15 => ?_, fun c15 => ?_⟩
                · (try dsimp only)
                  exact kk 3221225506 σ hI hfr ⟨hG.mono (by omega), (fun h => by exfalso; omega), fun _ => ⟨hG, rfl⟩⟩
                · refine ⟨fun c16 => ?_, fun c16 => ?_⟩
                  · exact hK23 () σ ⟨rfl, trivial⟩
                  · (try dsimp only)
                    exact kk 3221225506 σ hI hfr ⟨hG.mono (by omega), (fun h => by exfalso; omega), fun _ => ⟨hG, rfl⟩⟩
          · skip
            refine ⟨fun c17 => ?_, fun c17 => ?_⟩
            · exact hK18 0 σ ⟨rfl, (by (try dsimp only); omega)⟩
            · exact hK18 1 σ ⟨rfl, (by (try dsimp only); omega)⟩
        · skip
          refine ⟨fun c18 => ?_, fun c18 => ?_⟩
          · exact hK11 () σ ⟨rfl, trivial⟩
          · refine ⟨fun c19 => ?_, fun c19 => ?_⟩
            · exact hK11 () σ ⟨rfl, trivial⟩
            · exact kk 3221225731 σ hI hfr ⟨hG.mono (by omega), (fun h => by exfalso; omega), fun _ => ⟨hG, rfl⟩⟩
      · skip
        refine ⟨fun c20 => ?_, fun c20 => ?_⟩
        · exact hK5 () σ ⟨rfl, trivial⟩
        · refine jn_dup ?_
          refine ⟨fun c21 => ?_, fun c21 => ?_⟩
          · (try dsimp only)
            exact kk 3221225658 σ hI hfr ⟨hG.mono (by omega), (fun h => by exfalso; omega), fun _ => ⟨hG, rfl⟩⟩
          · refine ⟨fun c22 => ?_, fun c22 => ?_⟩
            · exact hK5 () σ ⟨rfl, trivial⟩
            · (try dsimp only)
              exact kk 3221225658 σ hI hfr ⟨hG.mono (by omega), (fun h => by exfalso; omega), fun _ => ⟨hG, rfl⟩⟩
    · exact kk 3221225525 σ hI hfr ⟨hG.mono (by omega), (fun h => by exfalso; omega), fun _ => ⟨hG, rfl⟩⟩
  · exact kk 3221225558 σ hI hfr ⟨hG.mono (by omega), (fun h => by exfalso; omega), fun _ => ⟨hG, rfl⟩⟩
set_option maxRecDepth 100000 in
set_option maxHeartbeats 4000000 in
theorem s_X12_granted {h0 : Nat} {L : Nat → Nat} {σ : HS} (hI : OKM h0 L σ) (a1 : Int32) (a2 : Int32) (hz : 0 ≤ a1.toInt ∧ a1.toInt < 80 ∧ 0 ≤ a2.toInt ∧ a2.toInt ≤ 255) {post : Int32 → HS → Prop} (kk : ∀ (r : Int32) (_ : 0 ≤ r.toInt ∧ r.toInt ≤ 255), post r σ) : F_X12_granted h0 L a1 a2 post σ := by
  unfold F_X12_granted
  have k_0 : (0 : Int32).toInt = 0 := rfl
  have k_1 : (1 : Int32).toInt = 1 := rfl
  have k_8 : (8 : Int32).toInt = 8 := rfl
  have k_9 : (9 : Int32).toInt = 9 := rfl
  have rg_a1 := i_range a1
  have rg_a2 := i_range a2
  refine ⟨by omega, ?_⟩
  intro z1 ez1
  have vz1 := hI.aI 3 160 0 1 (by decide) (by decide) rfl rfl rfl (i := a1.toInt) (by omega) ez1
  have wz1 : z1.toInt = (sI σ (L 3) a1.toInt.toNat).toInt := by rw [ez1]
  refine jn_dup ?_
  refine ⟨fun c1 => ?_, fun c1 => ?_⟩
  · (try dsimp only)
    exact kk 0 (by (try dsimp only); omega)
  · refine ⟨fun c2 => ?_, fun c2 => ?_⟩
    · refine s_X12_isOpened hI a1  (fun z8 pz8 => ?_)
      have rg_z8 := i_range z8
      refine ⟨fun c3 => ?_, fun c3 => ?_⟩
      · refine s_X12_openWith hI a1 8  (fun z10 pz10 => ?_)
        have rg_z10 := i_range z10
        refine jn_in (fun (x : Int32) (σ' : HS) => σ = σ' ∧ ((0 ≤ x.toInt ∧ x.toInt ≤ 1))) (fun x11 σ12 hJ => ?_) (fun K13 hK13 => ?_)
        · obtain ⟨hsg, hv⟩ := hJ
          subst hsg
          (try dsimp only at hv)
          have rg_x11 := i_range x11
          refine lw_in (fun (x : Int32 × Int32) (σ' : HS) => σ = σ' ∧ ((0 ≤ x.1.toInt ∧ x.1.toInt ≤ 80) ∧ (0 ≤ x.2.toInt ∧ x.2.toInt ≤ 1))) (fun (x : Int32 × Int32) (σ' : HS) => (82 - x.1.toInt).toNat) ⟨rfl, (by (try dsimp only); omega)⟩ (fun x16 σ17 hJ K18 hK18 => ?_)
          obtain ⟨hsg, hv⟩ := hJ
          subst hsg
          (try dsimp only at hv)
          have rg_x16_1 := i_range x16.1
          have rg_x16_2 := i_range x16.2
          intro z20 ez20
          have vz20 := hI.fI 63 0 80 (by decide) rfl rfl rfl ez20
          have wz20 : z20.toInt = (sI σ h0 63).toInt := by rw [ez20]
          refine ⟨fun c4 => ?_, fun c4 => ?_⟩
          · refine jn_dup ?_
            refine ⟨fun c5 => ?_, fun c5 => ?_⟩
            · (try dsimp only)
              exact kk 0 (by (try dsimp only); omega)
            · (try dsimp only)
              exact kk 1 (by (try dsimp only); omega)
          · refine jn_dup ?_
            refine jn_dup ?_
            refine ⟨fun c6 => ?_, fun c6 => ?_⟩
            · (try dsimp only)
              (try dsimp only)
              intro z31 ez31
              try have hz31 := i_add ez31 (by omega) (by omega)
              have rg_z31 := i_range z31
              exact hK18 (z31, 0) σ ⟨rfl, (by (try dsimp only); omega)⟩ (by (try dsimp only); omega)
            · refine ⟨by omega, ?_⟩
              intro z37 ez37
              have vz37 := hI.aI 57 80 0 79 (by decide) (by decide) rfl rfl rfl (i := x16.1.toInt) (by omega) ez37
              have wz37 : z37.toInt = (sI σ (L 57) x16.1.toInt.toNat).toInt := by rw [ez37]
              refine ⟨fun c7 => ?_, fun c7 => ?_⟩
              · (try dsimp only)
                (try dsimp only)
                intro z31 ez31
                try have hz31 := i_add ez31 (by omega) (by omega)
                have rg_z31 := i_range z31
                exact hK18 (z31, 0) σ ⟨rfl, (by (try dsimp only); omega)⟩ (by (try dsimp only); omega)
              · (try dsimp only)
                intro z31 ez31
                try have hz31 := i_add ez31 (by omega) (by omega)
                have rg_z31 := i_range z31
                exact hK18 (z31, 1) σ ⟨rfl, (by (try dsimp only); omega)⟩ (by (try dsimp only); omega)
        · skip
          refine jn_dup ?_
          refine ⟨fun c8 => ?_, fun c8 => ?_⟩
          · (try dsimp only)
            exact hK13 0 σ ⟨rfl, (by (try dsimp only); omega)⟩
          · refine s_X12_openWith hI a1 9  (fun z44 pz44 => ?_)
            have rg_z44 := i_range z44
            refine ⟨fun c9 => ?_, fun c9 => ?_⟩
            · (try dsimp only)
              exact hK13 0 σ ⟨rfl, (by (try dsimp only); omega)⟩
            · exact hK13 1 σ ⟨rfl, (by (try dsimp only); omega)⟩
      · exact kk a2 (by (try dsimp only); omega)
    · (try dsimp only)
      exact kk 0 (by (try dsimp only); omega)

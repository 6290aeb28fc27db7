/-! what ends -/
set_option maxRecDepth 100000 in
set_option maxHeartbeats 4000000 in
theorem s_X12_closes {h0 : Nat} {L : Nat → Nat} {σ : HS} (hI : OKM h0 L σ) (a1 : Int32) {B : Int} (hG : GI h0 L B σ) (hB : B < 4611686018427387904) (hz : 0 ≤ a1.toInt ∧ a1.toInt < 40 ∧ (sJ σ (L 41) a1.toInt.toNat).toInt ≠ 0) {post : HS → Prop} (kk : ∀ (σ' : HS), OKM h0 L σ' → Fr h0 L [16, 61, 62, 63, 69, 115, 116, 117] [1, 2, 3, 4, 5, 6, 7, 8, 9, 10, 14, 15, 16, 17, 18, 19, 20, 21, 22, 23, 27, 28, 41, 42, 43, 44, 45, 46, 47, 48, 49, 50, 51, 53, 56, 57, 58, 59, 60, 61, 62, 63, 64, 65, 66, 67, 68, 69, 70, 71, 72, 73, 74, 75, 76, 77, 78, 79] σ σ' → (GI h0 L B σ' ∧ ((0 < (sJ σ (L 41) a1.toInt.toNat).toInt → oc L σ' 0 + (sI σ' h0 69).toInt.toNat < oc L σ 0 + (sI σ h0 69).toInt.toNat))) → post σ') : F_X12_closes h0 L a1 post σ := by
  unfold F_X12_closes
  have k_m1 : ((-1) : Int32).toInt = (-1) := rfl
  have k_0 : (0 : Int32).toInt = 0 := rfl
  have k_1 : (1 : Int32).toInt = 1 := rfl
  have k_5 : (5 : Int32).toInt = 5 := rfl
  have k_10 : (10 : Int32).toInt = 10 := rfl
  have kl_3221225760 : (3221225760 : Int64).toInt = 3221225760 := rfl
  have rg_a1 := i_range a1
  have hfr : Fr h0 L [16, 61, 62, 63, 69, 115, 116, 117] [1, 2, 3, 4, 5, 6, 7, 8, 9, 10, 14, 15, 16, 17, 18, 19, 20, 21, 22, 23, 27, 28, 41, 42, 43, 44, 45, 46, 47, 48, 49, 50, 51, 53, 56, 57, 58, 59, 60, 61, 62, 63, 64, 65, 66, 67, 68, 69, 70, 71, 72, 73, 74, 75, 76, 77, 78, 79] σ σ := Fr.rf
  refine ⟨by omega, ?_⟩
  intro z1 ez1
  have wz1 : z1.toInt = (sJ σ (L 41) a1.toInt.toNat).toInt := by rw [ez1]
  refine ⟨by omega, ?_⟩
  intro z2 ez2
  have vz2 := hI.aI 43 40 0 79 (by decide) (by decide) rfl rfl rfl (i := a1.toInt) (by omega) ez2
  have wz2 : z2.toInt = (sI σ (L 43) a1.toInt.toNat).toInt := by rw [ez2]
  refine lw_in (fun (x : Int32) (σ' : HS) => OKM h0 L σ' ∧ Fr h0 L [16, 61, 62, 63, 69, 115, 116, 117] [1, 2, 3, 4, 5, 6, 7, 8, 9, 10, 14, 15, 16, 17, 18, 19, 20, 21, 22, 23, 27, 28, 41, 42, 43, 44, 45, 46, 47, 48, 49, 50, 51, 53, 56, 57, 58, 59, 60, 61, 62, 63, 64, 65, 66, 67, 68, 69, 70, 71, 72, 73, 74, 75, 76, 77, 78, 79] σ σ' ∧ ((0 ≤ x.toInt ∧ x.toInt ≤ 16) ∧ (0 ≤ x.toInt) ∧ ((sJ σ' (L 41) a1.toInt.toNat).toInt = z1.toInt) ∧ ((sI σ' (L 43) a1.toInt.toNat).toInt = z2.toInt) ∧ ((sI σ' h0 69).toInt ≤ (sI σ h0 69).toInt)) ∧ (∀ v : Int, oc L σ' v = oc L σ v) ∧ (GI h0 L B σ')) (fun (x : Int32) (σ' : HS) => ((sI σ' h0 69).toInt - x.toInt).toNat) ⟨hI, hfr, (by (try dsimp only); omega), (fun v => by first | rfl | exact hc v | exact (oc_ff fz67 (by decide) v).trans (hc v) | exact (oc_ff fz57 (by decide) v).trans (hc v) | exact (oc_ff f1σ48 (by decide) v).trans (hc v)), hG⟩ (fun x3 σ4 hJ K5 hK5 => ?_)
  obtain ⟨hI, hfr, hv, hc, hG⟩ := hJ
  (try dsimp only at hv)
  have rg_x3 := i_range x3
  intro z7 ez7
  have vz7 := hI.fI 69 0 16 (by decide) rfl rfl rfl ez7
  have wz7 : z7.toInt = (sI σ4 h0 69).toInt := by rw [ez7]
  refine ⟨fun c1 => ?_, fun c1 => ?_⟩
  · intro z8 ez8
    have vz8 := hI.fI 63 0 80 (by decide) rfl rfl rfl ez8
    have wz8 : z8.toInt = (sI σ4 h0 63).toInt := by rw [ez8]
    intro z9 ez9
    try have hz9 := i_sub ez9 (by omega) (by omega)
    have rg_z9 := i_range z9
    refine lw_in (fun (x : Int32) (σ' : HS) => OKM h0 L σ' ∧ Fr h0 L [16, 61, 62, 63, 69, 115, 116, 117] [1, 2, 3, 4, 5, 6, 7, 8, 9, 10, 14, 15, 16, 17, 18, 19, 20, 21, 22, 23, 27, 28, 41, 42, 43, 44, 45, 46, 47, 48, 49, 50, 51, 53, 56, 57, 58, 59, 60, 61, 62, 63, 64, 65, 66, 67, 68, 69, 70, 71, 72, 73, 74, 75, 76, 77, 78, 79] σ σ' ∧ ((-1 ≤ x.toInt ∧ x.toInt ≤ 79) ∧ (-1 ≤ x.toInt) ∧ (x.toInt < (sI σ' h0 63).toInt) ∧ ((sJ σ' (L 41) a1.toInt.toNat).toInt = z1.toInt) ∧ ((sI σ' (L 43) a1.toInt.toNat).toInt = z2.toInt) ∧ ((sI σ' h0 69).toInt ≤ (sI σ h0 69).toInt)) ∧ (∀ v : Int, oc L σ' v = oc L σ v) ∧ (GI h0 L B σ')) (fun (x : Int32) (σ' : HS) => (x.toInt + 1).toNat) ⟨hI, hfr, (by (try dsimp only); omega), (fun v => by first | rfl | exact hc v | exact (oc_ff fz67 (by decide) v).trans (hc v) | exact (oc_ff fz57 (by decide) v).trans (hc v) | exact (oc_ff f1σ48 (by decide) v).trans (hc v)), hG⟩ (fun x10 σ11 hJ K12 hK12 => ?_)
    obtain ⟨hI, hfr, hv, hc, hG⟩ := hJ
    (try dsimp only at hv)
    have rg_x10 := i_range x10
    refine ⟨fun c2 => ?_, fun c2 => ?_⟩
    · refine ⟨by omega, ?_⟩
      intro z14 ez14
      have vz14 := hI.aI 50 40 0 1 (by decide) (by decide) rfl rfl rfl (i := a1.toInt) (by omega) ez14
      have wz14 : z14.toInt = (sI σ11 (L 50) a1.toInt.toNat).toInt := by rw [ez14]
      refine jn_in (fun (x : Unit) (σ' : HS) => OKM h0 L σ' ∧ Fr h0 L [16, 61, 62, 63, 69, 115, 116, 117] [1, 2, 3, 4, 5, 6, 7, 8, 9, 10, 14, 15, 16, 17, 18, 19, 20, 21, 22, 23, 27, 28, 41, 42, 43, 44, 45, 46, 47, 48, 49, 50, 51, 53, 56, 57, 58, 59, 60, 61, 62, 63, 64, 65, 66, 67, 68, 69, 70, 71, 72, 73, 74, 75, 76, 77, 78, 79] σ σ' ∧ (((sJ σ' (L 41) a1.toInt.toNat).toInt = z1.toInt) ∧ ((sI σ' (L 43) a1.toInt.toNat).toInt = z2.toInt) ∧ ((sI σ' h0 69).toInt ≤ (sI σ h0 69).toInt)) ∧ (∀ v : Int, oc L σ' v = oc L σ v) ∧ (GI h0 L B σ')) (fun x15 σ16 hJ => ?_) (fun K17 hK17 => ?_)
      · obtain ⟨hI, hfr, hv, hc, hG⟩ := hJ
        (try dsimp only at hv)
        refine ⟨by omega, ?_⟩
        intro σ20 eσ20
        have hMp := hI.2
        have hI := hI.pJ eσ20
        have hfr := hfr.aJ hMp (by decide) eσ20 (by decide)
        have f1σ20 : Fr h0 L [] [41] σ16 σ20 := Fr.rf.aJ hMp (by decide) eσ20 (by decide)
        have tk1 : (sI σ20 h0 69).toInt = (sI σ16 h0 69).toInt := by rw [(f1σ20.1 69 (by decide)).1]
        have tk2 : (sI σ20 h0 63).toInt = (sI σ16 h0 63).toInt := by rw [(f1σ20.1 63 (by decide)).1]
        have tk3 := atJ eσ20 a1.toInt.toNat
        have tk4 : (sI σ20 (L 43) a1.toInt.toNat).toInt = (sI σ16 (L 43) a1.toInt.toNat).toInt := by rw [(f1σ20.2.1 43 (by decide) (by decide) _).1]
        have tk5 : (sI σ20 h0 16).toInt = (sI σ16 h0 16).toInt := by rw [(f1σ20.1 16 (by decide)).1]
        have hG := hG.cl hMp eσ20 rfl
        have oz := fun (u : Int) (hu : 0 ≤ u) => oc_zero eσ20 rfl u hu
        refine s_X12_isOpened hI z2  (fun z22 pz22 => ?_)
        have rg_z22 := i_range z22
        refine jn_in (fun (x : Unit) (σ' : HS) => OKM h0 L σ' ∧ Fr h0 L [16, 61, 62, 63, 69, 115, 116, 117] [1, 2, 3, 4, 5, 6, 7, 8, 9, 10, 14, 15, 16, 17, 18, 19, 20, 21, 22, 23, 27, 28, 41, 42, 43, 44, 45, 46, 47, 48, 49, 50, 51, 53, 56, 57, 58, 59, 60, 61, 62, 63, 64, 65, 66, 67, 68, 69, 70, 71, 72, 73, 74, 75, 76, 77, 78, 79] σ σ' ∧ (((sI σ' h0 69).toInt ≤ (sI σ h0 69).toInt)) ∧ (0 < z1.toInt → oc L σ' 0 < oc L σ 0) ∧ (GI h0 L B σ')) (fun x23 σ24 hJ => ?_) (fun K25 hK25 => ?_)
        · obtain ⟨hI, hfr, hv, hc, hG⟩ := hJ
          (try dsimp only at hv)
          have hIp := hI
          refine s_X12_allCome hI  hG.allCome (fun σ28 hI fz29 pz29 => ?_)
          have hfr := hfr.tr fz29 (by decide) (by decide)
          have tk6 : (sI σ28 h0 69).toInt = (sI σ24 h0 69).toInt := by rw [(fz29.1 69 (by decide)).1]
          have tk7 : (sI σ28 h0 63).toInt = (sI σ24 h0 63).toInt := by rw [(fz29.1 63 (by decide)).1]
          have tk8 : (sJ σ28 (L 41) a1.toInt.toNat).toInt = (sJ σ24 (L 41) a1.toInt.toNat).toInt := by rw [(fz29.2.1 41 (by decide) (by decide) _).2]
          have tk9 : (sI σ28 (L 43) a1.toInt.toNat).toInt = (sI σ24 (L 43) a1.toInt.toNat).toInt := by rw [(fz29.2.1 43 (by decide) (by decide) _).1]
          have hG := hG.come hIp fz29 pz29.1 pz29.2
          have hIp := hI
          refine s_X12_lookLocks hI   (fun σ30 hI fz31 pz31 => ?_)
          have hfr := hfr.tr fz31 (by decide) (by decide)
          have tk13 : (sJ σ30 (L 41) a1.toInt.toNat).toInt = (sJ σ28 (L 41) a1.toInt.toNat).toInt := by rw [(fz31.2.1 41 (by decide) (by decide) _).2]
          have tk14 : (sI σ30 (L 43) a1.toInt.toNat).toInt = (sI σ28 (L 43) a1.toInt.toNat).toInt := by rw [(fz31.2.1 43 (by decide) (by decide) _).1]
          have tk15 : (sI σ30 h0 16).toInt = (sI σ28 h0 16).toInt := by rw [(fz31.1 16 (by decide)).1]
          have hG := hG.sub hIp fz31 (pz31) (by decide) (by decide)
          have hIp := hI
          refine s_X12_redo hI z2 hG hB (fun σ32 hI fz33 pz33 => ?_)
          have hfr := hfr.tr fz33 (by decide) (by decide)
          have tk17 : (sI σ32 h0 63).toInt = (sI σ30 h0 63).toInt := by rw [(fz33.1 63 (by decide)).1]
          have hG := pz33.1
          exact kk σ32 hI hfr ⟨hG, (fun h => by have q1 := pz33.2 0 (by omega); have q2 := hc (by omega); rw [oc_ff fz31 (by decide), oc_ff fz29 (by decide)] at q1; have q3 := pz31.1; have h69 := hIp.fI 69 0 16 (by decide) rfl rfl rfl rfl; omega)⟩
        · skip
          refine ⟨fun c3 => ?_, fun c3 => ?_⟩
          · have c2 := fun (v : Int) => (rfl : oc L σ20 v = oc L σ20 v)
            exact hK25 () σ20 ⟨hI, hfr, (by (try dsimp only); omega), (fun h => by have q1 := (oz 0 (by omega)).2 (by omega) (by omega); have q2 := hc 0; have q3 := c2 0; omega), hG⟩
          · refine ⟨by omega, ?_⟩
            intro z34 ez34
            have vz34 := hI.aI 10 80 0 1 (by decide) (by decide) rfl rfl rfl (i := z2.toInt) (by omega) ez34
            have wz34 : z34.toInt = (sI σ20 (L 10) z2.toInt.toNat).toInt := by rw [ez34]
            refine ⟨fun c4 => ?_, fun c4 => ?_⟩
            · have c2 := fun (v : Int) => (rfl : oc L σ20 v = oc L σ20 v)
              exact hK25 () σ20 ⟨hI, hfr, (by (try dsimp only); omega), (fun h => by have q1 := (oz 0 (by omega)).2 (by omega) (by omega); have q2 := hc 0; have q3 := c2 0; omega), hG⟩
            · refine ⟨by omega, ?_⟩
              intro σ35 eσ35
              have hMp := hI.2
              have hI := hI.pA 10 0 1 (by decide) (by decide) rfl rfl (i_bool _) eσ35
              have hfr := hfr.aI hMp (by decide) eσ35 (by decide)
              have f1σ35 : Fr h0 L [] [10] σ20 σ35 := Fr.rf.aI hMp (by decide) eσ35 (by decide)
              have tk21 : (sI σ35 h0 69).toInt = (sI σ20 h0 69).toInt := by rw [(f1σ35.1 69 (by decide)).1]
              have tk22 : (sI σ35 h0 63).toInt = (sI σ20 h0 63).toInt := by rw [(f1σ35.1 63 (by decide)).1]
              have tk23 : (sJ σ35 (L 41) a1.toInt.toNat).toInt = (sJ σ20 (L 41) a1.toInt.toNat).toInt := by rw [(f1σ35.2.1 41 (by decide) (by decide) _).2]
              have tk24 : (sI σ35 (L 43) a1.toInt.toNat).toInt = (sI σ20 (L 43) a1.toInt.toNat).toInt := by rw [(f1σ35.2.1 43 (by decide) (by decide) _).1]
              have tk25 : (sI σ35 h0 16).toInt = (sI σ20 h0 16).toInt := by rw [(f1σ35.1 16 (by decide)).1]
              have ha := hG.2.1.2 z2.toInt.toNat (by omega) (by rw [← ez34]; omega)
              rw [vw0] at ha
              have ha : 0 ≤ (sI σ20 (L 2) z2.toInt.toNat).toInt := ha
              have s20 := hG.2.2.2.2.1
              have hG := hG.tg hMp eσ35 (fun h => absurd h (by decide))
              refine ⟨by omega, ?_⟩
              intro z36 ez36
              have vz36 := hI.aI 3 160 0 1 (by decide) (by decide) rfl rfl rfl (i := z2.toInt) (by omega) ez36
              have wz36 : z36.toInt = (sI σ35 (L 3) z2.toInt.toNat).toInt := by rw [ez36]
              refine jn_dup ?_
              refine ⟨fun c5 => ?_, fun c5 => ?_⟩
              · (try dsimp only)
                have hIp := hI
                have f16 := hI.fI 16 0 8 (by decide) rfl rfl rfl rfl
                have g16 := hG.1.1
                refine s_X12_record hI 5 z2 (by omega) (fun z43 σ42 hI fz43 pz43 => ?_)
                have hfr := hfr.tr fz43 (by decide) (by decide)
                have tk26 : (sI σ42 h0 69).toInt = (sI σ35 h0 69).toInt := by rw [(fz43.1 69 (by decide)).1]
                have tk27 : (sI σ42 h0 63).toInt = (sI σ35 h0 63).toInt := by rw [(fz43.1 63 (by decide)).1]
                have tk28 : (sJ σ42 (L 41) a1.toInt.toNat).toInt = (sJ σ35 (L 41) a1.toInt.toNat).toInt := by rw [(fz43.2.1 41 (by decide) (by decide) _).2]
                have tk29 : (sI σ42 (L 43) a1.toInt.toNat).toInt = (sI σ35 (L 43) a1.toInt.toNat).toInt := by rw [(fz43.2.1 43 (by decide) (by decide) _).1]
                have tk30 : (sI σ42 h0 16).toInt = (sI σ35 h0 16).toInt := by rw [(fz43.1 16 (by decide)).1]
                have rg_z43 := i_range z43
                have hG := pz43.2.gi hG fz43
                have rcz43 := (pz43.2 z43.toInt.toNat).2 (by omega)
                have hIp := hI
                have hrxz43 : (sI σ42 h0 16).toInt.toNat = z43.toInt.toNat := by omega
                have f42 : Fr h0 L [] [10, 14, 15, 16, 17, 18, 19, 20, 21, 22, 23] σ20 σ42 := (Fr.rf.tr f1σ35 (by decide) (by decide)).tr fz43 (by decide) (by decide)
                have l2 := congrArg Int32.toInt (f42.2.1 2 (by decide) (by decide) z2.toInt.toNat).1
                have ho_ : ∀ o, o < 40 → (sJ σ42 (L 41) o).toInt ≠ 0 → (sI σ42 (L 43) o).toInt ≠ (z2.toInt.toNat : Nat) := fun o ho hs e => by rw [(f42.2.1 41 (by decide) (by decide) o).2] at hs; rw [(f42.2.1 43 (by decide) (by decide) o).1] at e; have s0 := s20 o ho; exact pz22.2 (by omega) o ho ⟨by omega, by omega⟩
                have l3 := congrArg Int32.toInt (fz43.2.1 3 (by decide) (by decide) z2.toInt.toNat).1
                have hc_ : ∀ x, x < 80 → (sI σ42 (L 1) x).toInt = 1 → (sI σ42 (L 2) x).toInt ≠ (z2.toInt.toNat : Nat) := fun x hx h1 => by first | (intro e; rw [(fz43.2.1 1 (by decide) (by decide) x).1] at h1; rw [(fz43.2.1 2 (by decide) (by decide) x).1] at e; exact pz47.2 (by omega) x hx ⟨h1, by omega⟩) | (have q := (hG.1.live hI).nochild (n := z2.toInt.toNat) (by rw [vw0]; show (sI σ42 (L 3) _).toInt ≠ 1; omega) x hx (by rw [vw0]; exact h1); rw [vw0] at q; exact q)
                refine s2_X12_done hI  hG (by rw [hrxz43]; omega) (by rw [hrxz43]; exact EV.m5 (n := z2.toInt.toNat) (by omega) (by omega) (by omega) hc_ (by omega) ho_) (fun σ44 hI fz45 pz45 => ?_)
                have hfr := hfr.tr fz45 (by decide) (by decide)
                have tk31 : (sI σ44 h0 69).toInt = (sI σ42 h0 69).toInt := by rw [(fz45.1 69 (by decide)).1]
                have tk32 : (sI σ44 h0 63).toInt = (sI σ42 h0 63).toInt := by rw [(fz45.1 63 (by decide)).1]
                have tk33 : (sJ σ44 (L 41) a1.toInt.toNat).toInt = (sJ σ42 (L 41) a1.toInt.toNat).toInt := by rw [(fz45.2.1 41 (by decide) (by decide) _).2]
                have tk34 : (sI σ44 (L 43) a1.toInt.toNat).toInt = (sI σ42 (L 43) a1.toInt.toNat).toInt := by rw [(fz45.2.1 43 (by decide) (by decide) _).1]
                have tk36 : (sI σ44 (L 14) z43.toInt.toNat).toInt = (sI σ42 (L 14) z43.toInt.toNat).toInt := by rw [(fz45.2.1 14 (by decide) (by decide) _).1]
                have tk37 : (sI σ44 (L 15) z43.toInt.toNat).toInt = (sI σ42 (L 15) z43.toInt.toNat).toInt := by rw [(fz45.2.1 15 (by decide) (by decide) _).1]
                have tk38 : (sI σ44 (L 16) z43.toInt.toNat).toInt = (sI σ42 (L 16) z43.toInt.toNat).toInt := by rw [(fz45.2.1 16 (by decide) (by decide) _).1]
                have tk39 : (sI σ44 (L 17) z43.toInt.toNat).toInt = (sI σ42 (L 17) z43.toInt.toNat).toInt := by rw [(fz45.2.1 17 (by decide) (by decide) _).1]
                have tk40 : (sI σ44 (L 22) z43.toInt.toNat).toInt = (sI σ42 (L 22) z43.toInt.toNat).toInt := by rw [(fz45.2.1 22 (by decide) (by decide) _).1]
                have tk41 : (sI σ44 (L 23) z43.toInt.toNat).toInt = (sI σ42 (L 23) z43.toInt.toNat).toInt := by rw [(fz45.2.1 23 (by decide) (by decide) _).1]
                have hG := pz45.1
                have dvz45 := pz45.2
                have c2 := fun (v : Int) => (oc_ff fz45 (by decide) v).trans ((oc_ff fz43 (by decide) v).trans (oc_ff f1σ35 (by decide) v))
                exact hK25 () σ44 ⟨hI, hfr, (by (try dsimp only); omega), (fun h => by have q1 := (oz 0 (by omega)).2 (by omega) (by omega); have q2 := hc 0; have q3 := c2 0; omega), hG⟩
              · refine s_X12_isEmpty hI z2  (fun z47 pz47 => ?_)
                have rg_z47 := i_range z47
                refine ⟨fun c6 => ?_, fun c6 => ?_⟩
                · have c2 := fun (v : Int) => oc_ff f1σ35 (by decide) v
                  exact hK25 () σ35 ⟨hI, hfr, (by (try dsimp only); omega), (fun h => by have q1 := (oz 0 (by omega)).2 (by omega) (by omega); have q2 := hc 0; have q3 := c2 0; omega), hG⟩
                · (try dsimp only)
                  have hIp := hI
                  have f16 := hI.fI 16 0 8 (by decide) rfl rfl rfl rfl
                  have g16 := hG.1.1
                  refine s_X12_record hI 5 z2 (by omega) (fun z43 σ42 hI fz43 pz43 => ?_)
                  have hfr := hfr.tr fz43 (by decide) (by decide)
                  have tk42 : (sI σ42 h0 69).toInt = (sI σ35 h0 69).toInt := by rw [(fz43.1 69 (by decide)).1]
                  have tk43 : (sI σ42 h0 63).toInt = (sI σ35 h0 63).toInt := by rw [(fz43.1 63 (by decide)).1]
                  have tk44 : (sJ σ42 (L 41) a1.toInt.toNat).toInt = (sJ σ35 (L 41) a1.toInt.toNat).toInt := by rw [(fz43.2.1 41 (by decide) (by decide) _).2]
                  have tk45 : (sI σ42 (L 43) a1.toInt.toNat).toInt = (sI σ35 (L 43) a1.toInt.toNat).toInt := by rw [(fz43.2.1 43 (by decide) (by decide) _).1]
                  have tk46 : (sI σ42 h0 16).toInt = (sI σ35 h0 16).toInt := by rw [(fz43.1 16 (by decide)).1]
                  have rg_z43 := i_range z43
                  have hG := pz43.2.gi hG fz43
                  have rcz43 := (pz43.2 z43.toInt.toNat).2 (by omega)
                  have hIp := hI
                  have hrxz43 : (sI σ42 h0 16).toInt.toNat = z43.toInt.toNat := by omega
                  have f42 : Fr h0 L [] [10, 14, 15, 16, 17, 18, 19, 20, 21, 22, 23] σ20 σ42 := (Fr.rf.tr f1σ35 (by decide) (by decide)).tr fz43 (by decide) (by decide)
                  have l2 := congrArg Int32.toInt (f42.2.1 2 (by decide) (by decide) z2.toInt.toNat).1
                  have ho_ : ∀ o, o < 40 → (sJ σ42 (L 41) o).toInt ≠ 0 → (sI σ42 (L 43) o).toInt ≠ (z2.toInt.toNat : Nat) := fun o ho hs e => by rw [(f42.2.1 41 (by decide) (by decide) o).2] at hs; rw [(f42.2.1 43 (by decide) (by decide) o).1] at e; have s0 := s20 o ho; exact pz22.2 (by omega) o ho ⟨by omega, by omega⟩
                  have l3 := congrArg Int32.toInt (fz43.2.1 3 (by decide) (by decide) z2.toInt.toNat).1
                  have hc_ : ∀ x, x < 80 → (sI σ42 (L 1) x).toInt = 1 → (sI σ42 (L 2) x).toInt ≠ (z2.toInt.toNat : Nat) := fun x hx h1 => by first | (intro e; rw [(fz43.2.1 1 (by decide) (by decide) x).1] at h1; rw [(fz43.2.1 2 (by decide) (by decide) x).1] at e; exact pz47.2 (by omega) x hx ⟨h1, by omega⟩) | (have q := (hG.1.live hI).nochild (n := z2.toInt.toNat) (by rw [vw0]; show (sI σ42 (L 3) _).toInt ≠ 1; omega) x hx (by rw [vw0]; exact h1); rw [vw0] at q; exact q)
                  refine s2_X12_done hI  hG (by rw [hrxz43]; omega) (by rw [hrxz43]; exact EV.m5 (n := z2.toInt.toNat) (by omega) (by omega) (by omega) hc_ (by omega) ho_) (fun σ44 hI fz45 pz45 => ?_)
                  have hfr := hfr.tr fz45 (by decide) (by decide)
                  have tk47 : (sI σ44 h0 69).toInt = (sI σ42 h0 69).toInt := by rw [(fz45.1 69 (by decide)).1]
                  have tk48 : (sI σ44 h0 63).toInt = (sI σ42 h0 63).toInt := by rw [(fz45.1 63 (by decide)).1]
                  have tk49 : (sJ σ44 (L 41) a1.toInt.toNat).toInt = (sJ σ42 (L 41) a1.toInt.toNat).toInt := by rw [(fz45.2.1 41 (by decide) (by decide) _).2]
                  have tk50 : (sI σ44 (L 43) a1.toInt.toNat).toInt = (sI σ42 (L 43) a1.toInt.toNat).toInt := by rw [(fz45.2.1 43 (by decide) (by decide) _).1]
                  have tk52 : (sI σ44 (L 14) z43.toInt.toNat).toInt = (sI σ42 (L 14) z43.toInt.toNat).toInt := by rw [(fz45.2.1 14 (by decide) (by decide) _).1]
                  have tk53 : (sI σ44 (L 15) z43.toInt.toNat).toInt = (sI σ42 (L 15) z43.toInt.toNat).toInt := by rw [(fz45.2.1 15 (by decide) (by decide) _).1]
                  have tk54 : (sI σ44 (L 16) z43.toInt.toNat).toInt = (sI σ42 (L 16) z43.toInt.toNat).toInt := by rw [(fz45.2.1 16 (by decide) (by decide) _).1]
                  have tk55 : (sI σ44 (L 17) z43.toInt.toNat).toInt = (sI σ42 (L 17) z43.toInt.toNat).toInt := by rw [(fz45.2.1 17 (by decide) (by decide) _).1]
                  have tk56 : (sI σ44 (L 22) z43.toInt.toNat).toInt = (sI σ42 (L 22) z43.toInt.toNat).toInt := by rw [(fz45.2.1 22 (by decide) (by decide) _).1]
                  have tk57 : (sI σ44 (L 23) z43.toInt.toNat).toInt = (sI σ42 (L 23) z43.toInt.toNat).toInt := by rw [(fz45.2.1 23 (by decide) (by decide) _).1]
                  have hG := pz45.1
                  have dvz45 := pz45.2
                  have c2 := fun (v : Int) => (oc_ff fz45 (by decide) v).trans ((oc_ff fz43 (by decide) v).trans (oc_ff f1σ35 (by decide) v))
                  exact hK25 () σ44 ⟨hI, hfr, (by (try dsimp only); omega), (fun h => by have q1 := (oz 0 (by omega)).2 (by omega) (by omega); have q2 := hc 0; have q3 := c2 0; omega), hG⟩
      · skip
        refine ⟨fun c7 => ?_, fun c7 => ?_⟩
        · exact hK17 () σ11 ⟨hI, hfr, (by (try dsimp only); omega), (fun v => by first | rfl | exact hc v | exact (oc_ff fz67 (by decide) v).trans (hc v) | exact (oc_ff fz57 (by decide) v).trans (hc v) | exact (oc_ff f1σ48 (by decide) v).trans (hc v)), hG⟩
        · refine ⟨by omega, ?_⟩
          intro σ48 eσ48
          have hMp := hI.2
          have hI := hI.pA 10 0 1 (by decide) (by decide) rfl rfl (i_bool _) eσ48
          have hfr := hfr.aI hMp (by decide) eσ48 (by decide)
          have f1σ48 : Fr h0 L [] [10] σ11 σ48 := Fr.rf.aI hMp (by decide) eσ48 (by decide)
          have tk58 : (sI σ48 h0 69).toInt = (sI σ11 h0 69).toInt := by rw [(f1σ48.1 69 (by decide)).1]
          have tk59 : (sI σ48 h0 63).toInt = (sI σ11 h0 63).toInt := by rw [(f1σ48.1 63 (by decide)).1]
          have tk60 : (sJ σ48 (L 41) a1.toInt.toNat).toInt = (sJ σ11 (L 41) a1.toInt.toNat).toInt := by rw [(f1σ48.2.1 41 (by decide) (by decide) _).2]
          have tk61 : (sI σ48 (L 43) a1.toInt.toNat).toInt = (sI σ11 (L 43) a1.toInt.toNat).toInt := by rw [(f1σ48.2.1 43 (by decide) (by decide) _).1]
          have tk62 : (sI σ48 h0 16).toInt = (sI σ11 h0 16).toInt := by rw [(f1σ48.1 16 (by decide)).1]
          have hG := hG.tg hMp eσ48 (fun _ => by have q := hG.2.1.go (o := a1.toInt.toNat) (by omega) (by omega) (by omega); rw [show (sI σ11 (L 43) a1.toInt.toNat).toInt = z2.toInt by omega] at q; exact q)
          exact hK17 () σ48 ⟨hI, hfr, (by (try dsimp only); omega), (fun v => by first | rfl | exact hc v | exact (oc_ff fz67 (by decide) v).trans (hc v) | exact (oc_ff fz57 (by decide) v).trans (hc v) | exact (oc_ff f1σ48 (by decide) v).trans (hc v)), hG⟩
    · refine ⟨by omega, ?_⟩
      intro z49 ez49
      have wz49 : z49.toInt = (sJ σ11 (L 56) x10.toInt.toNat).toInt := by rw [ez49]
      refine jn_dup ?_
      refine ⟨fun c8 => ?_, fun c8 => ?_⟩
      · (try dsimp only)
        intro z55 ez55
        try have hz55 := i_add ez55 (by omega) (by omega)
        have rg_z55 := i_range z55
        exact hK12 z55 σ11 ⟨hI, hfr, (by (try dsimp only); omega), (fun v => by first | rfl | exact hc v | exact (oc_ff fz67 (by decide) v).trans (hc v) | exact (oc_ff fz57 (by decide) v).trans (hc v) | exact (oc_ff f1σ48 (by decide) v).trans (hc v)), hG⟩ (by (try dsimp only); omega)
      · have hIp := hI
        refine s_X12_unlock hI x10 (by omega) (fun σ56 hI fz57 pz57 => ?_)
        have hfr := hfr.tr fz57 (by decide) (by decide)
        have tk63 : (sI σ56 h0 69).toInt = (sI σ11 h0 69).toInt := by rw [(fz57.1 69 (by decide)).1]
        have tk65 : (sJ σ56 (L 41) a1.toInt.toNat).toInt = (sJ σ11 (L 41) a1.toInt.toNat).toInt := by rw [(fz57.2.1 41 (by decide) (by decide) _).2]
        have tk66 : (sI σ56 (L 43) a1.toInt.toNat).toInt = (sI σ11 (L 43) a1.toInt.toNat).toInt := by rw [(fz57.2.1 43 (by decide) (by decide) _).1]
        have tk67 : (sI σ56 h0 16).toInt = (sI σ11 h0 16).toInt := by rw [(fz57.1 16 (by decide)).1]
        have hG := hG.fr fz57 (by decide) (by decide)
        (try dsimp only)
        intro z55 ez55
        try have hz55 := i_add ez55 (by omega) (by omega)
        have rg_z55 := i_range z55
        exact hK12 z55 σ56 ⟨hI, hfr, (by (try dsimp only); omega), (fun v => by first | rfl | exact hc v | exact (oc_ff fz67 (by decide) v).trans (hc v) | exact (oc_ff fz57 (by decide) v).trans (hc v) | exact (oc_ff f1σ48 (by decide) v).trans (hc v)), hG⟩ (by (try dsimp only); omega)
  · refine ⟨by omega, ?_⟩
    intro z58 ez58
    have vz58 := hI.aI 62 16 0 65535 (by decide) (by decide) rfl rfl rfl (i := x3.toInt) (by omega) ez58
    have wz58 : z58.toInt = (sI σ4 (L 62) x3.toInt.toNat).toInt := by rw [ez58]
    refine jn_dup ?_
    refine ⟨fun c9 => ?_, fun c9 => ?_⟩
    · (try dsimp only)
      intro z64 ez64
      try have hz64 := i_add ez64 (by omega) (by omega)
      have rg_z64 := i_range z64
      exact hK5 z64 σ4 ⟨hI, hfr, (by (try dsimp only); omega), (fun v => by first | rfl | exact hc v | exact (oc_ff fz67 (by decide) v).trans (hc v) | exact (oc_ff fz57 (by decide) v).trans (hc v) | exact (oc_ff f1σ48 (by decide) v).trans (hc v)), hG⟩ (by (try dsimp only); omega)
    · refine ⟨by omega, ?_⟩
      intro z65 ez65
      have wz65 : z65.toInt = (sJ σ4 (L 69) x3.toInt.toNat).toInt := by rw [ez65]
      refine ⟨fun c10 => ?_, fun c10 => ?_⟩
      · (try dsimp only)
        intro z64 ez64
        try have hz64 := i_add ez64 (by omega) (by omega)
        have rg_z64 := i_range z64
        exact hK5 z64 σ4 ⟨hI, hfr, (by (try dsimp only); omega), (fun v => by first | rfl | exact hc v | exact (oc_ff fz67 (by decide) v).trans (hc v) | exact (oc_ff fz57 (by decide) v).trans (hc v) | exact (oc_ff f1σ48 (by decide) v).trans (hc v)), hG⟩ (by (try dsimp only); omega)
      · have hIp := hI
        refine s_X12_give hI x3 3221225760 (by omega) (fun σ66 hI fz67 pz67 => ?_)
        have hfr := hfr.tr fz67 (by decide) (by decide)
        have tk69 : (sI σ66 h0 63).toInt = (sI σ4 h0 63).toInt := by rw [(fz67.1 63 (by decide)).1]
        have tk70 : (sJ σ66 (L 41) a1.toInt.toNat).toInt = (sJ σ4 (L 41) a1.toInt.toNat).toInt := by rw [(fz67.2.1 41 (by decide) (by decide) _).2]
        have tk71 : (sI σ66 (L 43) a1.toInt.toNat).toInt = (sI σ4 (L 43) a1.toInt.toNat).toInt := by rw [(fz67.2.1 43 (by decide) (by decide) _).1]
        have tk72 : (sI σ66 h0 16).toInt = (sI σ4 h0 16).toInt := by rw [(fz67.1 16 (by decide)).1]
        have q69 := pz67.1
        have hG := hG.sub hIp fz67 (pz67.sub) (by decide) (by decide)
        exact hK5 x3 σ66 ⟨hI, hfr, (by (try dsimp only); omega), (fun v => by first | rfl | exact hc v | exact (oc_ff fz67 (by decide) v).trans (hc v) | exact (oc_ff fz57 (by decide) v).trans (hc v) | exact (oc_ff f1σ48 (by decide) v).trans (hc v)), hG⟩ (by (try dsimp only); omega)

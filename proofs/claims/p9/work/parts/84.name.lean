/-! names that change -/
section R84
variable {h0 : Nat} {L : Nat → Nat} {σ σ' σ1 σ2 : HS} {B : Int} {K N U D : Int} {n p : Nat} {fs js : List Nat}
theorem GI.root (hG : GI h0 L B σ) (hI : OKM h0 L σ) {s : Nat} (hs : s < 4) (h : 0 ≤ rts L σ s) : (sI σ (L 1) (rts L σ s).toNat).toInt = 1 ∧ (sI σ (L 2) (rts L σ s).toNat).toInt < 0 := by
  obtain ⟨p, hp, a, b, c⟩ := (hG.1.live hI).2 s hs h
  rw [vw0] at b c
  rw [a, Int.toNat_natCast]
  exact ⟨b, c⟩
theorem OKM.ab (hI : OKM h0 L σ) (x : Nat) (hx : x < 80) : (vw L σ 0 x).2.1 < 80 := by
  rw [vw0]
  have q := hI.aI 2 160 (-1) 79 (by decide) (by decide) rfl rfl rfl (i := (x : Int)) (by omega) rfl
  have : ((x : Int)).toNat = x := Int.toNat_natCast x
  rw [this] at q
  show (sI σ (L 2) x).toInt < 80
  omega
theorem nb_gone {y : Int} (h : Nb (vw L σ 0) n y) (hI : OKM h0 L σ) (f : Fr h0 L fs js σ σ1) (hf : nof js [1, 2, 3] = true) (hd : ∀ o, o < 80 → vw L σ2 0 o = ap K N U D (vw L σ1 0) o) (hK : K = 5) (hy : y < 80) : Nb (vw L σ2 0) n y := by
  refine h.ev (fun x hx => ?_) (fun x hx => hI.ab x hx) hy
  rw [hd x hx, hK, ap_52, vw_ff f hf]
theorem OG.op (h : OG L σ) {o : Nat} (ho : o < 40) (hs : (sJ σ (L 41) o).toInt ≠ 0) : (sI σ (L 1) (sI σ (L 43) o).toInt.toNat).toInt = 1 := by
  have q := (h.1 o ho hs).1
  rw [vw0] at q
  exact q
end R84
set_option maxRecDepth 100000 in
set_option maxHeartbeats 4000000 in
theorem s_X12_rename {h0 : Nat} {L : Nat → Nat} {σ : HS} (hI : OKM h0 L σ) (a1 : Int32) (a2 : Int32) (a3 : Int64) {B : Int} (hG : GI h0 L B σ) (hN : InM h0 L σ (sI σ h0 87).toInt) (hT : 0 ≤ rts L σ (sI σ (L 40) (sI σ h0 99).toInt.toNat).toInt.toNat) (hz : 0 ≤ a1.toInt ∧ a1.toInt < 80 ∧ 0 ≤ a2.toInt ∧ 20 ≤ a3.toInt ∧ a2.toInt + a3.toInt ≤ (sI σ h0 87).toInt ∧ 0 ≤ (sI σ h0 99).toInt) {post : Int64 → HS → Prop} (kk : ∀ (r : Int64) (σ' : HS), OKM h0 L σ' → Fr h0 L [16, 115, 116, 117] [1, 2, 3, 4, 5, 6, 7, 8, 9, 14, 15, 16, 17, 18, 19, 20, 21, 22, 23, 77, 78, 79] σ σ' → (GI h0 L B σ') → post r σ') : F_X12_rename h0 L a1 a2 a3 post σ := by
  unfold F_X12_rename
  have k_0 : (0 : Int32).toInt = 0 := rfl
  have k_1 : (1 : Int32).toInt = 1 := rfl
  have k_3 : (3 : Int32).toInt = 3 := rfl
  have k_4 : (4 : Int32).toInt = 4 := rfl
  have k_5 : (5 : Int32).toInt = 5 := rfl
  have k_16 : (16 : Int32).toInt = 16 := rfl
  have k_20 : (20 : Int32).toInt = 20 := rfl
  have k_40 : (40 : Int32).toInt = 40 := rfl
  have kl_0 : (0 : Int64).toInt = 0 := rfl
  have kl_20 : (20 : Int64).toInt = 20 := rfl
  have kl_3221225476 : (3221225476 : Int64).toInt = 3221225476 := rfl
  have kl_3221225485 : (3221225485 : Int64).toInt = 3221225485 := rfl
  have kl_3221225506 : (3221225506 : Int64).toInt = 3221225506 := rfl
  have kl_3221225523 : (3221225523 : Int64).toInt = 3221225523 := rfl
  have kl_3221225525 : (3221225525 : Int64).toInt = 3221225525 := rfl
  have kl_3221225530 : (3221225530 : Int64).toInt = 3221225530 := rfl
  have rg_a1 := i_range a1
  have rg_a2 := i_range a2
  have rg_a3 := l_range a3
  have hfr : Fr h0 L [16, 115, 116, 117] [1, 2, 3, 4, 5, 6, 7, 8, 9, 14, 15, 16, 17, 18, 19, 20, 21, 22, 23, 77, 78, 79] σ σ := Fr.rf
  have h87 : (0 : Int) ≤ (sI σ h0 87).toInt ∧ (sI σ h0 87).toInt ≤ 4000 := hI.fI 87 0 4000 (by decide) rfl rfl rfl rfl
  refine s_X12_number1 hI a2 (by omega) ((hN.fr hfr (by decide) (by decide)).le (by omega)) (fun z2 pz2 => ?_)
  have rg_z2 := i_range z2
  refine jn_in (fun (x : Int32) (σ' : HS) => σ = σ' ∧ ((0 ≤ x.toInt ∧ x.toInt ≤ 1))) (fun x3 σ4 hJ => ?_) (fun K5 hK5 => ?_)
  · obtain ⟨hsg, hv⟩ := hJ
    subst hsg
    (try dsimp only at hv)
    have rg_x3 := i_range x3
    intro z8 ez8
    try have hz8 := i_add ez8 (by omega) (by omega)
    have rg_z8 := i_range z8
    refine s_X12_number hI z8 4 (by omega) ((hN.fr hfr (by decide) (by decide)).le (by omega)) (fun z10 pz10 => ?_)
    have tz10 : z10.toInt = (NUM h0 L σ z8.toInt 4 : Int) ∧ z10.toInt < 4294967296 := num_t (n := 4) (K := 4294967296) pz10 rfl (by decide)
    intro z11 ez11
    try have hz11 := l_sub ez11 (by omega) (by omega)
    have rg_z11 := l_range z11
    refine ⟨fun c1 => ?_, fun c1 => ?_⟩
    · intro z12 ez12
      try have hz12 := i_add ez12 (by omega) (by omega)
      have rg_z12 := i_range z12
      have hIp := hI
      refine s_X12_readPath hI z12 z10 hN (by omega) (fun z14 σ13 hI fz14 pz14 => ?_)
      have hfr := hfr.tr fz14 (by decide) (by decide)
      have tk2 : (sI σ13 h0 116).toInt = (sI σ h0 116).toInt := by rw [(fz14.1 116 (by decide)).1]
      have tk3 : (sI σ13 h0 16).toInt = (sI σ h0 16).toInt := by rw [(fz14.1 16 (by decide)).1]
      have rg_z14 := i_range z14
      have hG := hG.fr fz14 (by decide) (by decide)
      refine ⟨fun c2 => ?_, fun c2 => ?_⟩
      · have hP : PTs h0 L σ13 := pz14.2 (by omega)
        intro z15 ez15
        have vz15 := hI.fI 99 (-1) 15 (by decide) rfl rfl rfl ez15
        have wz15 : z15.toInt = (sI σ h0 99).toInt := by rw [ez15, (hfr.1 99 (by decide)).1]
        refine ⟨by omega, ?_⟩
        intro z16 ez16
        have vz16 := hI.aI 40 16 0 3 (by decide) (by decide) rfl rfl rfl (i := z15.toInt) (by omega) ez16
        have wz16 : z16.toInt = (sI σ (L 40) z15.toInt.toNat).toInt := by rw [ez16, (hfr.2.1 40 (by decide) (by decide) _).1]
        refine ⟨by omega, ?_⟩
        intro z17 ez17
        have vz17 := hI.aI 11 4 (-1) 79 (by decide) (by decide) rfl rfl rfl (i := z16.toInt) (by omega) ez17
        have wz17 : z17.toInt = (sI σ (L 11) z16.toInt.toNat).toInt := by rw [ez17, (hfr.2.1 11 (by decide) (by decide) _).1]
        have hIp := hI
        have hT2 := hT
        unfold rts at hT2
        rw [← wz15, ← wz16, ← wz17] at hT2
        have rt_ := hG.root hI (s := z16.toInt.toNat) (by omega) (by show 0 ≤ (sI σ13 (L 11) z16.toInt.toNat).toInt; rw [← ez17]; exact hT2)
        unfold rts at rt_
        rw [← ez17] at rt_
        refine s2_X12_goes hI z17 hP (by omega) (fun z19 σ18 hI fz19 pz19 => ?_)
        have hfr := hfr.tr fz19 (by decide) (by decide)
        have tk4 : (sI σ18 h0 115).toInt = (sI σ13 h0 115).toInt := by rw [(fz19.1 115 (by decide)).1]
        have tk6 : (sI σ18 h0 16).toInt = (sI σ13 h0 16).toInt := by rw [(fz19.1 16 (by decide)).1]
        have rg_z19 := i_range z19
        have f116 := hI.fI 116 (-1) 79 (by decide) rfl rfl rfl rfl
        have hP := PTs.fr hP fz19 (by decide) (by decide) (by decide)
        have hG := hG.fr fz19 (by decide) (by decide)
        refine ⟨fun c3 => ?_, fun c3 => ?_⟩
        · have gq := pz19.2 (by omega)
          have t115 := congrArg Int32.toInt (fz19.1 115 (by decide)).1
          rw [← sI_ff fz19 (j := 1) (by decide) (by decide), ← sI_ff fz19 (j := 2) (by decide) (by decide), ← sI_ff fz19 (j := 3) (by decide) (by decide)] at gq
          intro z20 ez20
          have vz20 := hI.fI 115 0 121 (by decide) rfl rfl rfl ez20
          have wz20 : z20.toInt = (sI σ18 h0 115).toInt := by rw [ez20]
          refine jn_dup ?_
          refine ⟨fun c4 => ?_, fun c4 => ?_⟩
          · (try dsimp only)
            exact kk 3221225506 σ18 hI hfr hG
          · refine ⟨by omega, ?_⟩
            intro z26 ez26
            have vz26 := hI.aI 2 160 (-1) 79 (by decide) (by decide) rfl rfl rfl (i := a1.toInt) (by omega) ez26
            have wz26 : z26.toInt = (sI σ18 (L 2) a1.toInt.toNat).toInt := by rw [ez26]
            refine ⟨fun c5 => ?_, fun c5 => ?_⟩
            · refine ⟨by omega, ?_⟩
              intro z27 ez27
              have vz27 := hI.aI 3 160 0 1 (by decide) (by decide) rfl rfl rfl (i := a1.toInt) (by omega) ez27
              have wz27 : z27.toInt = (sI σ18 (L 3) a1.toInt.toNat).toInt := by rw [ez27]
              refine jn_in (fun (x : Unit) (σ' : HS) => σ18 = σ' ∧ (True) ∧ (Nb (vw L σ18 0) a1.toInt.toNat (sI σ18 h0 116).toInt)) (fun x28 σ29 hJ => ?_) (fun K30 hK30 => ?_)
              · obtain ⟨hsg, hv, hnb⟩ := hJ
                subst hsg
                (try dsimp only at hv)
                refine lw_in (fun (x : Int32) (σ' : HS) => σ18 = σ' ∧ ((0 ≤ x.toInt ∧ x.toInt ≤ 40))) (fun (x : Int32) (σ' : HS) => (41 - x.toInt).toNat) ⟨rfl, (by (try dsimp only); omega)⟩ (fun x33 σ34 hJ K35 hK35 => ?_)
                obtain ⟨hsg, hv⟩ := hJ
                subst hsg
                (try dsimp only at hv)
                have rg_x33 := i_range x33
                refine jn_in (fun (x : Unit) (σ' : HS) => σ18 = σ' ∧ (True)) (fun x37 σ38 hJ => ?_) (fun K39 hK39 => ?_)
                · obtain ⟨hsg, hv⟩ := hJ
                  subst hsg
                  (try dsimp only at hv)
                  intro z42 ez42
                  have vz42 := hI.fI 117 (-1) 79 (by decide) rfl rfl rfl ez42
                  have wz42 : z42.toInt = (sI σ18 h0 117).toInt := by rw [ez42]
                  rw [← wz42] at gq
                  have hG18 := hG
                  have hI18 := hI
                  refine jn_in (fun (x : Unit) (σ' : HS) => OKM h0 L σ' ∧ Fr h0 L [16, 115, 116, 117] [1, 2, 3, 4, 5, 6, 7, 8, 9, 14, 15, 16, 17, 18, 19, 20, 21, 22, 23, 77, 78, 79] σ σ' ∧ (((sI σ' h0 115).toInt = (sI σ18 h0 115).toInt) ∧ ((sI σ' h0 116).toInt = (sI σ18 h0 116).toInt) ∧ ((sI σ' (L 1) (sI σ18 h0 116).toInt.toNat).toInt = 1) ∧ ((sI σ' (L 3) (sI σ18 h0 116).toInt.toNat).toInt = 1) ∧ (0 ≤ (sI σ' (L 2) a1.toInt.toNat).toInt)) ∧ (PTs h0 L σ') ∧ (Nb (vw L σ' 0) a1.toInt.toNat (sI σ18 h0 116).toInt) ∧ (GI h0 L B σ')) (fun x43 σ44 hJ => ?_) (fun K45 hK45 => ?_)
                  · obtain ⟨hI, hfr, hv, hP, hnb, hG⟩ := hJ
                    (try dsimp only at hv)
                    have hIp := hI
                    have f16 := hI.fI 16 0 8 (by decide) rfl rfl rfl rfl
                    have g16 := hG.1.1
                    refine s_X12_record hI 4 a1 (by omega) (fun z49 σ48 hI fz49 pz49 => ?_)
                    have hfr := hfr.tr fz49 (by decide) (by decide)
                    have tk7 : (sI σ48 h0 115).toInt = (sI σ44 h0 115).toInt := by rw [(fz49.1 115 (by decide)).1]
                    have tk8 : (sI σ48 h0 116).toInt = (sI σ44 h0 116).toInt := by rw [(fz49.1 116 (by decide)).1]
                    have tk9 : (sI σ48 h0 16).toInt = (sI σ44 h0 16).toInt := by rw [(fz49.1 16 (by decide)).1]
                    have tk10 : (sI σ48 (L 1) (sI σ18 h0 116).toInt.toNat).toInt = (sI σ44 (L 1) (sI σ18 h0 116).toInt.toNat).toInt := by rw [(fz49.2.1 1 (by decide) (by decide) _).1]
                    have tk11 : (sI σ48 (L 3) (sI σ18 h0 116).toInt.toNat).toInt = (sI σ44 (L 3) (sI σ18 h0 116).toInt.toNat).toInt := by rw [(fz49.2.1 3 (by decide) (by decide) _).1]
                    have tk12 : (sI σ48 (L 2) a1.toInt.toNat).toInt = (sI σ44 (L 2) a1.toInt.toNat).toInt := by rw [(fz49.2.1 2 (by decide) (by decide) _).1]
                    have rg_z49 := i_range z49
                    have hP := PTs.fr hP fz49 (by decide) (by decide) (by decide)
                    have hG := pz49.2.gi hG fz49
                    have rcz49 := (pz49.2 z49.toInt.toNat).2 (by omega)
                    intro z50 ez50
                    have vz50 := hI.fI 116 (-1) 79 (by decide) rfl rfl rfl ez50
                    have wz50 : z50.toInt = (sI σ48 h0 116).toInt := by rw [ez50]
                    refine ⟨by omega, ?_⟩
                    intro σ51 eσ51
                    have hMp := hI.2
                    have hI := hI.pA 16 (-1) 79 (by decide) (by decide) rfl rfl (by omega) eσ51
                    have hfr := hfr.aI hMp (by decide) eσ51 (by decide)
                    have f1σ51 : Fr h0 L [] [16] σ48 σ51 := Fr.rf.aI hMp (by decide) eσ51 (by decide)
                    have tk13 : (sI σ51 h0 115).toInt = (sI σ48 h0 115).toInt := by rw [(f1σ51.1 115 (by decide)).1]
                    have tk14 : (sI σ51 h0 116).toInt = (sI σ48 h0 116).toInt := by rw [(f1σ51.1 116 (by decide)).1]
                    have tk15 : (sI σ51 h0 16).toInt = (sI σ48 h0 16).toInt := by rw [(f1σ51.1 16 (by decide)).1]
                    have tk16 : (sI σ51 (L 1) (sI σ18 h0 116).toInt.toNat).toInt = (sI σ48 (L 1) (sI σ18 h0 116).toInt.toNat).toInt := by rw [(f1σ51.2.1 1 (by decide) (by decide) _).1]
                    have tk17 : (sI σ51 (L 3) (sI σ18 h0 116).toInt.toNat).toInt = (sI σ48 (L 3) (sI σ18 h0 116).toInt.toNat).toInt := by rw [(f1σ51.2.1 3 (by decide) (by decide) _).1]
                    have tk18 : (sI σ51 (L 2) a1.toInt.toNat).toInt = (sI σ48 (L 2) a1.toInt.toNat).toInt := by rw [(f1σ51.2.1 2 (by decide) (by decide) _).1]
                    have tk19 : (sI σ51 (L 14) z49.toInt.toNat).toInt = (sI σ48 (L 14) z49.toInt.toNat).toInt := by rw [(f1σ51.2.1 14 (by decide) (by decide) _).1]
                    have tk20 : (sI σ51 (L 15) z49.toInt.toNat).toInt = (sI σ48 (L 15) z49.toInt.toNat).toInt := by rw [(f1σ51.2.1 15 (by decide) (by decide) _).1]
                    have tk21 := atI eσ51 z49.toInt.toNat
                    have tk22 : (sI σ51 (L 17) z49.toInt.toNat).toInt = (sI σ48 (L 17) z49.toInt.toNat).toInt := by rw [(f1σ51.2.1 17 (by decide) (by decide) _).1]
                    have tk23 : (sI σ51 (L 22) z49.toInt.toNat).toInt = (sI σ48 (L 22) z49.toInt.toNat).toInt := by rw [(f1σ51.2.1 22 (by decide) (by decide) _).1]
                    have tk24 : (sI σ51 (L 23) z49.toInt.toNat).toInt = (sI σ48 (L 23) z49.toInt.toNat).toInt := by rw [(f1σ51.2.1 23 (by decide) (by decide) _).1]
                    have hP := PTs.fr hP f1σ51 (by decide) (by decide) (by decide)
                    have hG := hG.ra hMp eσ51 (by decide) (by decide) (by omega)
                    intro z52 ez52
                    have vz52 := hI.fI 115 0 121 (by decide) rfl rfl rfl ez52
                    have wz52 : z52.toInt = (sI σ51 h0 115).toInt := by rw [ez52]
                    intro z53 ez53
                    try have hz53 := i_sub ez53 (by omega) (by omega)
                    have rg_z53 := i_range z53
                    have hIp := hI
                    have hp := hP z53.toInt.toNat (by omega)
                    refine s_X12_nameIt hI z49 z53 (by omega) (fun σ54 hI fz55 pz55 => ?_)
                    have hfr := hfr.tr fz55 (by decide) (by decide)
                    have tk25 : (sI σ54 h0 115).toInt = (sI σ51 h0 115).toInt := by rw [(fz55.1 115 (by decide)).1]
                    have tk26 : (sI σ54 h0 116).toInt = (sI σ51 h0 116).toInt := by rw [(fz55.1 116 (by decide)).1]
                    have tk27 : (sI σ54 h0 16).toInt = (sI σ51 h0 16).toInt := by rw [(fz55.1 16 (by decide)).1]
                    have tk28 : (sI σ54 (L 1) (sI σ18 h0 116).toInt.toNat).toInt = (sI σ51 (L 1) (sI σ18 h0 116).toInt.toNat).toInt := by rw [(fz55.2.1 1 (by decide) (by decide) _).1]
                    have tk29 : (sI σ54 (L 3) (sI σ18 h0 116).toInt.toNat).toInt = (sI σ51 (L 3) (sI σ18 h0 116).toInt.toNat).toInt := by rw [(fz55.2.1 3 (by decide) (by decide) _).1]
                    have tk30 : (sI σ54 (L 2) a1.toInt.toNat).toInt = (sI σ51 (L 2) a1.toInt.toNat).toInt := by rw [(fz55.2.1 2 (by decide) (by decide) _).1]
                    have tk31 : (sI σ54 (L 14) z49.toInt.toNat).toInt = (sI σ51 (L 14) z49.toInt.toNat).toInt := by rw [(fz55.2.1 14 (by decide) (by decide) _).1]
                    have tk32 : (sI σ54 (L 15) z49.toInt.toNat).toInt = (sI σ51 (L 15) z49.toInt.toNat).toInt := by rw [(fz55.2.1 15 (by decide) (by decide) _).1]
                    have tk33 : (sI σ54 (L 16) z49.toInt.toNat).toInt = (sI σ51 (L 16) z49.toInt.toNat).toInt := by rw [(fz55.2.1 16 (by decide) (by decide) _).1]
                    have tk34 : (sI σ54 (L 17) z49.toInt.toNat).toInt = (sI σ51 (L 17) z49.toInt.toNat).toInt := by rw [(fz55.2.1 17 (by decide) (by decide) _).1]
                    have tk35 : (sI σ54 (L 22) z49.toInt.toNat).toInt = (sI σ51 (L 22) z49.toInt.toNat).toInt := by rw [(fz55.2.1 22 (by decide) (by decide) _).1]
                    have tk36 : (sI σ54 (L 23) z49.toInt.toNat).toInt = (sI σ51 (L 23) z49.toInt.toNat).toInt := by rw [(fz55.2.1 23 (by decide) (by decide) _).1]
                    have hP := PTs.fr hP fz55 (by decide) (by decide) (by decide)
                    have hG := hG.fr fz55 (by decide) (by decide)
                    intro z56 ez56
                    try have hz56 := i_mulk 4 rfl ez56 (by omega) (by omega)
                    have rg_z56 := i_range z56
                    intro z57 ez57
                    try have hz57 := i_add ez57 (by omega) (by omega)
                    have rg_z57 := i_range z57
                    intro z58 ez58
                    have wz58 : z58.toInt = (sJ σ54 h0 2).toInt := by rw [ez58]
                    have vz58 := l_range z58
                    refine ⟨by omega, ?_⟩
                    intro σ59 eσ59
                    have hMp := hI.2
                    have hI := hI.pJ eσ59
                    have hfr := hfr.aJ hMp (by decide) eσ59 (by decide)
                    have f1σ59 : Fr h0 L [] [21] σ54 σ59 := Fr.rf.aJ hMp (by decide) eσ59 (by decide)
                    have tk37 : (sI σ59 h0 115).toInt = (sI σ54 h0 115).toInt := by rw [(f1σ59.1 115 (by decide)).1]
                    have tk38 : (sI σ59 h0 116).toInt = (sI σ54 h0 116).toInt := by rw [(f1σ59.1 116 (by decide)).1]
                    have tk39 : (sI σ59 h0 16).toInt = (sI σ54 h0 16).toInt := by rw [(f1σ59.1 16 (by decide)).1]
                    have tk40 : (sI σ59 (L 1) (sI σ18 h0 116).toInt.toNat).toInt = (sI σ54 (L 1) (sI σ18 h0 116).toInt.toNat).toInt := by rw [(f1σ59.2.1 1 (by decide) (by decide) _).1]
                    have tk41 : (sI σ59 (L 3) (sI σ18 h0 116).toInt.toNat).toInt = (sI σ54 (L 3) (sI σ18 h0 116).toInt.toNat).toInt := by rw [(f1σ59.2.1 3 (by decide) (by decide) _).1]
                    have tk42 : (sI σ59 (L 2) a1.toInt.toNat).toInt = (sI σ54 (L 2) a1.toInt.toNat).toInt := by rw [(f1σ59.2.1 2 (by decide) (by decide) _).1]
                    have tk43 : (sI σ59 (L 14) z49.toInt.toNat).toInt = (sI σ54 (L 14) z49.toInt.toNat).toInt := by rw [(f1σ59.2.1 14 (by decide) (by decide) _).1]
                    have tk44 : (sI σ59 (L 15) z49.toInt.toNat).toInt = (sI σ54 (L 15) z49.toInt.toNat).toInt := by rw [(f1σ59.2.1 15 (by decide) (by decide) _).1]
                    have tk45 : (sI σ59 (L 16) z49.toInt.toNat).toInt = (sI σ54 (L 16) z49.toInt.toNat).toInt := by rw [(f1σ59.2.1 16 (by decide) (by decide) _).1]
                    have tk46 : (sI σ59 (L 17) z49.toInt.toNat).toInt = (sI σ54 (L 17) z49.toInt.toNat).toInt := by rw [(f1σ59.2.1 17 (by decide) (by decide) _).1]
                    have tk47 : (sI σ59 (L 22) z49.toInt.toNat).toInt = (sI σ54 (L 22) z49.toInt.toNat).toInt := by rw [(f1σ59.2.1 22 (by decide) (by decide) _).1]
                    have tk48 : (sI σ59 (L 23) z49.toInt.toNat).toInt = (sI σ54 (L 23) z49.toInt.toNat).toInt := by rw [(f1σ59.2.1 23 (by decide) (by decide) _).1]
                    have hP := PTs.fr hP f1σ59 (by decide) (by decide) (by decide)
                    have hG := hG.fr f1σ59 (by decide) (by decide)
                    have hIp := hI
                    have hrxz49 : (sI σ59 h0 16).toInt.toNat = z49.toInt.toNat := by omega
                    have hn_ : Nb (vw L σ59 0) a1.toInt.toNat ((sI σ18 h0 116).toInt.toNat : Nat) := by rw [vw_ff f1σ59 (by decide), vw_ff fz55 (by decide), vw_ff f1σ51 (by decide), vw_ff fz49 (by decide), show (((sI σ18 h0 116).toInt.toNat : Nat) : Int) = (sI σ18 h0 116).toInt by omega]; exact hnb
                    refine s2_X12_done hI  hG (by rw [hrxz49]; omega) (by rw [hrxz49]; exact EV.m4 (n := a1.toInt.toNat) (p := (sI σ18 h0 116).toInt.toNat) (by omega) (by omega) (by omega) (by omega) (by omega) (by omega) (by omega) hn_ (by omega)) (fun σ60 hI fz61 pz61 => ?_)
                    have hfr := hfr.tr fz61 (by decide) (by decide)
                    have tk49 : (sI σ60 h0 115).toInt = (sI σ59 h0 115).toInt := by rw [(fz61.1 115 (by decide)).1]
                    have tk50 : (sI σ60 h0 116).toInt = (sI σ59 h0 116).toInt := by rw [(fz61.1 116 (by decide)).1]
                    have tk55 : (sI σ60 (L 14) z49.toInt.toNat).toInt = (sI σ59 (L 14) z49.toInt.toNat).toInt := by rw [(fz61.2.1 14 (by decide) (by decide) _).1]
                    have tk56 : (sI σ60 (L 15) z49.toInt.toNat).toInt = (sI σ59 (L 15) z49.toInt.toNat).toInt := by rw [(fz61.2.1 15 (by decide) (by decide) _).1]
                    have tk57 : (sI σ60 (L 16) z49.toInt.toNat).toInt = (sI σ59 (L 16) z49.toInt.toNat).toInt := by rw [(fz61.2.1 16 (by decide) (by decide) _).1]
                    have tk58 : (sI σ60 (L 17) z49.toInt.toNat).toInt = (sI σ59 (L 17) z49.toInt.toNat).toInt := by rw [(fz61.2.1 17 (by decide) (by decide) _).1]
                    have tk59 : (sI σ60 (L 22) z49.toInt.toNat).toInt = (sI σ59 (L 22) z49.toInt.toNat).toInt := by rw [(fz61.2.1 22 (by decide) (by decide) _).1]
                    have tk60 : (sI σ60 (L 23) z49.toInt.toNat).toInt = (sI σ59 (L 23) z49.toInt.toNat).toInt := by rw [(fz61.2.1 23 (by decide) (by decide) _).1]
                    have hP := PTs.fr hP fz61 (by decide) (by decide) (by decide)
                    have hG := pz61.1
                    have dvz61 := pz61.2
                    exact kk 0 σ60 hI hfr hG
                  · skip
                    refine ⟨fun c6 => ?_, fun c6 => ?_⟩
                    · exact hK45 () σ18 ⟨hI, hfr, (by (try dsimp only); omega), hP, hnb, hG⟩
                    · refine ⟨fun c7 => ?_, fun c7 => ?_⟩
                      · exact hK45 () σ18 ⟨hI, hfr, (by (try dsimp only); omega), hP, hnb, hG⟩
                      · refine ⟨fun c8 => ?_, fun c8 => ?_⟩
                        · refine ⟨by omega, ?_⟩
                          intro z62 ez62
                          have vz62 := hI.aI 3 160 0 1 (by decide) (by decide) rfl rfl rfl (i := z42.toInt) (by omega) ez62
                          have wz62 : z62.toInt = (sI σ18 (L 3) z42.toInt.toNat).toInt := by rw [ez62]
                          refine jn_dup ?_
                          refine ⟨fun c9 => ?_, fun c9 => ?_⟩
                          · (try dsimp only)
                            exact kk 3221225506 σ18 hI hfr hG
                          · refine s_X12_isOpened hI z42  (fun z69 pz69 => ?_)
                            have rg_z69 := i_range z69
                            refine ⟨fun c10 => ?_, fun c10 => ?_⟩
                            · (try dsimp only)
                              exact kk 3221225506 σ18 hI hfr hG
                            · refine ⟨by omega, ?_⟩
                              intro z70 ez70
                              have vz70 := hI.aI 6 160 (-2147483648) 2147483647 (by decide) (by decide) rfl rfl rfl (i := z42.toInt) (by omega) ez70
                              have wz70 : z70.toInt = (sI σ18 (L 6) z42.toInt.toNat).toInt := by rw [ez70]
                              intro z71 ez71
                              try have hz71 := i_and1 ez71 (by omega)
                              have rg_z71 := i_range z71
                              refine ⟨fun c11 => ?_, fun c11 => ?_⟩
                              · have hIp := hI
                                have f16 := hI.fI 16 0 8 (by decide) rfl rfl rfl rfl
                                have g16 := hG.1.1
                                refine s_X12_record hI 5 z42 (by omega) (fun z73 σ72 hI fz73 pz73 => ?_)
                                have hfr := hfr.tr fz73 (by decide) (by decide)
                                have tk61 : (sI σ72 h0 115).toInt = (sI σ18 h0 115).toInt := by rw [(fz73.1 115 (by decide)).1]
                                have tk62 : (sI σ72 h0 116).toInt = (sI σ18 h0 116).toInt := by rw [(fz73.1 116 (by decide)).1]
                                have tk63 : (sI σ72 h0 16).toInt = (sI σ18 h0 16).toInt := by rw [(fz73.1 16 (by decide)).1]
                                have tk64 : (sI σ72 (L 1) (sI σ18 h0 116).toInt.toNat).toInt = (sI σ18 (L 1) (sI σ18 h0 116).toInt.toNat).toInt := by rw [(fz73.2.1 1 (by decide) (by decide) _).1]
                                have tk65 : (sI σ72 (L 3) (sI σ18 h0 116).toInt.toNat).toInt = (sI σ18 (L 3) (sI σ18 h0 116).toInt.toNat).toInt := by rw [(fz73.2.1 3 (by decide) (by decide) _).1]
                                have tk66 : (sI σ72 (L 2) a1.toInt.toNat).toInt = (sI σ18 (L 2) a1.toInt.toNat).toInt := by rw [(fz73.2.1 2 (by decide) (by decide) _).1]
                                have rg_z73 := i_range z73
                                have hP := PTs.fr hP fz73 (by decide) (by decide) (by decide)
                                have hG := pz73.2.gi hG fz73
                                have rcz73 := (pz73.2 z73.toInt.toNat).2 (by omega)
                                have hIp := hI
                                have hrxz73 : (sI σ72 h0 16).toInt.toNat = z73.toInt.toNat := by omega
                                have l2 := congrArg Int32.toInt (fz73.2.1 2 (by decide) (by decide) z42.toInt.toNat).1
                                have l3 := congrArg Int32.toInt (fz73.2.1 3 (by decide) (by decide) z42.toInt.toNat).1
                                have ho_ : ∀ o, o < 40 → (sJ σ72 (L 41) o).toInt ≠ 0 → (sI σ72 (L 43) o).toInt ≠ (z42.toInt.toNat : Nat) := fun o ho hs e => by rw [(fz73.2.1 41 (by decide) (by decide) o).2] at hs; rw [(fz73.2.1 43 (by decide) (by decide) o).1] at e; have s0 := hG18.2.2.2.2.1 o ho; exact pz69.2 (by omega) o ho ⟨by omega, by omega⟩
                                have hc_ : ∀ x, x < 80 → (sI σ72 (L 1) x).toInt = 1 → (sI σ72 (L 2) x).toInt ≠ (z42.toInt.toNat : Nat) := fun x hx h1 => by have q := (hG.1.live hI).nochild (n := z42.toInt.toNat) (by rw [vw0]; show (sI σ72 (L 3) _).toInt ≠ 1; omega) x hx (by rw [vw0]; exact h1); rw [vw0] at q; exact q
                                refine s2_X12_done hI  hG (by rw [hrxz73]; omega) (by rw [hrxz73]; exact EV.m5 (n := z42.toInt.toNat) (by omega) (by omega) (by omega) hc_ (by omega) ho_) (fun σ74 hI fz75 pz75 => ?_)
                                have hfr := hfr.tr fz75 (by decide) (by decide)
                                have tk67 : (sI σ74 h0 115).toInt = (sI σ72 h0 115).toInt := by rw [(fz75.1 115 (by decide)).1]
                                have tk68 : (sI σ74 h0 116).toInt = (sI σ72 h0 116).toInt := by rw [(fz75.1 116 (by decide)).1]
                                have tk73 : (sI σ74 (L 14) z73.toInt.toNat).toInt = (sI σ72 (L 14) z73.toInt.toNat).toInt := by rw [(fz75.2.1 14 (by decide) (by decide) _).1]
                                have tk74 : (sI σ74 (L 15) z73.toInt.toNat).toInt = (sI σ72 (L 15) z73.toInt.toNat).toInt := by rw [(fz75.2.1 15 (by decide) (by decide) _).1]
                                have tk75 : (sI σ74 (L 16) z73.toInt.toNat).toInt = (sI σ72 (L 16) z73.toInt.toNat).toInt := by rw [(fz75.2.1 16 (by decide) (by decide) _).1]
                                have tk76 : (sI σ74 (L 17) z73.toInt.toNat).toInt = (sI σ72 (L 17) z73.toInt.toNat).toInt := by rw [(fz75.2.1 17 (by decide) (by decide) _).1]
                                have tk77 : (sI σ74 (L 22) z73.toInt.toNat).toInt = (sI σ72 (L 22) z73.toInt.toNat).toInt := by rw [(fz75.2.1 22 (by decide) (by decide) _).1]
                                have tk78 : (sI σ74 (L 23) z73.toInt.toNat).toInt = (sI σ72 (L 23) z73.toInt.toNat).toInt := by rw [(fz75.2.1 23 (by decide) (by decide) _).1]
                                have hP := PTs.fr hP fz75 (by decide) (by decide) (by decide)
                                have hG := pz75.1
                                have dvz75 := pz75.2
                                have ne_ : (sI σ18 h0 116).toInt ≠ z42.toInt := fun e => by rw [← e] at wz62; omega
                                have dI := dvz75 (sI σ18 h0 116).toInt.toNat (by omega)
                                rw [hrxz73, ap_ne (by omega), vw_ff fz73 (by decide), vw0, vw0] at dI
                                simp only [Prod.mk.injEq] at dI
                                have dA := dvz75 a1.toInt.toNat (by omega)
                                rw [hrxz73, ap_ne (by omega), vw_ff fz73 (by decide), vw0, vw0] at dA
                                simp only [Prod.mk.injEq] at dA
                                have hnb := nb_gone hnb hI18 fz73 (by decide) dvz75 (by rw [hrxz73]; omega) (by omega)
                                exact hK45 () σ74 ⟨hI, hfr, (by (try dsimp only); omega), hP, hnb, hG⟩
                              · (try dsimp only)
                                exact kk 3221225506 σ18 hI hfr hG
                        · exact kk 3221225525 σ18 hI hfr hG
                · skip
                  refine ⟨fun c12 => ?_, fun c12 => ?_⟩
                  · exact hK39 () σ18 ⟨rfl, trivial⟩
                  · refine ⟨by omega, ?_⟩
                    intro z76 ez76
                    have vz76 := hI.aI 3 160 0 1 (by decide) (by decide) rfl rfl rfl (i := a1.toInt) (by omega) ez76
                    have wz76 : z76.toInt = (sI σ18 (L 3) a1.toInt.toNat).toInt := by rw [ez76]
                    refine ⟨fun c13 => ?_, fun c13 => ?_⟩
                    · exact hK39 () σ18 ⟨rfl, trivial⟩
                    · refine ⟨by omega, ?_⟩
                      intro z77 ez77
                      have wz77 : z77.toInt = (sJ σ18 (L 41) x33.toInt.toNat).toInt := by rw [ez77]
                      refine jn_dup ?_
                      refine ⟨fun c14 => ?_, fun c14 => ?_⟩
                      · (try dsimp only)
                        intro z83 ez83
                        try have hz83 := i_add ez83 (by omega) (by omega)
                        have rg_z83 := i_range z83
                        exact hK35 z83 σ18 ⟨rfl, (by (try dsimp only); omega)⟩ (by (try dsimp only); omega)
                      · refine ⟨by omega, ?_⟩
                        intro z84 ez84
                        have vz84 := hI.aI 43 40 0 79 (by decide) (by decide) rfl rfl rfl (i := x33.toInt) (by omega) ez84
                        have wz84 : z84.toInt = (sI σ (L 43) x33.toInt.toNat).toInt := by rw [ez84, (hfr.2.1 43 (by decide) (by decide) _).1]
                        refine ⟨fun c15 => ?_, fun c15 => ?_⟩
                        · (try dsimp only)
                          intro z83 ez83
                          try have hz83 := i_add ez83 (by omega) (by omega)
                          have rg_z83 := i_range z83
                          exact hK35 z83 σ18 ⟨rfl, (by (try dsimp only); omega)⟩ (by (try dsimp only); omega)
                        · refine ⟨by omega, ?_⟩
                          intro z85 ez85
                          have vz85 := hI.aI 43 40 0 79 (by decide) (by decide) rfl rfl rfl (i := x33.toInt) (by omega) ez85
                          have wz85 : z85.toInt = (sI σ (L 43) x33.toInt.toNat).toInt := by rw [ez85, (hfr.2.1 43 (by decide) (by decide) _).1]
                          have ol := hG.2.1.op (o := x33.toInt.toNat) (by omega) (by rw [← ez77]; omega)
                          rw [← ez85] at ol
                          refine s_X12_isBelow hI z85 a1 (hG.1.live hI) (by omega) (fun z87 pz87 => ?_)
                          have rg_z87 := i_range z87
                          refine ⟨fun c16 => ?_, fun c16 => ?_⟩
                          · (try dsimp only)
                            intro z83 ez83
                            try have hz83 := i_add ez83 (by omega) (by omega)
                            have rg_z83 := i_range z83
                            exact hK35 z83 σ18 ⟨rfl, (by (try dsimp only); omega)⟩ (by (try dsimp only); omega)
                          · exact kk 3221225506 σ18 hI hfr hG
              · skip
                refine ⟨fun c17 => ?_, fun c17 => ?_⟩
                · exact hK30 () σ18 ⟨rfl, trivial, (by first | (rw [← wz88]; exact pz90.2 (by omega)) | (rw [show (sI σ18 h0 116).toInt = (((sI σ18 h0 116).toInt.toNat : Nat) : Int) by omega]; exact (hG.1.live hI).nb (by rw [vw0]; show (sI σ18 (L 3) _).toInt ≠ 1; omega) (by omega) (by rw [vw0]; show (sI σ18 (L 1) _).toInt = 1; omega) (by rw [vw0]; show (sI σ18 (L 3) _).toInt = 1; omega)))⟩
                · intro z88 ez88
                  have vz88 := hI.fI 116 (-1) 79 (by decide) rfl rfl rfl ez88
                  have wz88 : z88.toInt = (sI σ18 h0 116).toInt := by rw [ez88]
                  have gl : (sI σ18 (L 1) z88.toInt.toNat).toInt = 1 := by rw [wz88]; omega
                  refine s_X12_isBelow hI z88 a1 (hG.1.live hI) (by omega) (fun z90 pz90 => ?_)
                  have rg_z90 := i_range z90
                  refine ⟨fun c18 => ?_, fun c18 => ?_⟩
                  · exact hK30 () σ18 ⟨rfl, trivial, (by first | (rw [← wz88]; exact pz90.2 (by omega)) | (rw [show (sI σ18 h0 116).toInt = (((sI σ18 h0 116).toInt.toNat : Nat) : Int) by omega]; exact (hG.1.live hI).nb (by rw [vw0]; show (sI σ18 (L 3) _).toInt ≠ 1; omega) (by omega) (by rw [vw0]; show (sI σ18 (L 1) _).toInt = 1; omega) (by rw [vw0]; show (sI σ18 (L 3) _).toInt = 1; omega)))⟩
                  · exact kk 3221225485 σ18 hI hfr hG
            · (try dsimp only)
              exact kk 3221225506 σ18 hI hfr hG
        · exact kk 3221225530 σ18 hI hfr hG
      · exact kk 3221225523 σ13 hI hfr hG
    · exact kk 3221225476 σ hI hfr hG
  · skip
    refine ⟨fun c19 => ?_, fun c19 => ?_⟩
    · exact hK5 0 σ ⟨rfl, (by (try dsimp only); omega)⟩
    · exact hK5 1 σ ⟨rfl, (by (try dsimp only); omega)⟩

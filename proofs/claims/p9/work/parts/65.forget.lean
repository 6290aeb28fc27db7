/-! who is forgotten -/
set_option maxRecDepth 100000 in
set_option maxHeartbeats 4000000 in
theorem s_X12_forget {h0 : Nat} {L : Nat → Nat} {σ : HS} (hI : OKM h0 L σ) (a1 : Int32) (hz : 0 ≤ a1.toInt ∧ a1.toInt < (sI σ h0 69).toInt) {post : HS → Prop} (kk : ∀ (σ' : HS), OKM h0 L σ' → Fr h0 L [69] [61, 62, 63, 64, 65, 66, 67, 68, 69, 70, 71, 72, 73, 74, 75] σ σ' → (Fg h0 L σ σ' a1.toInt.toNat) → post σ') : F_X12_forget h0 L a1 post σ := by
  unfold F_X12_forget
  have k_0 : (0 : Int32).toInt = 0 := rfl
  have k_1 : (1 : Int32).toInt = 1 := rfl
  have k_4000 : (4000 : Int32).toInt = 4000 := rfl
  have rg_a1 := i_range a1
  have hfr : Fr h0 L [69] [61, 62, 63, 64, 65, 66, 67, 68, 69, 70, 71, 72, 73, 74, 75] σ σ := Fr.rf
  intro z1 ez1
  have vz1 := hI.fI 69 0 16 (by decide) rfl rfl rfl ez1
  have wz1 : z1.toInt = (sI σ h0 69).toInt := by rw [ez1]
  intro z2 ez2
  try have hz2 := i_sub ez2 (by omega) (by omega)
  have rg_z2 := i_range z2
  intro σ3 eσ3
  have hMp := hI.2
  have hI := hI.pF 69 0 16 rfl rfl (by omega) eσ3
  have hfr := hfr.fI hMp eσ3 (by decide) rfl
  have uσ3 : (sI σ3 h0 69).toInt = z2.toInt := by rw [eσ3]; exact congrArg Int32.toInt u2_same
  have f1σ3 : Fr h0 L [69] [] σ σ3 := Fr.rf.fI hMp eσ3 (by decide) rfl
  refine lw_in (fun (x : Int32) (σ' : HS) => OKM h0 L σ' ∧ Fr h0 L [69] [61, 62, 63, 64, 65, 66, 67, 68, 69, 70, 71, 72, 73, 74, 75] σ σ' ∧ ((0 ≤ x.toInt) ∧ (a1.toInt ≤ x.toInt) ∧ ((sI σ' h0 69).toInt = (sI σ h0 69).toInt - 1) ∧ (x.toInt ≤ (sI σ' h0 69).toInt)) ∧ (FW L σ σ' a1.toInt.toNat x.toInt.toNat)) (fun (x : Int32) (σ' : HS) => ((sI σ h0 69).toInt - x.toInt).toNat) ⟨hI, hfr, (by (try dsimp only); omega), (FW.rf (fun j hj i => f1σ3.2.1 j (by omega) (by simp) i))⟩ (fun x4 σ5 hJ K6 hK6 => ?_)
  obtain ⟨hI, hfr, hv, hW⟩ := hJ
  (try dsimp only at hv)
  have rg_x4 := i_range x4
  intro z8 ez8
  have vz8 := hI.fI 69 0 16 (by decide) rfl rfl rfl ez8
  have wz8 : z8.toInt = (sI σ5 h0 69).toInt := by rw [ez8]
  refine ⟨fun c1 => ?_, fun c1 => ?_⟩
  · exact kk σ5 hI hfr ⟨by omega, hW.1, fun w h1 h2 => hW.2.1 w h1 (by omega)⟩
  · intro z9 ez9
    try have hz9 := i_add ez9 (by omega) (by omega)
    have rg_z9 := i_range z9
    refine ⟨by omega, ?_⟩
    intro z10 ez10
    have vz10 := hI.aI 61 16 0 5 (by decide) (by decide) rfl rfl rfl (i := z9.toInt) (by omega) ez10
    have wz10 : z10.toInt = (sI σ5 (L 61) z9.toInt.toNat).toInt := by rw [ez10]
    refine ⟨by omega, ?_⟩
    intro σ11 eσ11
    have hMp := hI.2
    have hI := hI.pA 61 0 5 (by decide) (by decide) rfl rfl (by omega) eσ11
    have hfr := hfr.aI hMp (by decide) eσ11 (by decide)
    have f1σ11 : Fr h0 L [] [61] σ5 σ11 := Fr.rf.aI hMp (by decide) eσ11 (by decide)
    have tk2 : (sI σ11 h0 69).toInt = (sI σ5 h0 69).toInt := by rw [(f1σ11.1 69 (by decide)).1]
    have hc : CP L σ5 σ5 x4.toInt.toNat 61 := CP.rf
    have hc : CP L σ5 σ11 x4.toInt.toNat 62 := hc.I hMp (by decide) rfl (by rw [show x4.toInt.toNat + 1 = z9.toInt.toNat by omega]; exact ez10) eσ11
    clear wz10 ez10 f1σ11 hMp vz10 ez9 hz9 rg_z9
    try clear eσ11
    intro z12 ez12
    try have hz12 := i_add ez12 (by omega) (by omega)
    have rg_z12 := i_range z12
    refine ⟨by omega, ?_⟩
    intro z13 ez13
    have vz13 := hI.aI 62 16 0 65535 (by decide) (by decide) rfl rfl rfl (i := z12.toInt) (by omega) ez13
    have wz13 : z13.toInt = (sI σ11 (L 62) z12.toInt.toNat).toInt := by rw [ez13]
    refine ⟨by omega, ?_⟩
    intro σ14 eσ14
    have hMp := hI.2
    have hI := hI.pA 62 0 65535 (by decide) (by decide) rfl rfl (by omega) eσ14
    have hfr := hfr.aI hMp (by decide) eσ14 (by decide)
    have f1σ14 : Fr h0 L [] [62] σ11 σ14 := Fr.rf.aI hMp (by decide) eσ14 (by decide)
    have tk3 : (sI σ14 h0 69).toInt = (sI σ11 h0 69).toInt := by rw [(f1σ14.1 69 (by decide)).1]
    have hc : CP L σ5 σ14 x4.toInt.toNat 63 := hc.I hMp (by decide) rfl (by rw [show x4.toInt.toNat + 1 = z12.toInt.toNat by omega]; exact ez13) eσ14
    clear wz13 ez13 f1σ14 hMp vz13 ez12 hz12 rg_z12
    try clear eσ14
    intro z15 ez15
    try have hz15 := i_add ez15 (by omega) (by omega)
    have rg_z15 := i_range z15
    refine ⟨by omega, ?_⟩
    intro z16 ez16
    have vz16 := hI.aI 63 16 0 65535 (by decide) (by decide) rfl rfl rfl (i := z15.toInt) (by omega) ez16
    have wz16 : z16.toInt = (sI σ14 (L 63) z15.toInt.toNat).toInt := by rw [ez16]
    refine ⟨by omega, ?_⟩
    intro σ17 eσ17
    have hMp := hI.2
    have hI := hI.pA 63 0 65535 (by decide) (by decide) rfl rfl (by omega) eσ17
    have hfr := hfr.aI hMp (by decide) eσ17 (by decide)
    have f1σ17 : Fr h0 L [] [63] σ14 σ17 := Fr.rf.aI hMp (by decide) eσ17 (by decide)
    have tk4 : (sI σ17 h0 69).toInt = (sI σ14 h0 69).toInt := by rw [(f1σ17.1 69 (by decide)).1]
    have hc : CP L σ5 σ17 x4.toInt.toNat 64 := hc.I hMp (by decide) rfl (by rw [show x4.toInt.toNat + 1 = z15.toInt.toNat by omega]; exact ez16) eσ17
    clear wz16 ez16 f1σ17 hMp vz16 ez15 hz15 rg_z15
    try clear eσ17
    intro z18 ez18
    try have hz18 := i_add ez18 (by omega) (by omega)
    have rg_z18 := i_range z18
    refine ⟨by omega, ?_⟩
    intro z19 ez19
    have vz19 := hI.aI 64 16 0 1 (by decide) (by decide) rfl rfl rfl (i := z18.toInt) (by omega) ez19
    have wz19 : z19.toInt = (sI σ17 (L 64) z18.toInt.toNat).toInt := by rw [ez19]
    refine ⟨by omega, ?_⟩
    intro σ20 eσ20
    have hMp := hI.2
    have hI := hI.pA 64 0 1 (by decide) (by decide) rfl rfl (i_bool _) eσ20
    have hfr := hfr.aI hMp (by decide) eσ20 (by decide)
    have f1σ20 : Fr h0 L [] [64] σ17 σ20 := Fr.rf.aI hMp (by decide) eσ20 (by decide)
    have tk5 : (sI σ20 h0 69).toInt = (sI σ17 h0 69).toInt := by rw [(f1σ20.1 69 (by decide)).1]
    have hc : CP L σ5 σ20 x4.toInt.toNat 65 := hc.I hMp (by decide) rfl (by rw [show x4.toInt.toNat + 1 = z18.toInt.toNat by omega]; show vp_nar .boolean z19 = _; rw [nar_bool (by omega)]; exact ez19) eσ20
    clear wz19 ez19 f1σ20 hMp vz19 ez18 hz18 rg_z18
    try clear eσ20
    intro z21 ez21
    try have hz21 := i_add ez21 (by omega) (by omega)
    have rg_z21 := i_range z21
    refine ⟨by omega, ?_⟩
    intro z22 ez22
    have wz22 : z22.toInt = (sJ σ20 (L 65) z21.toInt.toNat).toInt := by rw [ez22]
    refine ⟨by omega, ?_⟩
    intro σ23 eσ23
    have hMp := hI.2
    have hI := hI.pJ eσ23
    have hfr := hfr.aJ hMp (by decide) eσ23 (by decide)
    have f1σ23 : Fr h0 L [] [65] σ20 σ23 := Fr.rf.aJ hMp (by decide) eσ23 (by decide)
    have tk6 : (sI σ23 h0 69).toInt = (sI σ20 h0 69).toInt := by rw [(f1σ23.1 69 (by decide)).1]
    have hc : CP L σ5 σ23 x4.toInt.toNat 66 := hc.J hMp (by decide) rfl (by rw [show x4.toInt.toNat + 1 = z21.toInt.toNat by omega]; exact ez22) eσ23
    clear wz22 ez22 f1σ23 hMp  ez21 hz21 rg_z21
    try clear eσ23
    intro z24 ez24
    try have hz24 := i_add ez24 (by omega) (by omega)
    have rg_z24 := i_range z24
    refine ⟨by omega, ?_⟩
    intro z25 ez25
    have wz25 : z25.toInt = (sJ σ23 (L 66) z24.toInt.toNat).toInt := by rw [ez25]
    refine ⟨by omega, ?_⟩
    intro σ26 eσ26
    have hMp := hI.2
    have hI := hI.pJ eσ26
    have hfr := hfr.aJ hMp (by decide) eσ26 (by decide)
    have f1σ26 : Fr h0 L [] [66] σ23 σ26 := Fr.rf.aJ hMp (by decide) eσ26 (by decide)
    have tk7 : (sI σ26 h0 69).toInt = (sI σ23 h0 69).toInt := by rw [(f1σ26.1 69 (by decide)).1]
    have hc : CP L σ5 σ26 x4.toInt.toNat 67 := hc.J hMp (by decide) rfl (by rw [show x4.toInt.toNat + 1 = z24.toInt.toNat by omega]; exact ez25) eσ26
    clear wz25 ez25 f1σ26 hMp  ez24 hz24 rg_z24
    try clear eσ26
    intro z27 ez27
    try have hz27 := i_add ez27 (by omega) (by omega)
    have rg_z27 := i_range z27
    refine ⟨by omega, ?_⟩
    intro z28 ez28
    have vz28 := hI.aI 67 16 0 7 (by decide) (by decide) rfl rfl rfl (i := z27.toInt) (by omega) ez28
    have wz28 : z28.toInt = (sI σ26 (L 67) z27.toInt.toNat).toInt := by rw [ez28]
    refine ⟨by omega, ?_⟩
    intro σ29 eσ29
    have hMp := hI.2
    have hI := hI.pA 67 0 7 (by decide) (by decide) rfl rfl (by omega) eσ29
    have hfr := hfr.aI hMp (by decide) eσ29 (by decide)
    have f1σ29 : Fr h0 L [] [67] σ26 σ29 := Fr.rf.aI hMp (by decide) eσ29 (by decide)
    have tk8 : (sI σ29 h0 69).toInt = (sI σ26 h0 69).toInt := by rw [(f1σ29.1 69 (by decide)).1]
    have hc : CP L σ5 σ29 x4.toInt.toNat 68 := hc.I hMp (by decide) rfl (by rw [show x4.toInt.toNat + 1 = z27.toInt.toNat by omega]; exact ez28) eσ29
    clear wz28 ez28 f1σ29 hMp vz28 ez27 hz27 rg_z27
    try clear eσ29
    intro z30 ez30
    try have hz30 := i_add ez30 (by omega) (by omega)
    have rg_z30 := i_range z30
    refine ⟨by omega, ?_⟩
    intro z31 ez31
    have vz31 := hI.aI 68 16 0 15 (by decide) (by decide) rfl rfl rfl (i := z30.toInt) (by omega) ez31
    have wz31 : z31.toInt = (sI σ29 (L 68) z30.toInt.toNat).toInt := by rw [ez31]
    refine ⟨by omega, ?_⟩
    intro σ32 eσ32
    have hMp := hI.2
    have hI := hI.pA 68 0 15 (by decide) (by decide) rfl rfl (by omega) eσ32
    have hfr := hfr.aI hMp (by decide) eσ32 (by decide)
    have f1σ32 : Fr h0 L [] [68] σ29 σ32 := Fr.rf.aI hMp (by decide) eσ32 (by decide)
    have tk9 : (sI σ32 h0 69).toInt = (sI σ29 h0 69).toInt := by rw [(f1σ32.1 69 (by decide)).1]
    have hc : CP L σ5 σ32 x4.toInt.toNat 69 := hc.I hMp (by decide) rfl (by rw [show x4.toInt.toNat + 1 = z30.toInt.toNat by omega]; exact ez31) eσ32
    clear wz31 ez31 f1σ32 hMp vz31 ez30 hz30 rg_z30
    try clear eσ32
    intro z33 ez33
    try have hz33 := i_add ez33 (by omega) (by omega)
    have rg_z33 := i_range z33
    refine ⟨by omega, ?_⟩
    intro z34 ez34
    have wz34 : z34.toInt = (sJ σ32 (L 69) z33.toInt.toNat).toInt := by rw [ez34]
    refine ⟨by omega, ?_⟩
    intro σ35 eσ35
    have hMp := hI.2
    have hI := hI.pJ eσ35
    have hfr := hfr.aJ hMp (by decide) eσ35 (by decide)
    have f1σ35 : Fr h0 L [] [69] σ32 σ35 := Fr.rf.aJ hMp (by decide) eσ35 (by decide)
    have tk10 : (sI σ35 h0 69).toInt = (sI σ32 h0 69).toInt := by rw [(f1σ35.1 69 (by decide)).1]
    have hc : CP L σ5 σ35 x4.toInt.toNat 70 := hc.J hMp (by decide) rfl (by rw [show x4.toInt.toNat + 1 = z33.toInt.toNat by omega]; exact ez34) eσ35
    clear wz34 ez34 f1σ35 hMp  ez33 hz33 rg_z33
    try clear eσ35
    intro z36 ez36
    try have hz36 := i_add ez36 (by omega) (by omega)
    have rg_z36 := i_range z36
    refine ⟨by omega, ?_⟩
    intro z37 ez37
    have vz37 := hI.aI 70 16 0 79 (by decide) (by decide) rfl rfl rfl (i := z36.toInt) (by omega) ez37
    have wz37 : z37.toInt = (sI σ35 (L 70) z36.toInt.toNat).toInt := by rw [ez37]
    refine ⟨by omega, ?_⟩
    intro σ38 eσ38
    have hMp := hI.2
    have hI := hI.pA 70 0 79 (by decide) (by decide) rfl rfl (by omega) eσ38
    have hfr := hfr.aI hMp (by decide) eσ38 (by decide)
    have f1σ38 : Fr h0 L [] [70] σ35 σ38 := Fr.rf.aI hMp (by decide) eσ38 (by decide)
    have tk11 : (sI σ38 h0 69).toInt = (sI σ35 h0 69).toInt := by rw [(f1σ38.1 69 (by decide)).1]
    have hc : CP L σ5 σ38 x4.toInt.toNat 71 := hc.I hMp (by decide) rfl (by rw [show x4.toInt.toNat + 1 = z36.toInt.toNat by omega]; exact ez37) eσ38
    clear wz37 ez37 f1σ38 hMp vz37 ez36 hz36 rg_z36
    try clear eσ38
    intro z39 ez39
    try have hz39 := i_add ez39 (by omega) (by omega)
    have rg_z39 := i_range z39
    refine ⟨by omega, ?_⟩
    intro z40 ez40
    have wz40 : z40.toInt = (sJ σ38 (L 71) z39.toInt.toNat).toInt := by rw [ez40]
    refine ⟨by omega, ?_⟩
    intro σ41 eσ41
    have hMp := hI.2
    have hI := hI.pJ eσ41
    have hfr := hfr.aJ hMp (by decide) eσ41 (by decide)
    have f1σ41 : Fr h0 L [] [71] σ38 σ41 := Fr.rf.aJ hMp (by decide) eσ41 (by decide)
    have tk12 : (sI σ41 h0 69).toInt = (sI σ38 h0 69).toInt := by rw [(f1σ41.1 69 (by decide)).1]
    have hc : CP L σ5 σ41 x4.toInt.toNat 72 := hc.J hMp (by decide) rfl (by rw [show x4.toInt.toNat + 1 = z39.toInt.toNat by omega]; exact ez40) eσ41
    clear wz40 ez40 f1σ41 hMp  ez39 hz39 rg_z39
    try clear eσ41
    intro z42 ez42
    try have hz42 := i_add ez42 (by omega) (by omega)
    have rg_z42 := i_range z42
    refine ⟨by omega, ?_⟩
    intro z43 ez43
    have wz43 : z43.toInt = (sJ σ41 (L 72) z42.toInt.toNat).toInt := by rw [ez43]
    refine ⟨by omega, ?_⟩
    intro σ44 eσ44
    have hMp := hI.2
    have hI := hI.pJ eσ44
    have hfr := hfr.aJ hMp (by decide) eσ44 (by decide)
    have f1σ44 : Fr h0 L [] [72] σ41 σ44 := Fr.rf.aJ hMp (by decide) eσ44 (by decide)
    have tk13 : (sI σ44 h0 69).toInt = (sI σ41 h0 69).toInt := by rw [(f1σ44.1 69 (by decide)).1]
    have hc : CP L σ5 σ44 x4.toInt.toNat 73 := hc.J hMp (by decide) rfl (by rw [show x4.toInt.toNat + 1 = z42.toInt.toNat by omega]; exact ez43) eσ44
    clear wz43 ez43 f1σ44 hMp  ez42 hz42 rg_z42
    try clear eσ44
    intro z45 ez45
    try have hz45 := i_add ez45 (by omega) (by omega)
    have rg_z45 := i_range z45
    refine ⟨by omega, ?_⟩
    intro z46 ez46
    have vz46 := hI.aI 73 16 0 1 (by decide) (by decide) rfl rfl rfl (i := z45.toInt) (by omega) ez46
    have wz46 : z46.toInt = (sI σ44 (L 73) z45.toInt.toNat).toInt := by rw [ez46]
    refine ⟨by omega, ?_⟩
    intro σ47 eσ47
    have hMp := hI.2
    have hI := hI.pA 73 0 1 (by decide) (by decide) rfl rfl (i_bool _) eσ47
    have hfr := hfr.aI hMp (by decide) eσ47 (by decide)
    have f1σ47 : Fr h0 L [] [73] σ44 σ47 := Fr.rf.aI hMp (by decide) eσ47 (by decide)
    have tk14 : (sI σ47 h0 69).toInt = (sI σ44 h0 69).toInt := by rw [(f1σ47.1 69 (by decide)).1]
    have hc : CP L σ5 σ47 x4.toInt.toNat 74 := hc.I hMp (by decide) rfl (by rw [show x4.toInt.toNat + 1 = z45.toInt.toNat by omega]; show vp_nar .boolean z46 = _; rw [nar_bool (by omega)]; exact ez46) eσ47
    clear wz46 ez46 f1σ47 hMp vz46 ez45 hz45 rg_z45
    try clear eσ47
    intro z48 ez48
    try have hz48 := i_add ez48 (by omega) (by omega)
    have rg_z48 := i_range z48
    refine ⟨by omega, ?_⟩
    intro z49 ez49
    have vz49 := hI.aI 74 16 0 4000 (by decide) (by decide) rfl rfl rfl (i := z48.toInt) (by omega) ez49
    have wz49 : z49.toInt = (sI σ47 (L 74) z48.toInt.toNat).toInt := by rw [ez49]
    refine ⟨by omega, ?_⟩
    intro σ50 eσ50
    have hMp := hI.2
    have hI := hI.pA 74 0 4000 (by decide) (by decide) rfl rfl (by omega) eσ50
    have hfr := hfr.aI hMp (by decide) eσ50 (by decide)
    have f1σ50 : Fr h0 L [] [74] σ47 σ50 := Fr.rf.aI hMp (by decide) eσ50 (by decide)
    have tk15 : (sI σ50 h0 69).toInt = (sI σ47 h0 69).toInt := by rw [(f1σ50.1 69 (by decide)).1]
    have hc : CP L σ5 σ50 x4.toInt.toNat 75 := hc.I hMp (by decide) rfl (by rw [show x4.toInt.toNat + 1 = z48.toInt.toNat by omega]; exact ez49) eσ50
    clear wz49 ez49 f1σ50 hMp vz49 ez48 hz48 rg_z48
    try clear eσ50
    refine lw_in (fun (x : Int32) (σ' : HS) => OKM h0 L σ' ∧ Fr h0 L [69] [61, 62, 63, 64, 65, 66, 67, 68, 69, 70, 71, 72, 73, 74, 75] σ σ' ∧ ((0 ≤ x.toInt ∧ x.toInt ≤ 4000) ∧ ((sI σ' h0 69).toInt = (sI σ h0 69).toInt - 1) ∧ (0 ≤ x.toInt) ∧ (x.toInt ≤ 4000)) ∧ (CB L σ50 σ' x4.toInt.toNat x.toInt.toNat)) (fun (x : Int32) (σ' : HS) => (4000 - x.toInt).toNat) ⟨hI, hfr, (by (try dsimp only); omega), CB.rf⟩ (fun x51 σ52 hJ K53 hK53 => ?_)
    obtain ⟨hI, hfr, hv, hb⟩ := hJ
    (try dsimp only at hv)
    have rg_x51 := i_range x51
    refine ⟨by omega, ?_⟩
    intro z55 ez55
    have vz55 := hI.aI 74 16 0 4000 (by decide) (by decide) rfl rfl rfl (i := x4.toInt) (by omega) ez55
    have wz55 : z55.toInt = (sI σ52 (L 74) x4.toInt.toNat).toInt := by rw [ez55]
    refine ⟨fun c2 => ?_, fun c2 => ?_⟩
    · intro z56 ez56
      try have hz56 := i_add ez56 (by omega) (by omega)
      have rg_z56 := i_range z56
      exact hK6 z56 σ52 ⟨hI, hfr, (by (try dsimp only); omega), (by have e1 : z56.toInt.toNat = x4.toInt.toNat + 1 := (by omega); rw [e1]; exact hW.st (by omega) hc hb (by omega) (by omega))⟩ (by (try dsimp only); omega)
    · intro z57 ez57
      try have hz57 := i_mulk 4000 rfl ez57 (by omega) (by omega)
      have rg_z57 := i_range z57
      intro z58 ez58
      try have hz58 := i_add ez58 (by omega) (by omega)
      have rg_z58 := i_range z58
      intro z59 ez59
      try have hz59 := i_add ez59 (by omega) (by omega)
      have rg_z59 := i_range z59
      intro z60 ez60
      try have hz60 := i_mulk 4000 rfl ez60 (by omega) (by omega)
      have rg_z60 := i_range z60
      intro z61 ez61
      try have hz61 := i_add ez61 (by omega) (by omega)
      have rg_z61 := i_range z61
      refine ⟨by omega, ?_⟩
      intro z62 ez62
      have vz62 := hI.aI 75 64000 (-128) 127 (by decide) (by decide) rfl rfl rfl (i := z61.toInt) (by omega) ez62
      have wz62 : z62.toInt = (sI σ52 (L 75) z61.toInt.toNat).toInt := by rw [ez62]
      refine ⟨by omega, ?_⟩
      intro σ63 eσ63
      have hMp := hI.2
      have hI := hI.pA 75 (-128) 127 (by decide) (by decide) rfl rfl (i_byte _) eσ63
      have hfr := hfr.aI hMp (by decide) eσ63 (by decide)
      have f1σ63 : Fr h0 L [] [75] σ52 σ63 := Fr.rf.aI hMp (by decide) eσ63 (by decide)
      have tk16 : (sI σ63 h0 69).toInt = (sI σ52 h0 69).toInt := by rw [(f1σ63.1 69 (by decide)).1]
      have hb := hb.st hMp (by omega) (show z58.toInt.toNat = 4000 * x4.toInt.toNat + x51.toInt.toNat by omega) (by rw [show 4000 * (x4.toInt.toNat + 1) + x51.toInt.toNat = z61.toInt.toNat by omega]; show vp_nar .byte z62 = _; rw [nar_byte (by omega)]; exact ez62) eσ63
      intro z64 ez64
      try have hz64 := i_add ez64 (by omega) (by omega)
      have rg_z64 := i_range z64
      exact hK53 z64 σ63 ⟨hI, hfr, (by (try dsimp only); omega), (by rw [show z64.toInt.toNat = x51.toInt.toNat + 1 by omega]; exact hb)⟩ (by (try dsimp only); omega)
theorem Fg.ext {h0 : Nat} {L : Nat → Nat} {σ σ1 σ2 σ3 : HS} {a : Nat} (h1 : ∀ w, EqW L σ σ1 w w) (e1 : (sI σ1 h0 69).toInt = (sI σ h0 69).toInt) (h : Fg h0 L σ1 σ2 a) (h2 : ∀ w, EqW L σ2 σ3 w w) (e2 : (sI σ3 h0 69).toInt = (sI σ2 h0 69).toInt) : Fg h0 L σ σ3 a := by
  refine ⟨by have := h.1; omega, fun w q => ((h1 w).tr (h.2.1 w q)).tr (h2 w), fun w q1 q2 => ((h1 (w + 1)).tr (h.2.2 w q1 (by omega))).tr (h2 w)⟩
set_option maxRecDepth 100000 in
set_option maxHeartbeats 4000000 in
theorem s_X12_give {h0 : Nat} {L : Nat → Nat} {σ : HS} (hI : OKM h0 L σ) (a1 : Int32) (a2 : Int64) (hz : 0 ≤ a1.toInt ∧ a1.toInt < (sI σ h0 69).toInt) {post : HS → Prop} (kk : ∀ (σ' : HS), OKM h0 L σ' → Fr h0 L [69] [27, 28, 61, 62, 63, 64, 65, 66, 67, 68, 69, 70, 71, 72, 73, 74, 75, 76] σ σ' → (Fg h0 L σ σ' a1.toInt.toNat) → post σ') : F_X12_give h0 L a1 a2 post σ := by
  unfold F_X12_give
  have k_0 : (0 : Int32).toInt = 0 := rfl
  have k_4 : (4 : Int32).toInt = 4 := rfl
  have k_85000 : (85000 : Int32).toInt = 85000 := rfl
  have kl_0 : (0 : Int64).toInt = 0 := rfl
  have rg_a1 := i_range a1
  have rg_a2 := l_range a2
  have hfr : Fr h0 L [69, 90, 91] [27, 28, 61, 62, 63, 64, 65, 66, 67, 68, 69, 70, 71, 72, 73, 74, 75, 76] σ σ := Fr.rf
  have hf69 := hI.fI 69 0 16 (by decide) rfl rfl rfl rfl
  intro z1 ez1
  have vz1 := hI.fI 90 0 85000 (by decide) rfl rfl rfl ez1
  have wz1 : z1.toInt = (sI σ h0 90).toInt := by rw [ez1]
  intro z2 ez2
  have vz2 := hI.fI 91 0 1200 (by decide) rfl rfl rfl ez2
  have wz2 : z2.toInt = (sI σ h0 91).toInt := by rw [ez2]
  intro σ3 eσ3
  have hMp := hI.2
  have hI := hI.pF 90 0 85000 rfl rfl (by omega) eσ3
  have hfr := hfr.fI hMp eσ3 (by decide) rfl
  have uσ3 : (sI σ3 h0 90).toInt = (85000 : Int32).toInt := by rw [eσ3]; exact congrArg Int32.toInt u2_same
  have f1σ3 : Fr h0 L [90] [] σ σ3 := Fr.rf.fI hMp eσ3 (by decide) rfl
  have tk1 : (sI σ3 h0 69).toInt = (sI σ h0 69).toInt := by rw [(f1σ3.1 69 (by decide)).1]
  have tk3 : (sI σ3 h0 91).toInt = (sI σ h0 91).toInt := by rw [(f1σ3.1 91 (by decide)).1]
  refine jn_in (fun (x : Unit) (σ' : HS) => OKM h0 L σ' ∧ Fr h0 L [69, 90, 91] [27, 28, 61, 62, 63, 64, 65, 66, 67, 68, 69, 70, 71, 72, 73, 74, 75, 76] σ σ' ∧ (((sI σ' h0 69).toInt = (sI σ h0 69).toInt)) ∧ (∀ w, EqW L σ σ' w w)) (fun x4 σ5 hJ => ?_) (fun K6 hK6 => ?_)
  · obtain ⟨hI, hfr, hv, hE⟩ := hJ
    (try dsimp only at hv)
    refine s_X12_late hI a1 a2 (by omega) (fun σ9 hI fz10 pz10 => ?_)
    have hfr := hfr.tr fz10 (by decide) (by decide)
    have tk4 : (sI σ9 h0 69).toInt = (sI σ5 h0 69).toInt := by rw [(fz10.1 69 (by decide)).1]
    have tk5 : (sI σ9 h0 90).toInt = (sI σ5 h0 90).toInt := by rw [(fz10.1 90 (by decide)).1]
    refine s_X12_forget hI a1 (by omega) (fun σ11 hI fz12 pz12 => ?_)
    have hfr := hfr.tr fz12 (by decide) (by decide)
    have tk8 : (sI σ11 h0 90).toInt = (sI σ9 h0 90).toInt := by rw [(fz12.1 90 (by decide)).1]
    have tk9 : (sI σ11 h0 91).toInt = (sI σ9 h0 91).toInt := by rw [(fz12.1 91 (by decide)).1]
    intro σ13 eσ13
    have hMp := hI.2
    have hI := hI.pF 90 0 85000 rfl rfl (by omega) eσ13
    have hfr := hfr.fI hMp eσ13 (by decide) rfl
    have uσ13 : (sI σ13 h0 90).toInt = z1.toInt := by rw [eσ13]; exact congrArg Int32.toInt u2_same
    have f1σ13 : Fr h0 L [90] [] σ11 σ13 := Fr.rf.fI hMp eσ13 (by decide) rfl
    have tk10 : (sI σ13 h0 69).toInt = (sI σ11 h0 69).toInt := by rw [(f1σ13.1 69 (by decide)).1]
    have tk12 : (sI σ13 h0 91).toInt = (sI σ11 h0 91).toInt := by rw [(f1σ13.1 91 (by decide)).1]
    intro σ14 eσ14
    have hMp := hI.2
    have hI := hI.pF 91 0 1200 rfl rfl (by omega) eσ14
    have hfr := hfr.fI hMp eσ14 (by decide) rfl
    have uσ14 : (sI σ14 h0 91).toInt = z2.toInt := by rw [eσ14]; exact congrArg Int32.toInt u2_same
    have f1σ14 : Fr h0 L [91] [] σ13 σ14 := Fr.rf.fI hMp eσ14 (by decide) rfl
    have tk13 : (sI σ14 h0 69).toInt = (sI σ13 h0 69).toInt := by rw [(f1σ14.1 69 (by decide)).1]
    have tk14 : (sI σ14 h0 90).toInt = (sI σ13 h0 90).toInt := by rw [(f1σ14.1 90 (by decide)).1]
    have hfr := hfr.dI (fs2 := [69, 91]) 90 rfl (i_inj (by omega)) (by decide)
    have hfr := hfr.dI (fs2 := [69]) 91 rfl (i_inj (by omega)) (by decide)
    exact kk σ14 hI hfr (Fg.ext (fun w => (hE w).tr (EqW.fr fz10 (by decide))) (by omega) pz12 (fun w => (EqW.fr f1σ13 (by decide)).tr (EqW.fr f1σ14 (by decide))) (by omega))
  · skip
    refine ⟨fun c1 => ?_, fun c1 => ?_⟩
    · exact hK6 () σ3 ⟨hI, hfr, (by (try dsimp only); omega), (fun w => by first | exact EqW.fr f1σ3 (by decide) | exact (EqW.fr f1σ3 (by decide)).tr (EqW.fr fz16 (by decide)))⟩
    · refine s_X12_small hI 4 (by omega) (fun z16 σ15 hI fz16 pz16 => ?_)
      have hfr := hfr.tr fz16 (by decide) (by decide)
      have tk16 : (sI σ15 h0 69).toInt = (sI σ3 h0 69).toInt := by rw [(fz16.1 69 (by decide)).1]
      have tk17 : (sI σ15 h0 90).toInt = (sI σ3 h0 90).toInt := by rw [(fz16.1 90 (by decide)).1]
      exact hK6 () σ15 ⟨hI, hfr, (by (try dsimp only); omega), (fun w => by first | exact EqW.fr f1σ3 (by decide) | exact (EqW.fr f1σ3 (by decide)).tr (EqW.fr fz16 (by decide)))⟩
set_option maxRecDepth 100000 in
set_option maxHeartbeats 4000000 in
theorem s_X12_unlock {h0 : Nat} {L : Nat → Nat} {σ : HS} (hI : OKM h0 L σ) (a1 : Int32) (hz : 0 ≤ a1.toInt ∧ a1.toInt < (sI σ h0 63).toInt) {post : HS → Prop} (kk : ∀ (σ' : HS), OKM h0 L σ' → Fr h0 L [63] [56, 57, 58, 59, 60] σ σ' → ((sI σ' h0 63).toInt = (sI σ h0 63).toInt - 1) → post σ') : F_X12_unlock h0 L a1 post σ := by
  unfold F_X12_unlock
  have k_0 : (0 : Int32).toInt = 0 := rfl
  have k_1 : (1 : Int32).toInt = 1 := rfl
  have rg_a1 := i_range a1
  have hfr : Fr h0 L [63] [56, 57, 58, 59, 60] σ σ := Fr.rf
  intro z1 ez1
  have vz1 := hI.fI 63 0 80 (by decide) rfl rfl rfl ez1
  have wz1 : z1.toInt = (sI σ h0 63).toInt := by rw [ez1]
  intro z2 ez2
  try have hz2 := i_sub ez2 (by omega) (by omega)
  have rg_z2 := i_range z2
  intro σ3 eσ3
  have hMp := hI.2
  have hI := hI.pF 63 0 80 rfl rfl (by omega) eσ3
  have hfr := hfr.fI hMp eσ3 (by decide) rfl
  have uσ3 : (sI σ3 h0 63).toInt = z2.toInt := by rw [eσ3]; exact congrArg Int32.toInt u2_same
  have f1σ3 : Fr h0 L [63] [] σ σ3 := Fr.rf.fI hMp eσ3 (by decide) rfl
  refine lw_in (fun (x : Int32) (σ' : HS) => OKM h0 L σ' ∧ Fr h0 L [63] [56, 57, 58, 59, 60] σ σ' ∧ ((0 ≤ x.toInt) ∧ (a1.toInt ≤ x.toInt) ∧ ((sI σ' h0 63).toInt = (sI σ h0 63).toInt - 1))) (fun (x : Int32) (σ' : HS) => (82 - x.toInt).toNat) ⟨hI, hfr, (by (try dsimp only); omega)⟩ (fun x4 σ5 hJ K6 hK6 => ?_)
  obtain ⟨hI, hfr, hv⟩ := hJ
  (try dsimp only at hv)
  have rg_x4 := i_range x4
  intro z8 ez8
  have vz8 := hI.fI 63 0 80 (by decide) rfl rfl rfl ez8
  have wz8 : z8.toInt = (sI σ5 h0 63).toInt := by rw [ez8]
  refine ⟨fun c1 => ?_, fun c1 => ?_⟩
  · exact kk σ5 hI hfr (by (try dsimp only); omega)
  · intro z9 ez9
    try have hz9 := i_add ez9 (by omega) (by omega)
    have rg_z9 := i_range z9
    refine ⟨by omega, ?_⟩
    intro z10 ez10
    have wz10 : z10.toInt = (sJ σ5 (L 56) z9.toInt.toNat).toInt := by rw [ez10]
    refine ⟨by omega, ?_⟩
    intro σ11 eσ11
    have hMp := hI.2
    have hI := hI.pJ eσ11
    have hfr := hfr.aJ hMp (by decide) eσ11 (by decide)
    have f1σ11 : Fr h0 L [] [56] σ5 σ11 := Fr.rf.aJ hMp (by decide) eσ11 (by decide)
    have tk2 : (sI σ11 h0 63).toInt = (sI σ5 h0 63).toInt := by rw [(f1σ11.1 63 (by decide)).1]
    intro z12 ez12
    try have hz12 := i_add ez12 (by omega) (by omega)
    have rg_z12 := i_range z12
    refine ⟨by omega, ?_⟩
    intro z13 ez13
    have vz13 := hI.aI 57 80 0 79 (by decide) (by decide) rfl rfl rfl (i := z12.toInt) (by omega) ez13
    have wz13 : z13.toInt = (sI σ11 (L 57) z12.toInt.toNat).toInt := by rw [ez13]
    refine ⟨by omega, ?_⟩
    intro σ14 eσ14
    have hMp := hI.2
    have hI := hI.pA 57 0 79 (by decide) (by decide) rfl rfl (by omega) eσ14
    have hfr := hfr.aI hMp (by decide) eσ14 (by decide)
    have f1σ14 : Fr h0 L [] [57] σ11 σ14 := Fr.rf.aI hMp (by decide) eσ14 (by decide)
    have tk3 : (sI σ14 h0 63).toInt = (sI σ11 h0 63).toInt := by rw [(f1σ14.1 63 (by decide)).1]
    intro z15 ez15
    try have hz15 := i_add ez15 (by omega) (by omega)
    have rg_z15 := i_range z15
    refine ⟨by omega, ?_⟩
    intro z16 ez16
    have wz16 : z16.toInt = (sJ σ14 (L 58) z15.toInt.toNat).toInt := by rw [ez16]
    refine ⟨by omega, ?_⟩
    intro σ17 eσ17
    have hMp := hI.2
    have hI := hI.pJ eσ17
    have hfr := hfr.aJ hMp (by decide) eσ17 (by decide)
    have f1σ17 : Fr h0 L [] [58] σ14 σ17 := Fr.rf.aJ hMp (by decide) eσ17 (by decide)
    have tk4 : (sI σ17 h0 63).toInt = (sI σ14 h0 63).toInt := by rw [(f1σ17.1 63 (by decide)).1]
    intro z18 ez18
    try have hz18 := i_add ez18 (by omega) (by omega)
    have rg_z18 := i_range z18
    refine ⟨by omega, ?_⟩
    intro z19 ez19
    have wz19 : z19.toInt = (sJ σ17 (L 59) z18.toInt.toNat).toInt := by rw [ez19]
    refine ⟨by omega, ?_⟩
    intro σ20 eσ20
    have hMp := hI.2
    have hI := hI.pJ eσ20
    have hfr := hfr.aJ hMp (by decide) eσ20 (by decide)
    have f1σ20 : Fr h0 L [] [59] σ17 σ20 := Fr.rf.aJ hMp (by decide) eσ20 (by decide)
    have tk5 : (sI σ20 h0 63).toInt = (sI σ17 h0 63).toInt := by rw [(f1σ20.1 63 (by decide)).1]
    intro z21 ez21
    try have hz21 := i_add ez21 (by omega) (by omega)
    have rg_z21 := i_range z21
    refine ⟨by omega, ?_⟩
    intro z22 ez22
    have vz22 := hI.aI 60 80 0 1 (by decide) (by decide) rfl rfl rfl (i := z21.toInt) (by omega) ez22
    have wz22 : z22.toInt = (sI σ20 (L 60) z21.toInt.toNat).toInt := by rw [ez22]
    refine ⟨by omega, ?_⟩
    intro σ23 eσ23
    have hMp := hI.2
    have hI := hI.pA 60 0 1 (by decide) (by decide) rfl rfl (i_bool _) eσ23
    have hfr := hfr.aI hMp (by decide) eσ23 (by decide)
    have f1σ23 : Fr h0 L [] [60] σ20 σ23 := Fr.rf.aI hMp (by decide) eσ23 (by decide)
    have tk6 : (sI σ23 h0 63).toInt = (sI σ20 h0 63).toInt := by rw [(f1σ23.1 63 (by decide)).1]
    intro z24 ez24
    try have hz24 := i_add ez24 (by omega) (by omega)
    have rg_z24 := i_range z24
    exact hK6 z24 σ23 ⟨hI, hfr, (by (try dsimp only); omega)⟩ (by (try dsimp only); omega)
set_option maxRecDepth 100000 in
set_option maxHeartbeats 4000000 in
theorem s_X12_canBe {h0 : Nat} {L : Nat → Nat} {σ : HS} (hI : OKM h0 L σ) (a1 : Int32) (a2 : Int64) (a4 : Int64) (a6 : Int32)  {post : Int32 → HS → Prop} (kk : ∀ (r : Int32) (_ : 0 ≤ r.toInt ∧ r.toInt ≤ 1), post r σ) : F_X12_canBe h0 L a1 a2 a4 a6 post σ := by
  unfold F_X12_canBe
  have k_0 : (0 : Int32).toInt = 0 := rfl
  have k_1 : (1 : Int32).toInt = 1 := rfl
  have rg_a1 := i_range a1
  have rg_a2 := l_range a2
  have rg_a4 := l_range a4
  have rg_a6 := i_range a6
  refine lw_in (fun (x : Int32 × Int32) (σ' : HS) => σ = σ' ∧ ((0 ≤ x.1.toInt ∧ x.1.toInt ≤ 80) ∧ (0 ≤ x.2.toInt ∧ x.2.toInt ≤ 1))) (fun (x : Int32 × Int32) (σ' : HS) => (82 - x.1.toInt).toNat) ⟨rfl, (by (try dsimp only); omega)⟩ (fun x1 σ2 hJ K3 hK3 => ?_)
  obtain ⟨hsg, hv⟩ := hJ
  subst hsg
  (try dsimp only at hv)
  have rg_x1_1 := i_range x1.1
  have rg_x1_2 := i_range x1.2
  intro z5 ez5
  have vz5 := hI.fI 63 0 80 (by decide) rfl rfl rfl ez5
  have wz5 : z5.toInt = (sI σ h0 63).toInt := by rw [ez5]
  refine ⟨fun c1 => ?_, fun c1 => ?_⟩
  · refine ⟨by omega, ?_⟩
    exact kk x1.2 (by (try dsimp only); omega)
  · refine jn_dup ?_
    refine jn_dup ?_
    refine ⟨fun c2 => ?_, fun c2 => ?_⟩
    · (try dsimp only)
      (try dsimp only)
      intro z11 ez11
      try have hz11 := i_add ez11 (by omega) (by omega)
      have rg_z11 := i_range z11
      exact hK3 (z11, 0) σ ⟨rfl, (by (try dsimp only); omega)⟩ (by (try dsimp only); omega)
    · refine ⟨by omega, ?_⟩
      intro z17 ez17
      have vz17 := hI.aI 57 80 0 79 (by decide) (by decide) rfl rfl rfl (i := x1.1.toInt) (by omega) ez17
      have wz17 : z17.toInt = (sI σ (L 57) x1.1.toInt.toNat).toInt := by rw [ez17]
      refine jn_dup ?_
      refine ⟨fun c3 => ?_, fun c3 => ?_⟩
      · (try dsimp only)
        (try dsimp only)
        intro z11 ez11
        try have hz11 := i_add ez11 (by omega) (by omega)
        have rg_z11 := i_range z11
        exact hK3 (z11, 1) σ ⟨rfl, (by (try dsimp only); omega)⟩ (by (try dsimp only); omega)
      · refine jn_dup ?_
        refine ⟨fun c4 => ?_, fun c4 => ?_⟩
        · (try dsimp only)
          refine ⟨by omega, ?_⟩
          intro z28 ez28
          have wz28 : z28.toInt = (sJ σ (L 58) x1.1.toInt.toNat).toInt := by rw [ez28]
          refine ⟨by omega, ?_⟩
          intro z29 ez29
          have wz29 : z29.toInt = (sJ σ (L 59) x1.1.toInt.toNat).toInt := by rw [ez29]
          refine s_X12_meet hI a2 a4 z28 z29  (fun z31 pz31 => ?_)
          have rg_z31 := i_range z31
          refine ⟨fun c5 => ?_, fun c5 => ?_⟩
          · (try dsimp only)
            (try dsimp only)
            intro z11 ez11
            try have hz11 := i_add ez11 (by omega) (by omega)
            have rg_z11 := i_range z11
            exact hK3 (z11, 0) σ ⟨rfl, (by (try dsimp only); omega)⟩ (by (try dsimp only); omega)
          · (try dsimp only)
            (try dsimp only)
            intro z11 ez11
            try have hz11 := i_add ez11 (by omega) (by omega)
            have rg_z11 := i_range z11
            exact hK3 (z11, 1) σ ⟨rfl, (by (try dsimp only); omega)⟩ (by (try dsimp only); omega)
        · refine ⟨by omega, ?_⟩
          intro z32 ez32
          have vz32 := hI.aI 60 80 0 1 (by decide) (by decide) rfl rfl rfl (i := x1.1.toInt) (by omega) ez32
          have wz32 : z32.toInt = (sI σ (L 60) x1.1.toInt.toNat).toInt := by rw [ez32]
          refine ⟨fun c6 => ?_, fun c6 => ?_⟩
          · (try dsimp only)
            (try dsimp only)
            intro z11 ez11
            try have hz11 := i_add ez11 (by omega) (by omega)
            have rg_z11 := i_range z11
            exact hK3 (z11, 1) σ ⟨rfl, (by (try dsimp only); omega)⟩ (by (try dsimp only); omega)
          · (try dsimp only)
            refine ⟨by omega, ?_⟩
            intro z28 ez28
            have wz28 : z28.toInt = (sJ σ (L 58) x1.1.toInt.toNat).toInt := by rw [ez28]
            refine ⟨by omega, ?_⟩
            intro z29 ez29
            have wz29 : z29.toInt = (sJ σ (L 59) x1.1.toInt.toNat).toInt := by rw [ez29]
            refine s_X12_meet hI a2 a4 z28 z29  (fun z31 pz31 => ?_)
            have rg_z31 := i_range z31
            refine ⟨fun c7 => ?_, fun c7 => ?_⟩
            · (try dsimp only)
              (try dsimp only)
              intro z11 ez11
              try have hz11 := i_add ez11 (by omega) (by omega)
              have rg_z11 := i_range z11
              exact hK3 (z11, 0) σ ⟨rfl, (by (try dsimp only); omega)⟩ (by (try dsimp only); omega)
            · (try dsimp only)
              (try dsimp only)
              intro z11 ez11
              try have hz11 := i_add ez11 (by omega) (by omega)
              have rg_z11 := i_range z11
              exact hK3 (z11, 1) σ ⟨rfl, (by (try dsimp only); omega)⟩ (by (try dsimp only); omega)
set_option maxRecDepth 100000 in
set_option maxHeartbeats 4000000 in
theorem s_X12_addLock {h0 : Nat} {L : Nat → Nat} {σ : HS} (hI : OKM h0 L σ) (a1 : Int64) (a3 : Int32) (a4 : Int64) (a6 : Int64) (a8 : Int32) (hz : (sI σ h0 63).toInt < 60 ∧ 0 ≤ a3.toInt ∧ a3.toInt ≤ 79 ∧ 0 ≤ a8.toInt ∧ a8.toInt ≤ 1) {post : HS → Prop} (kk : ∀ (σ' : HS), OKM h0 L σ' → Fr h0 L [63] [56, 57, 58, 59, 60] σ σ' → ((sI σ' h0 63).toInt = (sI σ h0 63).toInt + 1) → post σ') : F_X12_addLock h0 L a1 a3 a4 a6 a8 post σ := by
  unfold F_X12_addLock
  have k_0 : (0 : Int32).toInt = 0 := rfl
  have k_1 : (1 : Int32).toInt = 1 := rfl
  have rg_a1 := l_range a1
  have rg_a3 := i_range a3
  have rg_a4 := l_range a4
  have rg_a6 := l_range a6
  have rg_a8 := i_range a8
  have hfr : Fr h0 L [63] [56, 57, 58, 59, 60] σ σ := Fr.rf
  intro z1 ez1
  have vz1 := hI.fI 63 0 80 (by decide) rfl rfl rfl ez1
  have wz1 : z1.toInt = (sI σ h0 63).toInt := by rw [ez1]
  refine ⟨by omega, ?_⟩
  intro σ2 eσ2
  have hMp := hI.2
  have hI := hI.pJ eσ2
  have hfr := hfr.aJ hMp (by decide) eσ2 (by decide)
  have f1σ2 : Fr h0 L [] [56] σ σ2 := Fr.rf.aJ hMp (by decide) eσ2 (by decide)
  have tk1 : (sI σ2 h0 63).toInt = (sI σ h0 63).toInt := by rw [(f1σ2.1 63 (by decide)).1]
  intro z3 ez3
  have vz3 := hI.fI 63 0 80 (by decide) rfl rfl rfl ez3
  have wz3 : z3.toInt = (sI σ2 h0 63).toInt := by rw [ez3]
  refine ⟨by omega, ?_⟩
  intro σ4 eσ4
  have hMp := hI.2
  have hI := hI.pA 57 0 79 (by decide) (by decide) rfl rfl (by omega) eσ4
  have hfr := hfr.aI hMp (by decide) eσ4 (by decide)
  have f1σ4 : Fr h0 L [] [57] σ2 σ4 := Fr.rf.aI hMp (by decide) eσ4 (by decide)
  have tk2 : (sI σ4 h0 63).toInt = (sI σ2 h0 63).toInt := by rw [(f1σ4.1 63 (by decide)).1]
  intro z5 ez5
  have vz5 := hI.fI 63 0 80 (by decide) rfl rfl rfl ez5
  have wz5 : z5.toInt = (sI σ4 h0 63).toInt := by rw [ez5]
  refine ⟨by omega, ?_⟩
  intro σ6 eσ6
  have hMp := hI.2
  have hI := hI.pJ eσ6
  have hfr := hfr.aJ hMp (by decide) eσ6 (by decide)
  have f1σ6 : Fr h0 L [] [58] σ4 σ6 := Fr.rf.aJ hMp (by decide) eσ6 (by decide)
  have tk3 : (sI σ6 h0 63).toInt = (sI σ4 h0 63).toInt := by rw [(f1σ6.1 63 (by decide)).1]
  intro z7 ez7
  have vz7 := hI.fI 63 0 80 (by decide) rfl rfl rfl ez7
  have wz7 : z7.toInt = (sI σ6 h0 63).toInt := by rw [ez7]
  refine ⟨by omega, ?_⟩
  intro σ8 eσ8
  have hMp := hI.2
  have hI := hI.pJ eσ8
  have hfr := hfr.aJ hMp (by decide) eσ8 (by decide)
  have f1σ8 : Fr h0 L [] [59] σ6 σ8 := Fr.rf.aJ hMp (by decide) eσ8 (by decide)
  have tk4 : (sI σ8 h0 63).toInt = (sI σ6 h0 63).toInt := by rw [(f1σ8.1 63 (by decide)).1]
  intro z9 ez9
  have vz9 := hI.fI 63 0 80 (by decide) rfl rfl rfl ez9
  have wz9 : z9.toInt = (sI σ8 h0 63).toInt := by rw [ez9]
  refine ⟨by omega, ?_⟩
  intro σ10 eσ10
  have hMp := hI.2
  have hI := hI.pA 60 0 1 (by decide) (by decide) rfl rfl (i_bool _) eσ10
  have hfr := hfr.aI hMp (by decide) eσ10 (by decide)
  have f1σ10 : Fr h0 L [] [60] σ8 σ10 := Fr.rf.aI hMp (by decide) eσ10 (by decide)
  have tk5 : (sI σ10 h0 63).toInt = (sI σ8 h0 63).toInt := by rw [(f1σ10.1 63 (by decide)).1]
  intro z11 ez11
  have vz11 := hI.fI 63 0 80 (by decide) rfl rfl rfl ez11
  have wz11 : z11.toInt = (sI σ10 h0 63).toInt := by rw [ez11]
  intro z12 ez12
  try have hz12 := i_add ez12 (by omega) (by omega)
  have rg_z12 := i_range z12
  intro σ13 eσ13
  have hMp := hI.2
  have hI := hI.pF 63 0 80 rfl rfl (by omega) eσ13
  have hfr := hfr.fI hMp eσ13 (by decide) rfl
  have uσ13 : (sI σ13 h0 63).toInt = z12.toInt := by rw [eσ13]; exact congrArg Int32.toInt u2_same
  have f1σ13 : Fr h0 L [63] [] σ10 σ13 := Fr.rf.fI hMp eσ13 (by decide) rfl
  exact kk σ13 hI hfr (by (try dsimp only); omega)
set_option maxRecDepth 100000 in
set_option maxHeartbeats 4000000 in
theorem s_X12_lookLocks {h0 : Nat} {L : Nat → Nat} {σ : HS} (hI : OKM h0 L σ)   {post : HS → Prop} (kk : ∀ (σ' : HS), OKM h0 L σ' → Fr h0 L [63, 69] [27, 28, 56, 57, 58, 59, 60, 61, 62, 63, 64, 65, 66, 67, 68, 69, 70, 71, 72, 73, 74, 75, 76] σ σ' → (Sub h0 L σ σ') → post σ') : F_X12_lookLocks h0 L  post σ := by
  unfold F_X12_lookLocks
  have k_0 : (0 : Int32).toInt = 0 := rfl
  have k_1 : (1 : Int32).toInt = 1 := rfl
  have k_10 : (10 : Int32).toInt = 10 := rfl
  have k_60 : (60 : Int32).toInt = 60 := rfl
  have kl_0 : (0 : Int64).toInt = 0 := rfl
  have hfr : Fr h0 L [63, 69] [27, 28, 56, 57, 58, 59, 60, 61, 62, 63, 64, 65, 66, 67, 68, 69, 70, 71, 72, 73, 74, 75, 76] σ σ := Fr.rf
  refine lw_in (fun (x : Int32) (σ' : HS) => OKM h0 L σ' ∧ Fr h0 L [63, 69] [27, 28, 56, 57, 58, 59, 60, 61, 62, 63, 64, 65, 66, 67, 68, 69, 70, 71, 72, 73, 74, 75, 76] σ σ' ∧ ((0 ≤ x.toInt ∧ x.toInt ≤ 16)) ∧ (Sub h0 L σ σ')) (fun (x : Int32) (σ' : HS) => ((sI σ' h0 69).toInt - x.toInt).toNat) ⟨hI, hfr, (by (try dsimp only); omega), Sub.rf⟩ (fun x1 σ2 hJ K3 hK3 => ?_)
  obtain ⟨hI, hfr, hv, hS⟩ := hJ
  (try dsimp only at hv)
  have rg_x1 := i_range x1
  intro z5 ez5
  have vz5 := hI.fI 69 0 16 (by decide) rfl rfl rfl ez5
  have wz5 : z5.toInt = (sI σ2 h0 69).toInt := by rw [ez5]
  refine ⟨fun c1 => ?_, fun c1 => ?_⟩
  · exact kk σ2 hI hfr hS
  · refine ⟨by omega, ?_⟩
    intro z6 ez6
    have vz6 := hI.aI 62 16 0 65535 (by decide) (by decide) rfl rfl rfl (i := x1.toInt) (by omega) ez6
    have wz6 : z6.toInt = (sI σ2 (L 62) x1.toInt.toNat).toInt := by rw [ez6]
    refine jn_dup ?_
    refine ⟨fun c2 => ?_, fun c2 => ?_⟩
    · (try dsimp only)
      intro z12 ez12
      try have hz12 := i_add ez12 (by omega) (by omega)
      have rg_z12 := i_range z12
      exact hK3 z12 σ2 ⟨hI, hfr, (by (try dsimp only); omega), (by first | exact hS | exact (hS.tr (Sub.fr fz26 (by decide) (by decide))).tr pz28.sub)⟩ (by (try dsimp only); omega)
    · intro z13 ez13
      have vz13 := hI.fI 63 0 80 (by decide) rfl rfl rfl ez13
      have wz13 : z13.toInt = (sI σ2 h0 63).toInt := by rw [ez13]
      refine ⟨fun c3 => ?_, fun c3 => ?_⟩
      · (try dsimp only)
        intro z12 ez12
        try have hz12 := i_add ez12 (by omega) (by omega)
        have rg_z12 := i_range z12
        exact hK3 z12 σ2 ⟨hI, hfr, (by (try dsimp only); omega), (by first | exact hS | exact (hS.tr (Sub.fr fz26 (by decide) (by decide))).tr pz28.sub)⟩ (by (try dsimp only); omega)
      · refine ⟨by omega, ?_⟩
        intro z14 ez14
        have vz14 := hI.aI 70 16 0 79 (by decide) (by decide) rfl rfl rfl (i := x1.toInt) (by omega) ez14
        have wz14 : z14.toInt = (sI σ2 (L 70) x1.toInt.toNat).toInt := by rw [ez14]
        refine ⟨by omega, ?_⟩
        intro z15 ez15
        have wz15 : z15.toInt = (sJ σ2 (L 71) x1.toInt.toNat).toInt := by rw [ez15]
        refine ⟨by omega, ?_⟩
        intro z16 ez16
        have wz16 : z16.toInt = (sJ σ2 (L 72) x1.toInt.toNat).toInt := by rw [ez16]
        refine ⟨by omega, ?_⟩
        intro z17 ez17
        have vz17 := hI.aI 73 16 0 1 (by decide) (by decide) rfl rfl rfl (i := x1.toInt) (by omega) ez17
        have wz17 : z17.toInt = (sI σ2 (L 73) x1.toInt.toNat).toInt := by rw [ez17]
        refine s_X12_canBe hI z14 z15 z16 z17  (fun z19 pz19 => ?_)
        have rg_z19 := i_range z19
        refine ⟨fun c4 => ?_, fun c4 => ?_⟩
        · (try dsimp only)
          intro z12 ez12
          try have hz12 := i_add ez12 (by omega) (by omega)
          have rg_z12 := i_range z12
          exact hK3 z12 σ2 ⟨hI, hfr, (by (try dsimp only); omega), (by first | exact hS | exact (hS.tr (Sub.fr fz26 (by decide) (by decide))).tr pz28.sub)⟩ (by (try dsimp only); omega)
        · refine ⟨by omega, ?_⟩
          intro z20 ez20
          have wz20 : z20.toInt = (sJ σ2 (L 69) x1.toInt.toNat).toInt := by rw [ez20]
          refine ⟨by omega, ?_⟩
          intro z21 ez21
          have vz21 := hI.aI 70 16 0 79 (by decide) (by decide) rfl rfl rfl (i := x1.toInt) (by omega) ez21
          have wz21 : z21.toInt = (sI σ2 (L 70) x1.toInt.toNat).toInt := by rw [ez21]
          refine ⟨by omega, ?_⟩
          intro z22 ez22
          have wz22 : z22.toInt = (sJ σ2 (L 71) x1.toInt.toNat).toInt := by rw [ez22]
          refine ⟨by omega, ?_⟩
          intro z23 ez23
          have wz23 : z23.toInt = (sJ σ2 (L 72) x1.toInt.toNat).toInt := by rw [ez23]
          refine ⟨by omega, ?_⟩
          intro z24 ez24
          have vz24 := hI.aI 73 16 0 1 (by decide) (by decide) rfl rfl rfl (i := x1.toInt) (by omega) ez24
          have wz24 : z24.toInt = (sI σ2 (L 73) x1.toInt.toNat).toInt := by rw [ez24]
          refine s_X12_addLock hI z20 z21 z22 z23 z24 (by omega) (fun σ25 hI fz26 pz26 => ?_)
          have hfr := hfr.tr fz26 (by decide) (by decide)
          have tk1 : (sI σ25 h0 69).toInt = (sI σ2 h0 69).toInt := by rw [(fz26.1 69 (by decide)).1]
          refine s_X12_give hI x1 0 (by omega) (fun σ27 hI fz28 pz28 => ?_)
          have hfr := hfr.tr fz28 (by decide) (by decide)
          have tk4 : (sI σ27 h0 63).toInt = (sI σ25 h0 63).toInt := by rw [(fz28.1 63 (by decide)).1]
          have q69 := pz28.1
          exact hK3 x1 σ27 ⟨hI, hfr, (by (try dsimp only); omega), (by first | exact hS | exact (hS.tr (Sub.fr fz26 (by decide) (by decide))).tr pz28.sub)⟩ (by (try dsimp only); omega)

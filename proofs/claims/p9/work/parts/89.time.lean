/-! trees, sessions, lines end; time goes -/
section R89
variable {h0 : Nat} {L : Nat → Nat} {σ σ' : HS} {B : Int} {fs js : List Nat}
theorem GI.t38 {n : Nat} {v : Int64} (hG : GI h0 L B σ) (hM : MdI h0 L σ) (e : σ' = h_uJ σ (L 38) n v) (hv : v.toInt = 0) : GI h0 L B σ' := by
  have f : Fr h0 L [] [38] σ σ' := Fr.rf.aJ hM (by decide) e (by decide)
  refine ⟨hG.1.fr f (by decide) (by decide), hG.2.1.fr f (by decide), fun t ht hs => ?_, hG.2.2.2.1.fr f (by decide) (by decide), hG.2.2.2.2.fr f (by decide) (by decide) (by decide)⟩
  rw [rts_ff f (by decide), sI_ff f (by decide) (show 40 ∉ [38] by decide)]
  rcases atJ e t with ⟨a, b⟩ | ⟨a, b⟩
  · omega
  · exact hG.2.2.1 t ht (by rw [← b]; exact hs)
/-- how many serials of the array j are there -/
noncomputable def sc (L : Nat → Nat) (σ : HS) (j n : Nat) : Nat := cnt (fun o : Nat => (sJ σ (L j) o).toInt) 0 n
theorem sc_ff (f : Fr h0 L fs js σ σ') {j : Nat} (hj : j < 80) (h : j ∉ js) (n : Nat) : sc L σ' j n = sc L σ j n := by
  unfold sc
  rw [sJ_ff f hj h]
theorem sc_zero {j k n : Nat} {v : Int64} (e : σ' = h_uJ σ (L j) k v) (hv : v.toInt = 0) : sc L σ' j n ≤ sc L σ j n ∧ (k < n → 0 < (sJ σ (L j) k).toInt → sc L σ' j n < sc L σ j n) := by
  have q := cnt_zero (f := fun o : Nat => (sJ σ (L j) o).toInt) (g := fun o : Nat => (sJ σ' (L j) o).toInt) (v := 0) k (by rcases atJ e k with ⟨a, b⟩ | ⟨a, b⟩ <;> omega) n (fun o ho => by rcases atJ e o with ⟨a, b⟩ | ⟨a, b⟩; exact absurd a ho; exact b)
  unfold sc
  refine ⟨by omega, fun h1 h2 => ?_⟩
  rw [if_pos ⟨h1, h2⟩] at q
  omega
end R89
set_option maxRecDepth 100000 in
set_option maxHeartbeats 4000000 in
theorem s_X12_endTree {h0 : Nat} {L : Nat → Nat} {σ : HS} (hI : OKM h0 L σ) (a1 : Int32) {B : Int} (hG : GI h0 L B σ) (hB : B < 4611686018427387904) (hz : 0 ≤ a1.toInt ∧ a1.toInt < 16) {post : HS → Prop} (kk : ∀ (σ' : HS), OKM h0 L σ' → Fr h0 L [16, 61, 62, 63, 69, 115, 116, 117] [1, 2, 3, 4, 5, 6, 7, 8, 9, 10, 14, 15, 16, 17, 18, 19, 20, 21, 22, 23, 27, 28, 38, 41, 42, 43, 44, 45, 46, 47, 48, 49, 50, 51, 53, 56, 57, 58, 59, 60, 61, 62, 63, 64, 65, 66, 67, 68, 69, 70, 71, 72, 73, 74, 75, 76, 77, 78, 79] σ σ' → (GI h0 L B σ' ∧ (sc L σ' 38 16 ≤ sc L σ 38 16 ∧ (0 < (sJ σ (L 38) a1.toInt.toNat).toInt → sc L σ' 38 16 < sc L σ 38 16))) → post σ') : F_X12_endTree h0 L a1 post σ := by
  unfold F_X12_endTree
  have k_m1 : ((-1) : Int32).toInt = (-1) := rfl
  have k_0 : (0 : Int32).toInt = 0 := rfl
  have k_1 : (1 : Int32).toInt = 1 := rfl
  have rg_a1 := i_range a1
  have hfr : Fr h0 L [16, 61, 62, 63, 69, 115, 116, 117] [1, 2, 3, 4, 5, 6, 7, 8, 9, 10, 14, 15, 16, 17, 18, 19, 20, 21, 22, 23, 27, 28, 38, 41, 42, 43, 44, 45, 46, 47, 48, 49, 50, 51, 53, 56, 57, 58, 59, 60, 61, 62, 63, 64, 65, 66, 67, 68, 69, 70, 71, 72, 73, 74, 75, 76, 77, 78, 79] σ σ := Fr.rf
  have h69 := hI.fI 69 0 16 (by decide) rfl rfl rfl rfl
  intro z1 ez1
  have vz1 := hI.fI 69 0 16 (by decide) rfl rfl rfl ez1
  have wz1 : z1.toInt = (sI σ h0 69).toInt := by rw [ez1]
  intro z2 ez2
  try have hz2 := i_sub ez2 (by omega) (by omega)
  have rg_z2 := i_range z2
  refine lw_in (fun (x : Int32) (σ' : HS) => OKM h0 L σ' ∧ Fr h0 L [16, 61, 62, 63, 69, 115, 116, 117] [1, 2, 3, 4, 5, 6, 7, 8, 9, 10, 14, 15, 16, 17, 18, 19, 20, 21, 22, 23, 27, 28, 38, 41, 42, 43, 44, 45, 46, 47, 48, 49, 50, 51, 53, 56, 57, 58, 59, 60, 61, 62, 63, 64, 65, 66, 67, 68, 69, 70, 71, 72, 73, 74, 75, 76, 77, 78, 79] σ σ' ∧ ((-1 ≤ x.toInt ∧ x.toInt ≤ 15) ∧ (-1 ≤ x.toInt) ∧ (x.toInt < (sI σ' h0 69).toInt)) ∧ (sJ σ' (L 38) = sJ σ (L 38)) ∧ (GI h0 L B σ')) (fun (x : Int32) (σ' : HS) => (x.toInt + 1).toNat) ⟨hI, hfr, (by (try dsimp only); omega), (by first | rfl | exact hs | exact (sJ_ff fz26 (by decide) (by decide)).trans hs | exact (sJ_ff fz15 (by decide) (by decide)).trans hs), hG⟩ (fun x3 σ4 hJ K5 hK5 => ?_)
  obtain ⟨hI, hfr, hv, hs, hG⟩ := hJ
  (try dsimp only at hv)
  have rg_x3 := i_range x3
  refine ⟨fun c1 => ?_, fun c1 => ?_⟩
  · refine s_X12_eldestOpen hI a1  (fun z8 pz8 => ?_)
    have rg_z8 := i_range z8
    refine lw_in (fun (x : Int32) (σ' : HS) => OKM h0 L σ' ∧ Fr h0 L [16, 61, 62, 63, 69, 115, 116, 117] [1, 2, 3, 4, 5, 6, 7, 8, 9, 10, 14, 15, 16, 17, 18, 19, 20, 21, 22, 23, 27, 28, 38, 41, 42, 43, 44, 45, 46, 47, 48, 49, 50, 51, 53, 56, 57, 58, 59, 60, 61, 62, 63, 64, 65, 66, 67, 68, 69, 70, 71, 72, 73, 74, 75, 76, 77, 78, 79] σ σ' ∧ ((-1 ≤ x.toInt ∧ x.toInt ≤ 39) ∧ (0 ≤ x.toInt → 0 < (sJ σ' (L 41) x.toInt.toNat).toInt)) ∧ (sJ σ' (L 38) = sJ σ (L 38)) ∧ (GI h0 L B σ')) (fun (x : Int32) (σ' : HS) => (if x.toInt < 0 then 0 else 1 + oc L σ' 0 + (sI σ' h0 69).toInt.toNat)) ⟨hI, hfr, (by (try dsimp only); omega), (by first | rfl | exact hs | exact (sJ_ff fz26 (by decide) (by decide)).trans hs | exact (sJ_ff fz15 (by decide) (by decide)).trans hs), hG⟩ (fun x9 σ10 hJ K11 hK11 => ?_)
    obtain ⟨hI, hfr, hv, hs, hG⟩ := hJ
    (try dsimp only at hv)
    have rg_x9 := i_range x9
    refine ⟨fun c2 => ?_, fun c2 => ?_⟩
    · refine ⟨by omega, ?_⟩
      intro σ13 eσ13
      have hMp := hI.2
      have hI := hI.pJ eσ13
      have hfr := hfr.aJ hMp (by decide) eσ13 (by decide)
      have f1σ13 : Fr h0 L [] [38] σ10 σ13 := Fr.rf.aJ hMp (by decide) eσ13 (by decide)
      have tk1 : (sI σ13 h0 69).toInt = (sI σ10 h0 69).toInt := by rw [(f1σ13.1 69 (by decide)).1]
      have tk2 : (sI σ13 h0 16).toInt = (sI σ10 h0 16).toInt := by rw [(f1σ13.1 16 (by decide)).1]
      have hG := hG.t38 hMp eσ13 rfl
      exact kk σ13 hI hfr ⟨hG, (by have q := sc_zero (n := 16) eσ13 rfl; have e : sc L σ10 38 16 = sc L σ 38 16 := (by unfold sc; rw [hs]); have e2 : (sJ σ10 (L 38) a1.toInt.toNat).toInt = (sJ σ (L 38) a1.toInt.toNat).toInt := (by rw [hs]); exact ⟨by omega, fun h => by have q2 := q.2 (by omega) (by omega); omega⟩)⟩
    · have hIp := hI
      refine s_X12_closes hI x9 hG hB (by omega) (fun σ14 hI fz15 pz15 => ?_)
      have hfr := hfr.tr fz15 (by decide) (by decide)
      have hG := pz15.1
      refine s_X12_eldestOpen hI a1  (fun z17 pz17 => ?_)
      have rg_z17 := i_range z17
      exact hK11 z17 σ14 ⟨hI, hfr, (by (try dsimp only); omega), (by first | rfl | exact hs | exact (sJ_ff fz26 (by decide) (by decide)).trans hs | exact (sJ_ff fz15 (by decide) (by decide)).trans hs), hG⟩ (by (try dsimp only); rw [if_neg (show ¬ x9.toInt < 0 by omega)]; have cl_ := pz15.2 (by omega); split <;> omega)
  · refine ⟨by omega, ?_⟩
    intro z18 ez18
    have vz18 := hI.aI 68 16 0 15 (by decide) (by decide) rfl rfl rfl (i := x3.toInt) (by omega) ez18
    have wz18 : z18.toInt = (sI σ4 (L 68) x3.toInt.toNat).toInt := by rw [ez18]
    refine jn_dup ?_
    refine ⟨fun c3 => ?_, fun c3 => ?_⟩
    · (try dsimp only)
      intro z24 ez24
      try have hz24 := i_add ez24 (by omega) (by omega)
      have rg_z24 := i_range z24
      exact hK5 z24 σ4 ⟨hI, hfr, (by (try dsimp only); omega), (by first | rfl | exact hs | exact (sJ_ff fz26 (by decide) (by decide)).trans hs | exact (sJ_ff fz15 (by decide) (by decide)).trans hs), hG⟩ (by (try dsimp only); omega)
    · have hIp := hI
      refine s_X12_forget hI x3 (by omega) (fun σ25 hI fz26 pz26 => ?_)
      have hfr := hfr.tr fz26 (by decide) (by decide)
      have tk6 : (sI σ25 h0 16).toInt = (sI σ4 h0 16).toInt := by rw [(fz26.1 16 (by decide)).1]
      have q69 := pz26.1
      have hG := hG.sub hIp fz26 (pz26.sub) (by decide) (by decide)
      (try dsimp only)
      intro z24 ez24
      try have hz24 := i_add ez24 (by omega) (by omega)
      have rg_z24 := i_range z24
      exact hK5 z24 σ25 ⟨hI, hfr, (by (try dsimp only); omega), (by first | rfl | exact hs | exact (sJ_ff fz26 (by decide) (by decide)).trans hs | exact (sJ_ff fz15 (by decide) (by decide)).trans hs), hG⟩ (by (try dsimp only); omega)
set_option maxRecDepth 100000 in
set_option maxHeartbeats 4000000 in
theorem s_X12_endSession {h0 : Nat} {L : Nat → Nat} {σ : HS} (hI : OKM h0 L σ) (a1 : Int32) {B : Int} (hG : GI h0 L B σ) (hB : B < 4611686018427387904) (hz : 0 ≤ a1.toInt ∧ a1.toInt < 8) {post : HS → Prop} (kk : ∀ (σ' : HS), OKM h0 L σ' → Fr h0 L [16, 61, 62, 63, 69, 115, 116, 117] [1, 2, 3, 4, 5, 6, 7, 8, 9, 10, 14, 15, 16, 17, 18, 19, 20, 21, 22, 23, 27, 28, 34, 38, 41, 42, 43, 44, 45, 46, 47, 48, 49, 50, 51, 53, 56, 57, 58, 59, 60, 61, 62, 63, 64, 65, 66, 67, 68, 69, 70, 71, 72, 73, 74, 75, 76, 77, 78, 79] σ σ' → (GI h0 L B σ' ∧ (sc L σ' 34 8 ≤ sc L σ 34 8 ∧ (0 < (sJ σ (L 34) a1.toInt.toNat).toInt → sc L σ' 34 8 < sc L σ 34 8))) → post σ') : F_X12_endSession h0 L a1 post σ := by
  unfold F_X12_endSession
  have k_m1 : ((-1) : Int32).toInt = (-1) := rfl
  have k_0 : (0 : Int32).toInt = 0 := rfl
  have k_1 : (1 : Int32).toInt = 1 := rfl
  have rg_a1 := i_range a1
  have hfr : Fr h0 L [16, 61, 62, 63, 69, 115, 116, 117] [1, 2, 3, 4, 5, 6, 7, 8, 9, 10, 14, 15, 16, 17, 18, 19, 20, 21, 22, 23, 27, 28, 34, 38, 41, 42, 43, 44, 45, 46, 47, 48, 49, 50, 51, 53, 56, 57, 58, 59, 60, 61, 62, 63, 64, 65, 66, 67, 68, 69, 70, 71, 72, 73, 74, 75, 76, 77, 78, 79] σ σ := Fr.rf
  have h69 := hI.fI 69 0 16 (by decide) rfl rfl rfl rfl
  intro z1 ez1
  have vz1 := hI.fI 69 0 16 (by decide) rfl rfl rfl ez1
  have wz1 : z1.toInt = (sI σ h0 69).toInt := by rw [ez1]
  intro z2 ez2
  try have hz2 := i_sub ez2 (by omega) (by omega)
  have rg_z2 := i_range z2
  refine lw_in (fun (x : Int32) (σ' : HS) => OKM h0 L σ' ∧ Fr h0 L [16, 61, 62, 63, 69, 115, 116, 117] [1, 2, 3, 4, 5, 6, 7, 8, 9, 10, 14, 15, 16, 17, 18, 19, 20, 21, 22, 23, 27, 28, 34, 38, 41, 42, 43, 44, 45, 46, 47, 48, 49, 50, 51, 53, 56, 57, 58, 59, 60, 61, 62, 63, 64, 65, 66, 67, 68, 69, 70, 71, 72, 73, 74, 75, 76, 77, 78, 79] σ σ' ∧ ((-1 ≤ x.toInt ∧ x.toInt ≤ 15) ∧ (-1 ≤ x.toInt) ∧ (x.toInt < (sI σ' h0 69).toInt)) ∧ (sJ σ' (L 34) = sJ σ (L 34)) ∧ (GI h0 L B σ')) (fun (x : Int32) (σ' : HS) => (x.toInt + 1).toNat) ⟨hI, hfr, (by (try dsimp only); omega), (by first | rfl | exact hs | exact (sJ_ff fz26 (by decide) (by decide)).trans hs | exact (sJ_ff fz15 (by decide) (by decide)).trans hs), hG⟩ (fun x3 σ4 hJ K5 hK5 => ?_)
  obtain ⟨hI, hfr, hv, hs, hG⟩ := hJ
  (try dsimp only at hv)
  have rg_x3 := i_range x3
  refine ⟨fun c1 => ?_, fun c1 => ?_⟩
  · refine s_X12_eldestTree hI a1  (fun z8 pz8 => ?_)
    have rg_z8 := i_range z8
    refine lw_in (fun (x : Int32) (σ' : HS) => OKM h0 L σ' ∧ Fr h0 L [16, 61, 62, 63, 69, 115, 116, 117] [1, 2, 3, 4, 5, 6, 7, 8, 9, 10, 14, 15, 16, 17, 18, 19, 20, 21, 22, 23, 27, 28, 34, 38, 41, 42, 43, 44, 45, 46, 47, 48, 49, 50, 51, 53, 56, 57, 58, 59, 60, 61, 62, 63, 64, 65, 66, 67, 68, 69, 70, 71, 72, 73, 74, 75, 76, 77, 78, 79] σ σ' ∧ ((-1 ≤ x.toInt ∧ x.toInt ≤ 15) ∧ (0 ≤ x.toInt → 0 < (sJ σ' (L 38) x.toInt.toNat).toInt)) ∧ (sJ σ' (L 34) = sJ σ (L 34)) ∧ (GI h0 L B σ')) (fun (x : Int32) (σ' : HS) => (if x.toInt < 0 then 0 else 1 + sc L σ' 38 16)) ⟨hI, hfr, (by (try dsimp only); omega), (by first | rfl | exact hs | exact (sJ_ff fz26 (by decide) (by decide)).trans hs | exact (sJ_ff fz15 (by decide) (by decide)).trans hs), hG⟩ (fun x9 σ10 hJ K11 hK11 => ?_)
    obtain ⟨hI, hfr, hv, hs, hG⟩ := hJ
    (try dsimp only at hv)
    have rg_x9 := i_range x9
    refine ⟨fun c2 => ?_, fun c2 => ?_⟩
    · refine ⟨by omega, ?_⟩
      intro σ13 eσ13
      have hMp := hI.2
      have hI := hI.pJ eσ13
      have hfr := hfr.aJ hMp (by decide) eσ13 (by decide)
      have f1σ13 : Fr h0 L [] [34] σ10 σ13 := Fr.rf.aJ hMp (by decide) eσ13 (by decide)
      have tk1 : (sI σ13 h0 69).toInt = (sI σ10 h0 69).toInt := by rw [(f1σ13.1 69 (by decide)).1]
      have tk2 : (sI σ13 h0 16).toInt = (sI σ10 h0 16).toInt := by rw [(f1σ13.1 16 (by decide)).1]
      have hG := hG.fr f1σ13 (by decide) (by decide)
      exact kk σ13 hI hfr ⟨hG, (by have q := sc_zero (n := 8) eσ13 rfl; have e : sc L σ10 34 8 = sc L σ 34 8 := (by unfold sc; rw [hs]); have e2 : (sJ σ10 (L 34) a1.toInt.toNat).toInt = (sJ σ (L 34) a1.toInt.toNat).toInt := (by rw [hs]); exact ⟨by omega, fun h => by have q2 := q.2 (by omega) (by omega); omega⟩)⟩
    · have hIp := hI
      refine s_X12_endTree hI x9 hG hB (by omega) (fun σ14 hI fz15 pz15 => ?_)
      have hfr := hfr.tr fz15 (by decide) (by decide)
      have hG := pz15.1
      refine s_X12_eldestTree hI a1  (fun z17 pz17 => ?_)
      have rg_z17 := i_range z17
      exact hK11 z17 σ14 ⟨hI, hfr, (by (try dsimp only); omega), (by first | rfl | exact hs | exact (sJ_ff fz26 (by decide) (by decide)).trans hs | exact (sJ_ff fz15 (by decide) (by decide)).trans hs), hG⟩ (by (try dsimp only); rw [if_neg (show ¬ x9.toInt < 0 by omega)]; have cl_ := pz15.2.2 (by omega); split <;> omega)
  · refine ⟨by omega, ?_⟩
    intro z18 ez18
    have vz18 := hI.aI 67 16 0 7 (by decide) (by decide) rfl rfl rfl (i := x3.toInt) (by omega) ez18
    have wz18 : z18.toInt = (sI σ4 (L 67) x3.toInt.toNat).toInt := by rw [ez18]
    refine jn_dup ?_
    refine ⟨fun c3 => ?_, fun c3 => ?_⟩
    · (try dsimp only)
      intro z24 ez24
      try have hz24 := i_add ez24 (by omega) (by omega)
      have rg_z24 := i_range z24
      exact hK5 z24 σ4 ⟨hI, hfr, (by (try dsimp only); omega), (by first | rfl | exact hs | exact (sJ_ff fz26 (by decide) (by decide)).trans hs | exact (sJ_ff fz15 (by decide) (by decide)).trans hs), hG⟩ (by (try dsimp only); omega)
    · have hIp := hI
      refine s_X12_forget hI x3 (by omega) (fun σ25 hI fz26 pz26 => ?_)
      have hfr := hfr.tr fz26 (by decide) (by decide)
      have tk6 : (sI σ25 h0 16).toInt = (sI σ4 h0 16).toInt := by rw [(fz26.1 16 (by decide)).1]
      have q69 := pz26.1
      have hG := hG.sub hIp fz26 (pz26.sub) (by decide) (by decide)
      (try dsimp only)
      intro z24 ez24
      try have hz24 := i_add ez24 (by omega) (by omega)
      have rg_z24 := i_range z24
      exact hK5 z24 σ25 ⟨hI, hfr, (by (try dsimp only); omega), (by first | rfl | exact hs | exact (sJ_ff fz26 (by decide) (by decide)).trans hs | exact (sJ_ff fz15 (by decide) (by decide)).trans hs), hG⟩ (by (try dsimp only); omega)
set_option maxRecDepth 100000 in
set_option maxHeartbeats 4000000 in
theorem s_X12_drops {h0 : Nat} {L : Nat → Nat} {σ : HS} (hI : OKM h0 L σ) (a1 : Int32) {B : Int} (hG : GI h0 L B σ) (hB : B < 4611686018427387904) (hz : 0 ≤ a1.toInt ∧ a1.toInt < 6) {post : HS → Prop} (kk : ∀ (σ' : HS), OKM h0 L σ' → Fr h0 L [16, 61, 62, 63, 69, 115, 116, 117] [1, 2, 3, 4, 5, 6, 7, 8, 9, 10, 14, 15, 16, 17, 18, 19, 20, 21, 22, 23, 25, 27, 28, 30, 34, 38, 41, 42, 43, 44, 45, 46, 47, 48, 49, 50, 51, 53, 56, 57, 58, 59, 60, 61, 62, 63, 64, 65, 66, 67, 68, 69, 70, 71, 72, 73, 74, 75, 76, 77, 78, 79] σ σ' → (GI h0 L B σ') → post σ') : F_X12_drops h0 L a1 post σ := by
  unfold F_X12_drops
  have k_m1 : ((-1) : Int32).toInt = (-1) := rfl
  have k_0 : (0 : Int32).toInt = 0 := rfl
  have k_1 : (1 : Int32).toInt = 1 := rfl
  have rg_a1 := i_range a1
  have hfr : Fr h0 L [16, 61, 62, 63, 69, 115, 116, 117] [1, 2, 3, 4, 5, 6, 7, 8, 9, 10, 14, 15, 16, 17, 18, 19, 20, 21, 22, 23, 25, 27, 28, 30, 34, 38, 41, 42, 43, 44, 45, 46, 47, 48, 49, 50, 51, 53, 56, 57, 58, 59, 60, 61, 62, 63, 64, 65, 66, 67, 68, 69, 70, 71, 72, 73, 74, 75, 76, 77, 78, 79] σ σ := Fr.rf
  refine ⟨by omega, ?_⟩
  intro σ1 eσ1
  have hMp := hI.2
  have hI := hI.pA 25 0 1 (by decide) (by decide) rfl rfl (i_bool _) eσ1
  have hfr := hfr.aI hMp (by decide) eσ1 (by decide)
  have f1σ1 : Fr h0 L [] [25] σ σ1 := Fr.rf.aI hMp (by decide) eσ1 (by decide)
  have tk1 : (sI σ1 h0 69).toInt = (sI σ h0 69).toInt := by rw [(f1σ1.1 69 (by decide)).1]
  have tk2 : (sI σ1 h0 16).toInt = (sI σ h0 16).toInt := by rw [(f1σ1.1 16 (by decide)).1]
  have hG := hG.fr f1σ1 (by decide) (by decide)
  refine ⟨by omega, ?_⟩
  intro σ2 eσ2
  have hMp := hI.2
  have hI := hI.pA 30 0 12003 (by decide) (by decide) rfl rfl (by omega) eσ2
  have hfr := hfr.aI hMp (by decide) eσ2 (by decide)
  have f1σ2 : Fr h0 L [] [30] σ1 σ2 := Fr.rf.aI hMp (by decide) eσ2 (by decide)
  have tk3 : (sI σ2 h0 69).toInt = (sI σ1 h0 69).toInt := by rw [(f1σ2.1 69 (by decide)).1]
  have tk4 : (sI σ2 h0 16).toInt = (sI σ1 h0 16).toInt := by rw [(f1σ2.1 16 (by decide)).1]
  have hG := hG.fr f1σ2 (by decide) (by decide)
  have h69 := hI.fI 69 0 16 (by decide) rfl rfl rfl rfl
  intro z3 ez3
  have vz3 := hI.fI 69 0 16 (by decide) rfl rfl rfl ez3
  have wz3 : z3.toInt = (sI σ2 h0 69).toInt := by rw [ez3]
  intro z4 ez4
  try have hz4 := i_sub ez4 (by omega) (by omega)
  have rg_z4 := i_range z4
  refine lw_in (fun (x : Int32) (σ' : HS) => OKM h0 L σ' ∧ Fr h0 L [16, 61, 62, 63, 69, 115, 116, 117] [1, 2, 3, 4, 5, 6, 7, 8, 9, 10, 14, 15, 16, 17, 18, 19, 20, 21, 22, 23, 25, 27, 28, 30, 34, 38, 41, 42, 43, 44, 45, 46, 47, 48, 49, 50, 51, 53, 56, 57, 58, 59, 60, 61, 62, 63, 64, 65, 66, 67, 68, 69, 70, 71, 72, 73, 74, 75, 76, 77, 78, 79] σ σ' ∧ ((-1 ≤ x.toInt ∧ x.toInt ≤ 15) ∧ (-1 ≤ x.toInt) ∧ (x.toInt < (sI σ' h0 69).toInt)) ∧ (GI h0 L B σ')) (fun (x : Int32) (σ' : HS) => (x.toInt + 1).toNat) ⟨hI, hfr, (by (try dsimp only); omega), hG⟩ (fun x5 σ6 hJ K7 hK7 => ?_)
  obtain ⟨hI, hfr, hv, hG⟩ := hJ
  (try dsimp only at hv)
  have rg_x5 := i_range x5
  refine ⟨fun c1 => ?_, fun c1 => ?_⟩
  · refine s_X12_eldestSession hI a1  (fun z10 pz10 => ?_)
    have rg_z10 := i_range z10
    refine lw_in (fun (x : Int32) (σ' : HS) => OKM h0 L σ' ∧ Fr h0 L [16, 61, 62, 63, 69, 115, 116, 117] [1, 2, 3, 4, 5, 6, 7, 8, 9, 10, 14, 15, 16, 17, 18, 19, 20, 21, 22, 23, 25, 27, 28, 30, 34, 38, 41, 42, 43, 44, 45, 46, 47, 48, 49, 50, 51, 53, 56, 57, 58, 59, 60, 61, 62, 63, 64, 65, 66, 67, 68, 69, 70, 71, 72, 73, 74, 75, 76, 77, 78, 79] σ σ' ∧ ((-1 ≤ x.toInt ∧ x.toInt ≤ 7) ∧ (0 ≤ x.toInt → 0 < (sJ σ' (L 34) x.toInt.toNat).toInt)) ∧ (GI h0 L B σ')) (fun (x : Int32) (σ' : HS) => (if x.toInt < 0 then 0 else 1 + sc L σ' 34 8)) ⟨hI, hfr, (by (try dsimp only); omega), hG⟩ (fun x11 σ12 hJ K13 hK13 => ?_)
    obtain ⟨hI, hfr, hv, hG⟩ := hJ
    (try dsimp only at hv)
    have rg_x11 := i_range x11
    refine ⟨fun c2 => ?_, fun c2 => ?_⟩
    · exact kk σ12 hI hfr hG
    · have hIp := hI
      refine s_X12_endSession hI x11 hG hB (by omega) (fun σ15 hI fz16 pz16 => ?_)
      have hfr := hfr.tr fz16 (by decide) (by decide)
      have hG := pz16.1
      refine s_X12_eldestSession hI a1  (fun z18 pz18 => ?_)
      have rg_z18 := i_range z18
      exact hK13 z18 σ15 ⟨hI, hfr, (by (try dsimp only); omega), hG⟩ (by (try dsimp only); rw [if_neg (show ¬ x11.toInt < 0 by omega)]; have cl_ := pz16.2.2 (by omega); split <;> omega)
  · refine ⟨by omega, ?_⟩
    intro z19 ez19
    have vz19 := hI.aI 61 16 0 5 (by decide) (by decide) rfl rfl rfl (i := x5.toInt) (by omega) ez19
    have wz19 : z19.toInt = (sI σ6 (L 61) x5.toInt.toNat).toInt := by rw [ez19]
    refine jn_dup ?_
    refine ⟨fun c3 => ?_, fun c3 => ?_⟩
    · (try dsimp only)
      intro z25 ez25
      try have hz25 := i_add ez25 (by omega) (by omega)
      have rg_z25 := i_range z25
      exact hK7 z25 σ6 ⟨hI, hfr, (by (try dsimp only); omega), hG⟩ (by (try dsimp only); omega)
    · have hIp := hI
      refine s_X12_forget hI x5 (by omega) (fun σ26 hI fz27 pz27 => ?_)
      have hfr := hfr.tr fz27 (by decide) (by decide)
      have tk8 : (sI σ26 h0 16).toInt = (sI σ6 h0 16).toInt := by rw [(fz27.1 16 (by decide)).1]
      have q69 := pz27.1
      have hG := hG.sub hIp fz27 (pz27.sub) (by decide) (by decide)
      (try dsimp only)
      intro z25 ez25
      try have hz25 := i_add ez25 (by omega) (by omega)
      have rg_z25 := i_range z25
      exact hK7 z25 σ26 ⟨hI, hfr, (by (try dsimp only); omega), hG⟩ (by (try dsimp only); omega)
set_option maxRecDepth 100000 in
set_option maxHeartbeats 4000000 in
theorem s_X12_hang {h0 : Nat} {L : Nat → Nat} {σ : HS} (hI : OKM h0 L σ) (a1 : Int32) {B : Int} (hG : GI h0 L B σ) (hB : B < 4611686018427387904)  {post : Int32 → HS → Prop} (kk : ∀ (r : Int32) (σ' : HS), OKM h0 L σ' → Fr h0 L [16, 61, 62, 63, 69, 115, 116, 117] [1, 2, 3, 4, 5, 6, 7, 8, 9, 10, 14, 15, 16, 17, 18, 19, 20, 21, 22, 23, 25, 27, 28, 30, 34, 38, 41, 42, 43, 44, 45, 46, 47, 48, 49, 50, 51, 53, 56, 57, 58, 59, 60, 61, 62, 63, 64, 65, 66, 67, 68, 69, 70, 71, 72, 73, 74, 75, 76, 77, 78, 79] σ σ' → (GI h0 L B σ' ∧ (0 ≤ r.toInt ∧ r.toInt ≤ 1)) → post r σ') : F_X12_hang h0 L a1 post σ := by
  unfold F_X12_hang
  have k_0 : (0 : Int32).toInt = 0 := rfl
  have k_1 : (1 : Int32).toInt = 1 := rfl
  have rg_a1 := i_range a1
  have hfr : Fr h0 L [16, 61, 62, 63, 69, 115, 116, 117] [1, 2, 3, 4, 5, 6, 7, 8, 9, 10, 14, 15, 16, 17, 18, 19, 20, 21, 22, 23, 25, 27, 28, 30, 34, 38, 41, 42, 43, 44, 45, 46, 47, 48, 49, 50, 51, 53, 56, 57, 58, 59, 60, 61, 62, 63, 64, 65, 66, 67, 68, 69, 70, 71, 72, 73, 74, 75, 76, 77, 78, 79] σ σ := Fr.rf
  refine s_X12_isLine hI a1  (fun z2 pz2 => ?_)
  have rg_z2 := i_range z2
  refine jn_dup ?_
  refine ⟨fun c1 => ?_, fun c1 => ?_⟩
  · (try dsimp only)
    refine ⟨by omega, ?_⟩
    exact kk 0 σ hI hfr ⟨hG, (by (try dsimp only); omega)⟩
  · refine ⟨by omega, ?_⟩
    intro z8 ez8
    have vz8 := hI.aI 25 6 0 1 (by decide) (by decide) rfl rfl rfl (i := a1.toInt) (by omega) ez8
    have wz8 : z8.toInt = (sI σ (L 25) a1.toInt.toNat).toInt := by rw [ez8]
    refine ⟨fun c2 => ?_, fun c2 => ?_⟩
    · have hIp := hI
      refine s_X12_drops hI a1 hG hB (by omega) (fun σ9 hI fz10 pz10 => ?_)
      have hfr := hfr.tr fz10 (by decide) (by decide)
      have hG := pz10
      refine ⟨by omega, ?_⟩
      exact kk 1 σ9 hI hfr ⟨hG, (by (try dsimp only); omega)⟩
    · (try dsimp only)
      refine ⟨by omega, ?_⟩
      exact kk 0 σ hI hfr ⟨hG, (by (try dsimp only); omega)⟩
set_option maxRecDepth 100000 in
set_option maxHeartbeats 4000000 in
theorem s_X12_tick {h0 : Nat} {L : Nat → Nat} {σ : HS} (hI : OKM h0 L σ) (a1 : Int32) {B : Int} (hG : GI h0 L B σ) (hB : B < 4611686018427387904)  {post : Int32 → HS → Prop} (kk : ∀ (r : Int32) (σ' : HS), OKM h0 L σ' → Fr h0 L [2, 16, 61, 62, 69, 115, 116, 117] [1, 2, 3, 4, 5, 6, 7, 8, 9, 10, 14, 15, 16, 17, 18, 19, 20, 21, 22, 23, 27, 28, 41, 42, 43, 44, 45, 46, 47, 48, 49, 50, 51, 53, 61, 62, 63, 64, 65, 66, 67, 68, 69, 70, 71, 72, 73, 74, 75, 76, 77, 78, 79] σ σ' → (GI h0 L B σ' ∧ ((0 ≤ a1.toInt ∧ a1.toInt ≤ 1000000 ∧ r.toInt = 1) ∨ ((a1.toInt < 0 ∨ 1000000 < a1.toInt) ∧ r.toInt = 0))) → post r σ') : F_X12_tick h0 L a1 post σ := by
  unfold F_X12_tick
  have k_m1 : ((-1) : Int32).toInt = (-1) := rfl
  have k_0 : (0 : Int32).toInt = 0 := rfl
  have k_1 : (1 : Int32).toInt = 1 := rfl
  have k_40 : (40 : Int32).toInt = 40 := rfl
  have k_1000000 : (1000000 : Int32).toInt = 1000000 := rfl
  have kl_0 : (0 : Int64).toInt = 0 := rfl
  have kl_35 : (35 : Int64).toInt = 35 := rfl
  have rg_a1 := i_range a1
  have hfr : Fr h0 L [2, 16, 61, 62, 69, 115, 116, 117] [1, 2, 3, 4, 5, 6, 7, 8, 9, 10, 14, 15, 16, 17, 18, 19, 20, 21, 22, 23, 27, 28, 41, 42, 43, 44, 45, 46, 47, 48, 49, 50, 51, 53, 61, 62, 63, 64, 65, 66, 67, 68, 69, 70, 71, 72, 73, 74, 75, 76, 77, 78, 79] σ σ := Fr.rf
  refine jn_dup ?_
  refine ⟨fun c1 => ?_, fun c1 => ?_⟩
  · (try dsimp only)
    refine ⟨by omega, ?_⟩
    exact kk 0 σ hI hfr ⟨hG, (by (try dsimp only); omega)⟩
  · refine ⟨fun c2 => ?_, fun c2 => ?_⟩
    · intro z6 ez6
      have wz6 : z6.toInt = (sJ σ h0 2).toInt := by rw [ez6]
      have vz6 := l_range z6
      intro z7 ez7
      have hz7 := i_tol ez7
      have rg_z7 := l_range z7
      intro z8 ez8
      try have hz8 := l_add ez8 (by omega) (by omega)
      have rg_z8 := l_range z8
      intro σ9 eσ9
      have hMp := hI.2
      have hI := hI.pJ eσ9
      have hfr := hfr.fJ hMp eσ9 (by decide) rfl
      have f1σ9 : Fr h0 L [2] [] σ σ9 := Fr.rf.fJ hMp eσ9 (by decide) rfl
      have tk1 : (sI σ9 h0 69).toInt = (sI σ h0 69).toInt := by rw [(f1σ9.1 69 (by decide)).1]
      have tk2 : (sI σ9 h0 16).toInt = (sI σ h0 16).toInt := by rw [(f1σ9.1 16 (by decide)).1]
      have hG := hG.fr f1σ9 (by decide) (by decide)
      refine lw_in (fun (x : Int32 × Int64) (σ' : HS) => OKM h0 L σ' ∧ Fr h0 L [2, 16, 61, 62, 69, 115, 116, 117] [1, 2, 3, 4, 5, 6, 7, 8, 9, 10, 14, 15, 16, 17, 18, 19, 20, 21, 22, 23, 27, 28, 41, 42, 43, 44, 45, 46, 47, 48, 49, 50, 51, 53, 61, 62, 63, 64, 65, 66, 67, 68, 69, 70, 71, 72, 73, 74, 75, 76, 77, 78, 79] σ σ' ∧ ((0 ≤ x.1.toInt ∧ x.1.toInt ≤ 1) ∧ (0 ≤ x.2.toInt)) ∧ (GI h0 L B σ')) (fun (x : Int32 × Int64) (σ' : HS) => (if x.1.toInt = 0 then 0 else 1 + oc L σ' x.2.toInt + (sI σ' h0 69).toInt.toNat)) ⟨hI, hfr, (by (try dsimp only); omega), hG⟩ (fun x10 σ11 hJ K12 hK12 => ?_)
      obtain ⟨hI, hfr, hv, hG⟩ := hJ
      (try dsimp only at hv)
      have rg_x10_1 := i_range x10.1
      have rg_x10_2 := l_range x10.2
      refine ⟨fun c3 => ?_, fun c3 => ?_⟩
      · refine ⟨by omega, ?_⟩
        exact kk 1 σ11 hI hfr ⟨hG, (by (try dsimp only); omega)⟩
      · refine lw_in (fun (x : Int32 × Int32) (σ' : HS) => σ11 = σ' ∧ ((0 ≤ x.1.toInt ∧ x.1.toInt ≤ 40) ∧ (-1 ≤ x.2.toInt ∧ x.2.toInt ≤ 39) ∧ (¬ x10.1.toInt = 0) ∧ (0 ≤ x.2.toInt → x10.2.toInt < (sJ σ11 (L 41) x.2.toInt.toNat).toInt))) (fun (x : Int32 × Int32) (σ' : HS) => (41 - x.1.toInt).toNat) ⟨rfl, (by (try dsimp only); omega)⟩ (fun x14 σ15 hJ K16 hK16 => ?_)
        obtain ⟨hsg, hv⟩ := hJ
        subst hsg
        (try dsimp only at hv)
        have rg_x14_1 := i_range x14.1
        have rg_x14_2 := i_range x14.2
        refine ⟨fun c4 => ?_, fun c4 => ?_⟩
        · refine jn_in (fun (x : Int32) (σ' : HS) => σ11 = σ' ∧ ((0 ≤ x.toInt ∧ x.toInt ≤ 1) ∧ ((x.toInt = 0 ∧ x14.2.toInt < 0) ∨ (x.toInt = 1 ∧ 0 ≤ x14.2.toInt)))) (fun x18 σ19 hJ => ?_) (fun K20 hK20 => ?_)
          · obtain ⟨hsg, hv⟩ := hJ
            subst hsg
            (try dsimp only at hv)
            have rg_x18 := i_range x18
            refine jn_dup ?_
            refine ⟨fun c5 => ?_, fun c5 => ?_⟩
            · (try dsimp only)
              exact hK12 (x18, x10.2) σ11 ⟨hI, hfr, (by (try dsimp only); omega), hG⟩ (by (try dsimp only); rw [if_neg (show ¬ x10.1.toInt = 0 by omega), if_pos (show x18.toInt = 0 by omega)]; omega)
            · refine ⟨by omega, ?_⟩
              intro z28 ez28
              have wz28 : z28.toInt = (sJ σ11 (L 41) x14.2.toInt.toNat).toInt := by rw [ez28]
              refine ⟨by omega, ?_⟩
              intro σ29 eσ29
              have hMp := hI.2
              have hI := hI.pA 47 0 1 (by decide) (by decide) rfl rfl (i_bool _) eσ29
              have hfr := hfr.aI hMp (by decide) eσ29 (by decide)
              have f1σ29 : Fr h0 L [] [47] σ11 σ29 := Fr.rf.aI hMp (by decide) eσ29 (by decide)
              have tk3 : (sI σ29 h0 69).toInt = (sI σ11 h0 69).toInt := by rw [(f1σ29.1 69 (by decide)).1]
              have tk4 : (sI σ29 h0 16).toInt = (sI σ11 h0 16).toInt := by rw [(f1σ29.1 16 (by decide)).1]
              have hG := hG.fr f1σ29 (by decide) (by decide)
              refine ⟨by omega, ?_⟩
              intro σ30 eσ30
              have hMp := hI.2
              have hI := hI.pA 46 0 255 (by decide) (by decide) rfl rfl (by omega) eσ30
              have hfr := hfr.aI hMp (by decide) eσ30 (by decide)
              have f1σ30 : Fr h0 L [] [46] σ29 σ30 := Fr.rf.aI hMp (by decide) eσ30 (by decide)
              have tk5 : (sI σ30 h0 69).toInt = (sI σ29 h0 69).toInt := by rw [(f1σ30.1 69 (by decide)).1]
              have tk6 : (sI σ30 h0 16).toInt = (sI σ29 h0 16).toInt := by rw [(f1σ30.1 16 (by decide)).1]
              have hG := hG.fr f1σ30 (by decide) (by decide)
              refine ⟨by omega, ?_⟩
              intro z31 ez31
              have vz31 := hI.aI 43 40 0 79 (by decide) (by decide) rfl rfl rfl (i := x14.2.toInt) (by omega) ez31
              have wz31 : z31.toInt = (sI σ30 (L 43) x14.2.toInt.toNat).toInt := by rw [ez31]
              have hIp := hI
              refine s_X12_redo hI z31 hG hB (fun σ32 hI fz33 pz33 => ?_)
              have hfr := hfr.tr fz33 (by decide) (by decide)
              have hG := pz33.1
              (try dsimp only)
              exact hK12 (x18, z28) σ32 ⟨hI, hfr, (by (try dsimp only); omega), hG⟩ (by (try dsimp only); rw [if_neg (show ¬ x10.1.toInt = 0 by omega)]; have q1 := pz33.2 z28.toInt (by omega); have q2 := (show Fr h0 L [] [46, 47] σ11 σ30 from (Fr.rf.tr f1σ29 (by decide) (by decide)).tr f1σ30 (by decide) (by decide)); rw [oc_ff q2 (by decide)] at q1; have q3 := cnt_lt (f := fun o : Nat => (sJ σ11 (L 41) o).toInt) (g := fun o : Nat => (sJ σ11 (L 41) o).toInt) (v := x10.2.toInt) (u := z28.toInt) (by omega) x14.2.toInt.toNat (by (try dsimp only); omega) (by (try dsimp only); omega) 40 (by omega) (fun _ _ => rfl); unfold oc at q1 ⊢; split <;> omega)
          · skip
            refine ⟨fun c6 => ?_, fun c6 => ?_⟩
            · exact hK20 0 σ11 ⟨rfl, (by (try dsimp only); omega)⟩
            · exact hK20 1 σ11 ⟨rfl, (by (try dsimp only); omega)⟩
        · refine ⟨by omega, ?_⟩
          intro z34 ez34
          have wz34 : z34.toInt = (sJ σ11 (L 41) x14.1.toInt.toNat).toInt := by rw [ez34]
          refine jn_in (fun (x : Int32) (σ' : HS) => σ11 = σ' ∧ ((0 ≤ x.toInt ∧ x.toInt ≤ 1) ∧ (x.toInt ≠ 0 → x10.2.toInt < (sJ σ11 (L 41) x14.1.toInt.toNat).toInt))) (fun x35 σ36 hJ => ?_) (fun K37 hK37 => ?_)
          · obtain ⟨hsg, hv⟩ := hJ
            subst hsg
            (try dsimp only at hv)
            have rg_x35 := i_range x35
            refine jn_dup ?_
            refine jn_dup ?_
            refine ⟨fun c7 => ?_, fun c7 => ?_⟩
            · (try dsimp only)
              (try dsimp only)
              intro z45 ez45
              try have hz45 := i_add ez45 (by omega) (by omega)
              have rg_z45 := i_range z45
              exact hK16 (z45, x14.2) σ11 ⟨rfl, (by (try dsimp only); omega)⟩ (by (try dsimp only); omega)
            · refine jn_dup ?_
              refine ⟨fun c8 => ?_, fun c8 => ?_⟩
              · (try dsimp only)
                (try dsimp only)
                intro z45 ez45
                try have hz45 := i_add ez45 (by omega) (by omega)
                have rg_z45 := i_range z45
                exact hK16 (z45, x14.1) σ11 ⟨rfl, (by (try dsimp only); omega)⟩ (by (try dsimp only); omega)
              · refine ⟨by omega, ?_⟩
                intro z56 ez56
                have wz56 : z56.toInt = (sJ σ11 (L 41) x14.1.toInt.toNat).toInt := by rw [ez56]
                refine ⟨by omega, ?_⟩
                intro z57 ez57
                have wz57 : z57.toInt = (sJ σ11 (L 41) x14.2.toInt.toNat).toInt := by rw [ez57]
                refine ⟨fun c9 => ?_, fun c9 => ?_⟩
                · (try dsimp only)
                  (try dsimp only)
                  intro z45 ez45
                  try have hz45 := i_add ez45 (by omega) (by omega)
                  have rg_z45 := i_range z45
                  exact hK16 (z45, x14.2) σ11 ⟨rfl, (by (try dsimp only); omega)⟩ (by (try dsimp only); omega)
                · (try dsimp only)
                  (try dsimp only)
                  intro z45 ez45
                  try have hz45 := i_add ez45 (by omega) (by omega)
                  have rg_z45 := i_range z45
                  exact hK16 (z45, x14.1) σ11 ⟨rfl, (by (try dsimp only); omega)⟩ (by (try dsimp only); omega)
          · skip
            refine jn_dup ?_
            refine ⟨fun c10 => ?_, fun c10 => ?_⟩
            · (try dsimp only)
              exact hK37 0 σ11 ⟨rfl, (by (try dsimp only); omega)⟩
            · refine ⟨by omega, ?_⟩
              intro z63 ez63
              have vz63 := hI.aI 47 40 0 1 (by decide) (by decide) rfl rfl rfl (i := x14.1.toInt) (by omega) ez63
              have wz63 : z63.toInt = (sI σ11 (L 47) x14.1.toInt.toNat).toInt := by rw [ez63]
              refine ⟨fun c11 => ?_, fun c11 => ?_⟩
              · (try dsimp only)
                exact hK37 0 σ11 ⟨rfl, (by (try dsimp only); omega)⟩
              · intro z64 ez64
                have wz64 : z64.toInt = (sJ σ11 h0 2).toInt := by rw [ez64]
                have vz64 := l_range z64
                refine ⟨by omega, ?_⟩
                intro z65 ez65
                have wz65 : z65.toInt = (sJ σ11 (L 49) x14.1.toInt.toNat).toInt := by rw [ez65]
                intro z66 ez66
                try have hz66 := l_sub ez66 (by omega) (by omega)
                have rg_z66 := l_range z66
                refine ⟨fun c12 => ?_, fun c12 => ?_⟩
                · (try dsimp only)
                  exact hK37 0 σ11 ⟨rfl, (by (try dsimp only); omega)⟩
                · exact hK37 1 σ11 ⟨rfl, (by (try dsimp only); omega)⟩
    · (try dsimp only)
      refine ⟨by omega, ?_⟩
      exact kk 0 σ hI hfr ⟨hG, (by (try dsimp only); omega)⟩

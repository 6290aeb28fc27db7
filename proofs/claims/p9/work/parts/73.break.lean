/-! opened ones are told -/
/-- how many of the first n are above v -/
noncomputable def cnt (f : Nat → Int) (v : Int) : Nat → Nat
  | 0 => 0
  | n + 1 => cnt f v n + (if v < f n then 1 else 0)
theorem cnt_le {f g : Nat → Int} {v u : Int} (hv : v ≤ u) : ∀ n, (∀ o, o < n → g o = f o) → cnt g u n ≤ cnt f v n
  | 0, _ => Nat.le_refl _
  | n + 1, h => by
    have h1 := cnt_le (f := f) (g := g) hv n (fun o ho => h o (by omega))
    have h2 := h n (by omega)
    unfold cnt
    split <;> split <;> omega
theorem cnt_lt {f g : Nat → Int} {v u : Int} (hv : v ≤ u) (k : Nat) (h3 : v < f k) (h4 : f k ≤ u) : ∀ n, k < n → (∀ o, o < n → g o = f o) → cnt g u n < cnt f v n
  | 0, hk, _ => by omega
  | n + 1, hk, h => by
    have h2 := h n (by omega)
    rcases (show k < n ∨ k = n by omega) with q | q
    · have h1 := cnt_lt hv k h3 h4 n q (fun o ho => h o (by omega))
      unfold cnt
      split <;> split <;> omega
    · subst q
      have h1 := cnt_le (f := f) (g := g) hv k (fun o ho => h o (by omega))
      unfold cnt
      rw [if_pos h3, if_neg (by omega)]
      omega
set_option maxRecDepth 100000 in
set_option maxHeartbeats 4000000 in
theorem s_X12_breakSecond {h0 : Nat} {L : Nat → Nat} {σ : HS} (hI : OKM h0 L σ) (a1 : Int32) (a2 : Int32) (hz : 0 ≤ a1.toInt ∧ a1.toInt < 80) {post : HS → Prop} (kk : ∀ (σ' : HS), OKM h0 L σ' → Fr h0 L [] [27, 28, 46, 76] σ σ' → (True) → post σ') : F_X12_breakSecond h0 L a1 a2 post σ := by
  unfold F_X12_breakSecond
  have k_m1 : ((-1) : Int32).toInt = (-1) := rfl
  have k_0 : (0 : Int32).toInt = 0 := rfl
  have k_1 : (1 : Int32).toInt = 1 := rfl
  have k_40 : (40 : Int32).toInt = 40 := rfl
  have kl_0 : (0 : Int64).toInt = 0 := rfl
  have rg_a1 := i_range a1
  have rg_a2 := i_range a2
  have hfr : Fr h0 L [] [27, 28, 46, 76] σ σ := Fr.rf
  refine lw_in (fun (x : Int32 × Int64) (σ' : HS) => OKM h0 L σ' ∧ Fr h0 L [] [27, 28, 46, 76] σ σ' ∧ ((0 ≤ x.1.toInt ∧ x.1.toInt ≤ 1))) (fun (x : Int32 × Int64) (σ' : HS) => (if x.1.toInt = 0 then 0 else 1 + cnt (fun o : Nat => (sJ σ (L 41) o).toInt) x.2.toInt 40)) ⟨hI, hfr, (by (try dsimp only); omega)⟩ (fun x1 σ2 hJ K3 hK3 => ?_)
  obtain ⟨hI, hfr, hv⟩ := hJ
  (try dsimp only at hv)
  have rg_x1_1 := i_range x1.1
  have rg_x1_2 := l_range x1.2
  refine ⟨fun c1 => ?_, fun c1 => ?_⟩
  · exact kk σ2 hI hfr trivial
  · refine lw_in (fun (x : Int32 × Int32) (σ' : HS) => OKM h0 L σ' ∧ Fr h0 L [] [27, 28, 46, 76] σ σ' ∧ ((0 ≤ x.1.toInt ∧ x.1.toInt ≤ 40) ∧ (-1 ≤ x.2.toInt ∧ x.2.toInt ≤ 39) ∧ (¬ x1.1.toInt = 0) ∧ (0 ≤ x.2.toInt → x1.2.toInt < (sJ σ (L 41) x.2.toInt.toNat).toInt))) (fun (x : Int32 × Int32) (σ' : HS) => (40 - x.1.toInt).toNat) ⟨hI, hfr, (by (try dsimp only); omega)⟩ (fun x5 σ6 hJ K7 hK7 => ?_)
    obtain ⟨hI, hfr, hv⟩ := hJ
    (try dsimp only at hv)
    have rg_x5_1 := i_range x5.1
    have rg_x5_2 := i_range x5.2
    refine ⟨fun c2 => ?_, fun c2 => ?_⟩
    · refine jn_in (fun (x : Int32) (σ' : HS) => OKM h0 L σ' ∧ Fr h0 L [] [27, 28, 46, 76] σ σ' ∧ ((0 ≤ x.toInt ∧ x.toInt ≤ 1) ∧ ((x.toInt ≠ 0 ∧ 0 ≤ x5.2.toInt ∧ x1.2.toInt < (sJ σ (L 41) x5.2.toInt.toNat).toInt) ∨ x.toInt = 0))) (fun x9 σ10 hJ => ?_) (fun K11 hK11 => ?_)
      · obtain ⟨hI, hfr, hv⟩ := hJ
        (try dsimp only at hv)
        have rg_x9 := i_range x9
        refine jn_dup ?_
        refine ⟨fun c3 => ?_, fun c3 => ?_⟩
        · (try dsimp only)
          exact hK3 (x9, x1.2) σ10 ⟨hI, hfr, (by (try dsimp only); omega)⟩ (by dsimp only; rw [if_pos (by omega), if_neg (by omega)]; omega)
        · refine ⟨by omega, ?_⟩
          intro z19 ez19
          have wz19 : z19.toInt = (sJ σ10 (L 41) x5.2.toInt.toNat).toInt := by rw [ez19]
          have yz19 : z19.toInt = (sJ σ (L 41) x5.2.toInt.toNat).toInt := by rw [ez19, (hfr.2.1 41 (by decide) (by decide) _).2]
          refine ⟨fun c4 => ?_, fun c4 => ?_⟩
          · (try dsimp only)
            exact hK3 (x9, z19) σ10 ⟨hI, hfr, (by (try dsimp only); omega)⟩ (by dsimp only; rw [if_neg (by omega), if_neg (by omega)]; have cl := cnt_lt (f := (fun o : Nat => (sJ σ (L 41) o).toInt)) (g := (fun o : Nat => (sJ σ (L 41) o).toInt)) (v := x1.2.toInt) (u := z19.toInt) (by omega) x5.2.toInt.toNat (by (try dsimp only); omega) (by (try dsimp only); omega) 40 (by omega) (fun _ _ => rfl); omega)
          · refine ⟨by omega, ?_⟩
            intro z20 ez20
            have vz20 := hI.aI 46 40 0 255 (by decide) (by decide) rfl rfl rfl (i := x5.2.toInt) (by omega) ez20
            have wz20 : z20.toInt = (sI σ10 (L 46) x5.2.toInt.toNat).toInt := by rw [ez20]
            refine ⟨fun c5 => ?_, fun c5 => ?_⟩
            · (try dsimp only)
              exact hK3 (x9, z19) σ10 ⟨hI, hfr, (by (try dsimp only); omega)⟩ (by dsimp only; rw [if_neg (by omega), if_neg (by omega)]; have cl := cnt_lt (f := (fun o : Nat => (sJ σ (L 41) o).toInt)) (g := (fun o : Nat => (sJ σ (L 41) o).toInt)) (v := x1.2.toInt) (u := z19.toInt) (by omega) x5.2.toInt.toNat (by (try dsimp only); omega) (by (try dsimp only); omega) 40 (by omega) (fun _ _ => rfl); omega)
            · refine ⟨by omega, ?_⟩
              intro σ21 eσ21
              have hMp := hI.2
              have hI := hI.pA 46 0 255 (by decide) (by decide) rfl rfl (by omega) eσ21
              have hfr := hfr.aI hMp (by decide) eσ21 (by decide)
              refine s_X12_tellBreak hI x5.2 0 (by omega) (fun σ22 hI fz23 pz23 => ?_)
              have hfr := hfr.tr fz23 (by decide) (by decide)
              (try dsimp only)
              exact hK3 (x9, z19) σ22 ⟨hI, hfr, (by (try dsimp only); omega)⟩ (by dsimp only; rw [if_neg (by omega), if_neg (by omega)]; have cl := cnt_lt (f := (fun o : Nat => (sJ σ (L 41) o).toInt)) (g := (fun o : Nat => (sJ σ (L 41) o).toInt)) (v := x1.2.toInt) (u := z19.toInt) (by omega) x5.2.toInt.toNat (by (try dsimp only); omega) (by (try dsimp only); omega) 40 (by omega) (fun _ _ => rfl); omega)
      · skip
        refine ⟨fun c6 => ?_, fun c6 => ?_⟩
        · exact hK11 0 σ6 ⟨hI, hfr, (by (try dsimp only); omega)⟩
        · exact hK11 1 σ6 ⟨hI, hfr, (by (try dsimp only); omega)⟩
    · refine ⟨by omega, ?_⟩
      intro z24 ez24
      have wz24 : z24.toInt = (sJ σ6 (L 41) x5.1.toInt.toNat).toInt := by rw [ez24]
      have yz24 : z24.toInt = (sJ σ (L 41) x5.1.toInt.toNat).toInt := by rw [ez24, (hfr.2.1 41 (by decide) (by decide) _).2]
      refine jn_in (fun (x : Int32) (σ' : HS) => OKM h0 L σ' ∧ Fr h0 L [] [27, 28, 46, 76] σ σ' ∧ ((0 ≤ x.toInt ∧ x.toInt ≤ 1) ∧ (x.toInt ≠ 0 → x1.2.toInt < (sJ σ (L 41) x5.1.toInt.toNat).toInt))) (fun x25 σ26 hJ => ?_) (fun K27 hK27 => ?_)
      · obtain ⟨hI, hfr, hv⟩ := hJ
        (try dsimp only at hv)
        have rg_x25 := i_range x25
        refine jn_dup ?_
        refine jn_dup ?_
        refine ⟨fun c7 => ?_, fun c7 => ?_⟩
        · (try dsimp only)
          (try dsimp only)
          intro z35 ez35
          try have hz35 := i_add ez35 (by omega) (by omega)
          have rg_z35 := i_range z35
          exact hK7 (z35, x5.2) σ26 ⟨hI, hfr, (by (try dsimp only); omega)⟩ (by (try dsimp only); omega)
        · refine jn_dup ?_
          refine ⟨fun c8 => ?_, fun c8 => ?_⟩
          · (try dsimp only)
            (try dsimp only)
            intro z35 ez35
            try have hz35 := i_add ez35 (by omega) (by omega)
            have rg_z35 := i_range z35
            exact hK7 (z35, x5.1) σ26 ⟨hI, hfr, (by (try dsimp only); omega)⟩ (by (try dsimp only); omega)
          · refine ⟨by omega, ?_⟩
            intro z46 ez46
            have wz46 : z46.toInt = (sJ σ26 (L 41) x5.1.toInt.toNat).toInt := by rw [ez46]
            have yz46 : z46.toInt = (sJ σ (L 41) x5.1.toInt.toNat).toInt := by rw [ez46, (hfr.2.1 41 (by decide) (by decide) _).2]
            refine ⟨by omega, ?_⟩
            intro z47 ez47
            have wz47 : z47.toInt = (sJ σ26 (L 41) x5.2.toInt.toNat).toInt := by rw [ez47]
            have yz47 : z47.toInt = (sJ σ (L 41) x5.2.toInt.toNat).toInt := by rw [ez47, (hfr.2.1 41 (by decide) (by decide) _).2]
            refine ⟨fun c9 => ?_, fun c9 => ?_⟩
            · (try dsimp only)
              (try dsimp only)
              intro z35 ez35
              try have hz35 := i_add ez35 (by omega) (by omega)
              have rg_z35 := i_range z35
              exact hK7 (z35, x5.2) σ26 ⟨hI, hfr, (by (try dsimp only); omega)⟩ (by (try dsimp only); omega)
            · (try dsimp only)
              (try dsimp only)
              intro z35 ez35
              try have hz35 := i_add ez35 (by omega) (by omega)
              have rg_z35 := i_range z35
              exact hK7 (z35, x5.1) σ26 ⟨hI, hfr, (by (try dsimp only); omega)⟩ (by (try dsimp only); omega)
      · skip
        refine jn_dup ?_
        refine ⟨fun c10 => ?_, fun c10 => ?_⟩
        · (try dsimp only)
          exact hK27 0 σ6 ⟨hI, hfr, (by (try dsimp only); omega)⟩
        · refine ⟨by omega, ?_⟩
          intro z53 ez53
          have vz53 := hI.aI 43 40 0 79 (by decide) (by decide) rfl rfl rfl (i := x5.1.toInt) (by omega) ez53
          have wz53 : z53.toInt = (sI σ (L 43) x5.1.toInt.toNat).toInt := by rw [ez53, (hfr.2.1 43 (by decide) (by decide) _).1]
          refine ⟨fun c11 => ?_, fun c11 => ?_⟩
          · (try dsimp only)
            exact hK27 0 σ6 ⟨hI, hfr, (by (try dsimp only); omega)⟩
          · exact hK27 1 σ6 ⟨hI, hfr, (by (try dsimp only); omega)⟩

/-! the way up, the way down -/
section R83
variable {h0 : Nat} {L : Nat → Nat} {σ σ' : HS} {R : Nat → Int} {V V' : Nat → Int × Int × Int} {K N U D : Int} {n p : Nat}
theorem rk_up {rk : Nat → Nat} (hrk : ∀ x, x < 80 → (vw L σ 0 x).1 = 1 → (vw L σ 0 x).2.1 < 0 ∨ ∃ p : Nat, p < 80 ∧ (vw L σ 0 x).2.1 = p ∧ (vw L σ 0 p).1 = 1 ∧ (vw L σ 0 p).2.2 = 1 ∧ rk p < rk x) {x : Nat} (hx : x < 80) (h1 : (sI σ (L 1) x).toInt = 1) {z : Int} (hz : z = (sI σ (L 2) x).toInt) : z < 0 ∨ (0 ≤ z ∧ z < 80 ∧ (sI σ (L 1) z.toNat).toInt = 1 ∧ rk z.toNat < rk x) := by
  rcases hrk x hx (by rw [vw0]; exact h1) with q | ⟨p, hp, a, b, c, d⟩
  · rw [vw0] at q
    exact Or.inl (by rw [hz]; exact q)
  · rw [vw0] at a
    have e : z = p := hz.trans a
    rw [vw0] at b
    subst e
    exact Or.inr ⟨by omega, by omega, by rw [Int.toNat_natCast]; exact b, by rw [Int.toNat_natCast]; exact d⟩
theorem GV.nochild (h : GV R V) (hn : (V n).2.2 ≠ 1) (x : Nat) (hx : x < 80) (h1 : (V x).1 = 1) : (V x).2.1 ≠ n := by
  obtain ⟨⟨rk, a⟩, -⟩ := h
  rcases a x hx h1 with q | ⟨p, hp, a, b, c, d⟩
  · omega
  · intro e
    have : p = n := by omega
    subst this
    exact hn c
theorem GV.nb (h : GV R V) (hn : (V n).2.2 ≠ 1) (hp : p < 80) (h1 : (V p).1 = 1) (h2 : (V p).2.2 = 1) : Nb V n p := by
  obtain ⟨⟨rk, a⟩, -⟩ := h
  have key : ∀ k p, rk p < k → p < 80 → (V p).1 = 1 → (V p).2.2 = 1 → Nb V n p := by
    intro k
    induction k with
    | zero => intro p h; omega
    | succ k ih =>
      intro p hk hp h1 h2
      refine Nb.st (fun e => hn (by rw [← e]; exact h2)) ?_
      rcases a p hp h1 with q | ⟨q, hq, e, b, c, d⟩
      · exact Nb.top q
      · rw [e]
        exact ih q (by omega) hq b c
  exact key (rk p + 1) p (Nat.lt_succ_self _) hp h1 h2
theorem Nb.ev {y : Int} (h : Nb V n y) (e : ∀ x, x < 80 → (V' x).2.1 = (V x).2.1) (hb : ∀ x, x < 80 → (V x).2.1 < 80) (hy : y < 80) : Nb V' n y := by
  obtain ⟨k, h⟩ := h
  have key : ∀ k (y : Int), NbK V n k y → y < 80 → NbK V' n k y := by
    intro k
    induction k with
    | zero => exact fun y h _ => h
    | succ k ih =>
      intro y h hy
      rcases h with q | ⟨x, a, b, c⟩
      · exact Or.inl q
      · refine Or.inr ⟨x, a, b, ?_⟩
        rw [e x (by omega)]
        exact ih _ c (hb x (by omega))
  exact ⟨k, key k y h hy⟩
theorem ap_52 (o : Nat) : (ap 5 N U D V o).2 = (V o).2 := by
  by_cases c : (o : Int) = N
  · rw [ap_5 c]
  · rw [ap_ne c]
end R83
set_option maxRecDepth 100000 in
set_option maxHeartbeats 4000000 in
theorem s_X12_isBelow {h0 : Nat} {L : Nat → Nat} {σ : HS} (hI : OKM h0 L σ) (a1 : Int32) (a2 : Int32) (hV : GV (rts L σ) (vw L σ 0)) (hz : -1 ≤ a1.toInt ∧ a1.toInt < 80 ∧ 0 ≤ a2.toInt ∧ (0 ≤ a1.toInt → (sI σ (L 1) a1.toInt.toNat).toInt = 1)) {post : Int32 → HS → Prop} (kk : ∀ (r : Int32) (_ : (0 ≤ r.toInt ∧ r.toInt ≤ 1) ∧ (r.toInt = 0 → Nb (vw L σ 0) a2.toInt.toNat a1.toInt)), post r σ) : F_X12_isBelow h0 L a1 a2 post σ := by
  unfold F_X12_isBelow
  have k_0 : (0 : Int32).toInt = 0 := rfl
  have k_1 : (1 : Int32).toInt = 1 := rfl
  have rg_a1 := i_range a1
  have rg_a2 := i_range a2
  obtain ⟨rk, hrk⟩ := hV.1
  refine lw_in (fun (x : Int32) (σ' : HS) => σ = σ' ∧ ((-1 ≤ x.toInt ∧ x.toInt ≤ 79) ∧ (0 ≤ x.toInt → (sI σ (L 1) x.toInt.toNat).toInt = 1)) ∧ (Nb (vw L σ 0) a2.toInt.toNat x.toInt → Nb (vw L σ 0) a2.toInt.toNat a1.toInt)) (fun (x : Int32) (σ' : HS) => (if x.toInt < 0 then 0 else 1 + rk x.toInt.toNat)) ⟨rfl, (by (try dsimp only); omega), (fun h => h)⟩ (fun x1 σ2 hJ K3 hK3 => ?_)
  obtain ⟨hsg, hv, hNb⟩ := hJ
  subst hsg
  (try dsimp only at hv)
  have rg_x1 := i_range x1
  refine jn_dup ?_
  refine ⟨fun c1 => ?_, fun c1 => ?_⟩
  · (try dsimp only)
    refine jn_dup ?_
    refine ⟨fun c2 => ?_, fun c2 => ?_⟩
    · (try dsimp only)
      refine ⟨by omega, ?_⟩
      exact kk 0 ⟨(by (try dsimp only); omega), fun hr => hNb (by first | (exfalso; omega) | exact Nb.top (by omega))⟩
    · (try dsimp only)
      refine ⟨by omega, ?_⟩
      exact kk 1 ⟨(by (try dsimp only); omega), fun hr => hNb (by first | (exfalso; omega) | exact Nb.top (by omega))⟩
  · refine ⟨fun c3 => ?_, fun c3 => ?_⟩
    · (try dsimp only)
      refine jn_dup ?_
      refine ⟨fun c4 => ?_, fun c4 => ?_⟩
      · (try dsimp only)
        refine ⟨by omega, ?_⟩
        exact kk 0 ⟨(by (try dsimp only); omega), fun hr => hNb (by first | (exfalso; omega) | exact Nb.top (by omega))⟩
      · (try dsimp only)
        refine ⟨by omega, ?_⟩
        exact kk 1 ⟨(by (try dsimp only); omega), fun hr => hNb (by first | (exfalso; omega) | exact Nb.top (by omega))⟩
    · refine ⟨by omega, ?_⟩
      intro z15 ez15
      have vz15 := hI.aI 2 160 (-1) 79 (by decide) (by decide) rfl rfl rfl (i := x1.toInt) (by omega) ez15
      have wz15 : z15.toInt = (sI σ (L 2) x1.toInt.toNat).toInt := by rw [ez15]
      have up_ := rk_up hrk (x := x1.toInt.toNat) (by omega) (by omega) wz15
      exact hK3 z15 σ ⟨rfl, (by (try dsimp only); omega), (fun h => hNb (by rw [show x1.toInt = ((x1.toInt.toNat : Nat) : Int) by omega]; exact Nb.st (by omega) (by rw [vw0]; show Nb _ _ (sI σ (L 2) x1.toInt.toNat).toInt; rw [← wz15]; exact h)))⟩ (by rw [if_neg (show ¬ x1.toInt < 0 by omega)]; split <;> omega)
set_option maxRecDepth 100000 in
set_option maxHeartbeats 4000000 in
theorem s2_X12_goes {h0 : Nat} {L : Nat → Nat} {σ : HS} (hI : OKM h0 L σ) (a1 : Int32) (hP : ∀ o : Nat, (o : Int) < (sI σ h0 115).toInt → (1 ≤ (sI σ (L 79) o).toInt ∧ (sI σ (L 79) o).toInt ≤ 12) ∧ (sI σ (L 78) o).toInt + (sI σ (L 79) o).toInt ≤ 120) (hz : 0 ≤ a1.toInt ∧ a1.toInt < 80 ∧ (sI σ (L 1) a1.toInt.toNat).toInt = 1) {post : Int32 → HS → Prop} (kk : ∀ (r : Int32) (σ' : HS), OKM h0 L σ' → Fr h0 L [116, 117] [] σ σ' → ((0 ≤ r.toInt ∧ r.toInt ≤ 1) ∧ (r.toInt ≠ 0 → ((sI σ h0 115).toInt = 0 ∧ (sI σ' h0 116).toInt = -1 ∧ (sI σ' h0 117).toInt = a1.toInt) ∨ (0 < (sI σ h0 115).toInt ∧ 0 ≤ (sI σ' h0 116).toInt ∧ (sI σ (L 1) (sI σ' h0 116).toInt.toNat).toInt = 1 ∧ (sI σ (L 3) (sI σ' h0 116).toInt.toNat).toInt = 1 ∧ ((sI σ' h0 117).toInt < 0 ∨ ((sI σ (L 1) (sI σ' h0 117).toInt.toNat).toInt = 1 ∧ (sI σ (L 2) (sI σ' h0 117).toInt.toNat).toInt = (sI σ' h0 116).toInt))))) → post r σ') : F_X12_goes h0 L a1 post σ := by
  unfold F_X12_goes
  have k_m1 : ((-1) : Int32).toInt = (-1) := rfl
  have k_0 : (0 : Int32).toInt = 0 := rfl
  have k_1 : (1 : Int32).toInt = 1 := rfl
  have rg_a1 := i_range a1
  have hfr : Fr h0 L [116, 117] [] σ σ := Fr.rf
  have f115 := hI.fI 115 0 121 (by decide) rfl rfl rfl rfl
  intro σ1 eσ1
  have hMp := hI.2
  have hI := hI.pF 116 (-1) 79 rfl rfl (by omega) eσ1
  have hfr := hfr.fI hMp eσ1 (by decide) rfl
  have uσ1 : (sI σ1 h0 116).toInt = ((-1) : Int32).toInt := by rw [eσ1]; exact congrArg Int32.toInt u2_same
  have f1σ1 : Fr h0 L [116] [] σ σ1 := Fr.rf.fI hMp eσ1 (by decide) rfl
  have tk2 : (sI σ1 h0 117).toInt = (sI σ h0 117).toInt := by rw [(f1σ1.1 117 (by decide)).1]
  intro σ2 eσ2
  have hMp := hI.2
  have hI := hI.pF 117 (-1) 79 rfl rfl (by omega) eσ2
  have hfr := hfr.fI hMp eσ2 (by decide) rfl
  have uσ2 : (sI σ2 h0 117).toInt = a1.toInt := by rw [eσ2]; exact congrArg Int32.toInt u2_same
  have f1σ2 : Fr h0 L [117] [] σ1 σ2 := Fr.rf.fI hMp eσ2 (by decide) rfl
  have tk3 : (sI σ2 h0 116).toInt = (sI σ1 h0 116).toInt := by rw [(f1σ2.1 116 (by decide)).1]
  refine lw_in (fun (x : Int32) (σ' : HS) => OKM h0 L σ' ∧ Fr h0 L [116, 117] [] σ σ' ∧ ((0 ≤ x.toInt ∧ x.toInt ≤ 121) ∧ (x.toInt ≤ (sI σ h0 115).toInt)) ∧ ((x.toInt = 0 ∧ (sI σ' h0 116).toInt = -1 ∧ (sI σ' h0 117).toInt = a1.toInt) ∨ (0 < x.toInt ∧ 0 ≤ (sI σ' h0 116).toInt ∧ (sI σ (L 1) (sI σ' h0 116).toInt.toNat).toInt = 1 ∧ (sI σ (L 3) (sI σ' h0 116).toInt.toNat).toInt = 1 ∧ ((sI σ' h0 117).toInt < 0 ∨ ((sI σ (L 1) (sI σ' h0 117).toInt.toNat).toInt = 1 ∧ (sI σ (L 2) (sI σ' h0 117).toInt.toNat).toInt = (sI σ' h0 116).toInt)))) ∧ (0 ≤ (sI σ' h0 117).toInt → (sI σ (L 1) (sI σ' h0 117).toInt.toNat).toInt = 1)) (fun (x : Int32) (σ' : HS) => (122 - x.toInt).toNat) ⟨hI, hfr, (by (try dsimp only); omega), (Or.inl (by (try dsimp only); omega)), (fun _ => by rw [show (sI σ2 h0 117).toInt = a1.toInt by omega]; omega)⟩ (fun x3 σ4 hJ K5 hK5 => ?_)
  obtain ⟨hI, hfr, hv, hq, hl⟩ := hJ
  (try dsimp only at hv)
  have rg_x3 := i_range x3
  intro z7 ez7
  have vz7 := hI.fI 115 0 121 (by decide) rfl rfl rfl ez7
  have wz7 : z7.toInt = (sI σ h0 115).toInt := by rw [ez7, (hfr.1 115 (by decide)).1]
  refine ⟨fun c1 => ?_, fun c1 => ?_⟩
  · refine ⟨by omega, ?_⟩
    exact kk 1 σ4 hI hfr ⟨(by (try dsimp only); omega), fun hr => by first | (exfalso; omega) | (rw [show (sI σ h0 115).toInt = x3.toInt by omega]; exact hq)⟩
  · intro z8 ez8
    have vz8 := hI.fI 117 (-1) 79 (by decide) rfl rfl rfl ez8
    have wz8 : z8.toInt = (sI σ4 h0 117).toInt := by rw [ez8]
    refine jn_dup ?_
    refine ⟨fun c2 => ?_, fun c2 => ?_⟩
    · (try dsimp only)
      refine ⟨by omega, ?_⟩
      exact kk 0 σ4 hI hfr ⟨(by (try dsimp only); omega), fun hr => by first | (exfalso; omega) | (rw [show (sI σ h0 115).toInt = x3.toInt by omega]; exact hq)⟩
    · intro z14 ez14
      have vz14 := hI.fI 117 (-1) 79 (by decide) rfl rfl rfl ez14
      have wz14 : z14.toInt = (sI σ4 h0 117).toInt := by rw [ez14]
      refine ⟨by omega, ?_⟩
      intro z15 ez15
      have vz15 := hI.aI 3 160 0 1 (by decide) (by decide) rfl rfl rfl (i := z14.toInt) (by omega) ez15
      have wz15 : z15.toInt = (sI σ (L 3) z14.toInt.toNat).toInt := by rw [ez15, (hfr.2.1 3 (by decide) (by decide) _).1]
      refine ⟨fun c3 => ?_, fun c3 => ?_⟩
      · (try dsimp only)
        refine ⟨by omega, ?_⟩
        exact kk 0 σ4 hI hfr ⟨(by (try dsimp only); omega), fun hr => by first | (exfalso; omega) | (rw [show (sI σ h0 115).toInt = x3.toInt by omega]; exact hq)⟩
      · intro z16 ez16
        have vz16 := hI.fI 117 (-1) 79 (by decide) rfl rfl rfl ez16
        have wz16 : z16.toInt = (sI σ4 h0 117).toInt := by rw [ez16]
        refine ⟨by omega, ?_⟩
        intro z17 ez17
        have vz17 := hI.aI 10 80 0 1 (by decide) (by decide) rfl rfl rfl (i := z16.toInt) (by omega) ez17
        have wz17 : z17.toInt = (sI σ (L 10) z16.toInt.toNat).toInt := by rw [ez17, (hfr.2.1 10 (by decide) (by decide) _).1]
        refine ⟨fun c4 => ?_, fun c4 => ?_⟩
        · intro z18 ez18
          have vz18 := hI.fI 117 (-1) 79 (by decide) rfl rfl rfl ez18
          have wz18 : z18.toInt = (sI σ4 h0 117).toInt := by rw [ez18]
          intro σ19 eσ19
          have hMp := hI.2
          have hI := hI.pF 116 (-1) 79 rfl rfl (by omega) eσ19
          have hfr := hfr.fI hMp eσ19 (by decide) rfl
          have uσ19 : (sI σ19 h0 116).toInt = z18.toInt := by rw [eσ19]; exact congrArg Int32.toInt u2_same
          have f1σ19 : Fr h0 L [116] [] σ4 σ19 := Fr.rf.fI hMp eσ19 (by decide) rfl
          have tk6 : (sI σ19 h0 117).toInt = (sI σ4 h0 117).toInt := by rw [(f1σ19.1 117 (by decide)).1]
          intro z20 ez20
          have vz20 := hI.fI 116 (-1) 79 (by decide) rfl rfl rfl ez20
          have wz20 : z20.toInt = (sI σ19 h0 116).toInt := by rw [ez20]
          have hp := hP x3.toInt.toNat (by omega)
          have b78 := congrArg Int32.toInt (hfr.2.1 78 (by decide) (by decide) x3.toInt.toNat).1
          have b79 := congrArg Int32.toInt (hfr.2.1 79 (by decide) (by decide) x3.toInt.toNat).1
          refine s_X12_child hI z20 x3 (by omega) (fun z22 pz22 => ?_)
          have rg_z22 := i_range z22
          have c1 := congrArg Int32.toInt (hfr.2.1 1 (by decide) (by decide) z22.toInt.toNat).1
          have c2 := congrArg Int32.toInt (hfr.2.1 2 (by decide) (by decide) z22.toInt.toNat).1
          intro σ23 eσ23
          have hMp := hI.2
          have hI := hI.pF 117 (-1) 79 rfl rfl (by omega) eσ23
          have hfr := hfr.fI hMp eσ23 (by decide) rfl
          have uσ23 : (sI σ23 h0 117).toInt = z22.toInt := by rw [eσ23]; exact congrArg Int32.toInt u2_same
          have f1σ23 : Fr h0 L [117] [] σ19 σ23 := Fr.rf.fI hMp eσ23 (by decide) rfl
          have tk7 : (sI σ23 h0 116).toInt = (sI σ19 h0 116).toInt := by rw [(f1σ23.1 116 (by decide)).1]
          intro z24 ez24
          try have hz24 := i_add ez24 (by omega) (by omega)
          have rg_z24 := i_range z24
          exact hK5 z24 σ23 ⟨hI, hfr, (by (try dsimp only); omega), (by rw [show (sI σ23 h0 116).toInt = z18.toInt by omega, show (sI σ23 h0 117).toInt = z22.toInt by omega]; refine Or.inr ⟨by (try dsimp only); omega, by omega, ?_, ?_, by omega⟩; (rw [show z18.toInt = (sI σ4 h0 117).toInt by omega]; exact hl (by omega)); (rw [show z18.toInt = z14.toInt by omega]; omega)), (fun _ => by rw [show (sI σ23 h0 117).toInt = z22.toInt by omega]; omega)⟩ (by (try dsimp only); omega)
        · (try dsimp only)
          refine ⟨by omega, ?_⟩
          exact kk 0 σ4 hI hfr ⟨(by (try dsimp only); omega), fun hr => by first | (exfalso; omega) | (rw [show (sI σ h0 115).toInt = x3.toInt by omega]; exact hq)⟩

/-! it begins, it crashes, a share is made -/
section R91
variable {h0 : Nat} {L : Nat → Nat} {σ σ' σ2 σ3 : HS} {B : Int} {fs js : List Nat}
theorem GI.begin (hg : GV (rts L σ) (vw L σ 80)) (f : Fr h0 L fs js σ σ') (h11 : 11 ∉ js) (e16 : (sI σ' h0 16).toInt = 0) (e69 : (sI σ' h0 69).toInt = 0) (e61 : (sJ σ' h0 61).toInt = 0) (hv : ∀ o, o < 80 → vw L σ' 0 o = vw L σ 80 o ∧ vw L σ' 80 o = vw L σ 80 o) (h41 : ∀ o : Nat, o < 40 → (sJ σ' (L 41) o).toInt = 0) (h38 : ∀ o : Nat, o < 16 → (sJ σ' (L 38) o).toInt = 0) (h10 : ∀ o : Nat, o < 80 → (sI σ' (L 10) o).toInt = 0) (hB : 0 ≤ B) : GI h0 L B σ' := by
  refine ⟨?_, ⟨fun o ho hs => absurd (h41 o ho) hs, fun n hn hs => ?_⟩, fun t ht hs => absurd (h38 t ht) hs, fun w hw => ?_, fun o ho => ?_, ?_, ?_⟩
  · unfold LG
    rw [e16, rts_ff f h11]
    refine ⟨by decide, fun o ho => by omega, fun k hk => ?_, fun o ho => ?_⟩
    · have : k = 0 := by omega
      subst this
      exact hg.ev (fun o ho => (hv o ho).2)
    · show vw L σ' 0 o = vw L σ' 80 o
      rw [(hv o ho).1, (hv o ho).2]
  · have := h10 n hn
    omega
  · rw [e69] at hw
    omega
  · rw [h41 o ho]
    exact Int.le_refl 0
  · rw [e61]
    exact Int.le_refl 0
  · rw [e61, e69]
    exact hB
theorem vw_b (b o : Nat) : vw L σ b o = ((sI σ (L 1) (b + o)).toInt, (sI σ (L 2) (b + o)).toInt, (sI σ (L 3) (b + o)).toInt) := rfl
theorem node_st {k : Nat} {v1 v2 v3 : Int32} (hM : MdI h0 L σ) (e1 : σ' = h_uI σ (L 1) k v1) (e2 : σ2 = h_uI σ' (L 2) k v2) (e3 : σ3 = h_uI σ2 (L 3) k v3) (b o : Nat) : (b + o = k → vw L σ3 b o = (v1.toInt, v2.toInt, v3.toInt)) ∧ (b + o ≠ k → vw L σ3 b o = vw L σ b o) := by
  have n12 : L 1 ≠ L 2 := fun e => by have := hM.inj (by omega) (by omega) e; omega
  have n13 : L 1 ≠ L 3 := fun e => by have := hM.inj (by omega) (by omega) e; omega
  have n23 : L 2 ≠ L 3 := fun e => by have := hM.inj (by omega) (by omega) e; omega
  subst e1
  subst e2
  subst e3
  rw [vw_b, vw_b]
  refine ⟨fun h => ?_, fun h => ?_⟩
  · refine Prod.ext ?_ (Prod.ext ?_ ?_)
    · show (u2 (u2 (u2 (sI σ) (L 1) k v1) (L 2) k v2) (L 3) k v3 (L 1) (b + o)).toInt = _
      rw [u2_addr n13, u2_addr n12, h, u2_same]
    · show (u2 (u2 (u2 (sI σ) (L 1) k v1) (L 2) k v2) (L 3) k v3 (L 2) (b + o)).toInt = _
      rw [u2_addr n23, h, u2_same]
    · show (u2 (u2 (u2 (sI σ) (L 1) k v1) (L 2) k v2) (L 3) k v3 (L 3) (b + o)).toInt = _
      rw [h, u2_same]
  · refine Prod.ext ?_ (Prod.ext ?_ ?_)
    · show (u2 (u2 (u2 (sI σ) (L 1) k v1) (L 2) k v2) (L 3) k v3 (L 1) (b + o)).toInt = _
      rw [u2_addr n13, u2_addr n12, u2_pl h]
    · show (u2 (u2 (u2 (sI σ) (L 1) k v1) (L 2) k v2) (L 3) k v3 (L 2) (b + o)).toInt = _
      rw [u2_addr n23, u2_pl h, u2_addr (Ne.symm n12)]
    · show (u2 (u2 (u2 (sI σ) (L 1) k v1) (L 2) k v2) (L 3) k v3 (L 3) (b + o)).toInt = _
      rw [u2_pl h, u2_addr (Ne.symm n23), u2_addr (Ne.symm n13)]
/-- a new root -/
theorem GI.share {r i : Nat} (hG : GI h0 L B σ) (hI : OKM h0 L σ) (h16 : (sI σ h0 16).toInt = 0) (f : Fr h0 L fs js σ σ') (h1 : nof fs [16, 61, 69] = true) (h2 : nof js [14, 15, 16, 17, 22, 23, 38, 40, 41, 43, 50, 62, 68, 74, 75] = true) (hr : r < 80) (hd : (vw L σ 0 r).1 ≠ 1) (hv : ∀ o, o < 80 → (o = r → vw L σ' 0 o = (1, -1, 1) ∧ vw L σ' 80 o = (1, -1, 1)) ∧ (o ≠ r → vw L σ' 0 o = vw L σ 0 o ∧ vw L σ' 80 o = vw L σ 80 o)) (h10 : ∀ o, (o = r → (sI σ' (L 10) o).toInt ≠ 1) ∧ (o ≠ r → (sI σ' (L 10) o).toInt = (sI σ (L 10) o).toInt)) (h11 : ∀ s, (s = i → rts L σ' s = r) ∧ (s ≠ i → rts L σ' s = rts L σ s)) : GI h0 L B σ' := by
  have sub : ∀ l : List Nat, (∀ x ∈ l, x ∈ [14, 15, 16, 17, 22, 23, 38, 40, 41, 43, 50, 62, 68, 74, 75]) → nof js l = true := fun l hl => List.all_eq_true.mpr (fun x hx => by
    have : ¬ x ∈ l := fun q => nof_n h2 (hl x q) hx
    simpa using this)
  have up : ∀ s, 0 ≤ rts L σ s → 0 ≤ rts L σ' s := fun s hs => by
    by_cases c : s = i
    · rw [(h11 s).1 c]
      omega
    · rw [(h11 s).2 c]
      exact hs
  have gv := hG.1.live hI
  have e8 : ∀ o, o < 80 → vw L σ' 80 o = vw L σ' 0 o := fun o ho => by
    by_cases c : o = r
    · rw [((hv o ho).1 c).1, ((hv o ho).1 c).2]
    · rw [((hv o ho).2 c).1, ((hv o ho).2 c).2]
      have q := hG.1.2.2.2 o ho
      rw [h16] at q
      exact q.symm
  have gn : GV (rts L σ') (vw L σ' 0) := by
    obtain ⟨⟨rk, a⟩, b⟩ := gv
    have ne : ∀ p, (vw L σ 0 p).1 = 1 → p ≠ r := fun p hp e => hd (by rw [← e]; exact hp)
    refine ⟨⟨rk, fun x hx hl => ?_⟩, fun s hs h0' => ?_⟩
    · by_cases c : x = r
      · rw [((hv x hx).1 c).1]
        exact Or.inl (by decide)
      · rw [((hv x hx).2 c).1] at hl ⊢
        rcases a x hx hl with q | ⟨p, hp, q1, q2, q3, q4⟩
        · exact Or.inl q
        · exact Or.inr ⟨p, hp, q1, by rw [((hv p hp).2 (ne p q2)).1]; exact q2, by rw [((hv p hp).2 (ne p q2)).1]; exact q3, q4⟩
    · by_cases c : s = i
      · rw [(h11 s).1 c]
        exact ⟨r, hr, rfl, by rw [((hv r hr).1 rfl).1], by rw [((hv r hr).1 rfl).1]; decide⟩
      · rw [(h11 s).2 c] at h0' ⊢
        obtain ⟨p, hp, q1, q2, q3⟩ := b s hs h0'
        exact ⟨p, hp, q1, by rw [((hv p hp).2 (ne p q2)).1]; exact q2, by rw [((hv p hp).2 (ne p q2)).1]; exact q3⟩
  refine ⟨?_, ?_, ?_, ?_, hG.2.2.2.2.fr f (nof_n h1 (by decide)) (nof_n h1 (by decide)) (nof_n h2 (by decide))⟩
  · unfold LG
    rw [(f.1 16 (nof_n h1 (by decide))).1, h16]
    refine ⟨by decide, fun o ho => by omega, fun k hk => ?_, fun o ho => ?_⟩
    · have : k = 0 := by omega
      subst this
      exact gn.ev e8
    · exact (e8 o ho).symm
  · have og := hG.2.1
    unfold OG
    rw [sJ_ff f (by decide) (nof_n h2 (show 41 ∈ _ by decide)), sI_ff f (by decide) (nof_n h2 (show 43 ∈ _ by decide)), sI_ff f (by decide) (nof_n h2 (show 50 ∈ _ by decide))]
    refine ⟨fun o ho hs => ?_, fun n hn hs => ?_⟩
    · have q := og.1 o ho hs
      have b := hI.aI 43 40 0 79 (by decide) (by decide) rfl rfl rfl (i := (o : Int)) (by omega) rfl
      rw [Int.toNat_natCast] at b
      rw [((hv _ (show (sI σ (L 43) o).toInt.toNat < 80 by omega)).2 (fun e => hd (by rw [← e]; exact q.1))).1]
      exact q
    · by_cases c : n = r
      · exact absurd hs ((h10 n).1 c)
      · rw [(h10 n).2 c] at hs
        rw [((hv n hn).2 c).1]
        exact og.2 n hn hs
  · intro t ht hs
    rw [sJ_ff f (by decide) (nof_n h2 (by decide))] at hs
    rw [sI_ff f (by decide) (nof_n h2 (by decide))]
    exact up _ (hG.2.2.1 t ht hs)
  · intro w hw
    rw [(f.1 69 (nof_n h1 (by decide))).1] at hw
    have g := hG.2.2.2.1 w hw
    unfold WG1 WN at g ⊢
    rw [sI_ff f (by decide) (nof_n h2 (show 40 ∈ _ by decide)), sI_ff f (by decide) (nof_n h2 (show 62 ∈ _ by decide)), sI_ff f (by decide) (nof_n h2 (show 68 ∈ _ by decide)), sI_ff f (by decide) (nof_n h2 (show 74 ∈ _ by decide)), sI_ff f (by decide) (nof_n h2 (show 75 ∈ _ by decide))]
    exact ⟨up _ g.1, g.2⟩
end R91
theorem copy_vw {L : Nat → Nat} {σ σ' : HS} {a1 a2 : Int32} (h : ∀ o : Nat, ((o : Int) ≠ a2.toInt → (sI σ' (L 1) o).toInt = (sI σ (L 1) o).toInt) ∧ ((o : Int) = a2.toInt → (sI σ' (L 1) o).toInt = (sI σ (L 1) a1.toInt.toNat).toInt) ∧ ((o : Int) ≠ a2.toInt → (sI σ' (L 2) o).toInt = (sI σ (L 2) o).toInt) ∧ ((o : Int) = a2.toInt → (sI σ' (L 2) o).toInt = (sI σ (L 2) a1.toInt.toNat).toInt) ∧ ((o : Int) ≠ a2.toInt → (sI σ' (L 3) o).toInt = (sI σ (L 3) o).toInt) ∧ ((o : Int) = a2.toInt → (sI σ' (L 3) o).toInt = (sI σ (L 3) a1.toInt.toNat).toInt)) (b o : Nat) : (((b + o : Nat) : Int) = a2.toInt → ∀ b' o' : Nat, b' + o' = a1.toInt.toNat → vw L σ' b o = vw L σ b' o') ∧ (((b + o : Nat) : Int) ≠ a2.toInt → vw L σ' b o = vw L σ b o) := by
  have q := h (b + o)
  refine ⟨fun e b' o' e' => ?_, fun e => ?_⟩
  · rw [vw_b, vw_b, e']
    exact Prod.ext (q.2.1 e) (Prod.ext (q.2.2.2.1 e) (q.2.2.2.2.2 e))
  · exact Prod.ext (q.1 e) (Prod.ext (q.2.2.1 e) (q.2.2.2.2.1 e))
set_option maxRecDepth 100000 in
set_option maxHeartbeats 4000000 in
theorem s2_X12_begin {h0 : Nat} {L : Nat → Nat} {σ : HS} (hI : OKM h0 L σ)  (hg : GV (rts L σ) (vw L σ 80)) {post : HS → Prop} (kk : ∀ (σ' : HS), OKM h0 L σ' → Fr h0 L [16, 59, 60, 61, 62, 63, 69] [1, 2, 3, 4, 5, 6, 7, 8, 9, 10, 25, 28, 34, 38, 41] σ σ' → (∀ B : Int, 0 ≤ B → GI h0 L B σ') → post σ') : F_X12_begin h0 L  post σ := by
  unfold F_X12_begin
  have k_0 : (0 : Int32).toInt = 0 := rfl
  have k_1 : (1 : Int32).toInt = 1 := rfl
  have k_6 : (6 : Int32).toInt = 6 := rfl
  have k_8 : (8 : Int32).toInt = 8 := rfl
  have k_16 : (16 : Int32).toInt = 16 := rfl
  have k_40 : (40 : Int32).toInt = 40 := rfl
  have k_80 : (80 : Int32).toInt = 80 := rfl
  have hfr : Fr h0 L [16, 59, 60, 61, 62, 63, 69] [1, 2, 3, 4, 5, 6, 7, 8, 9, 10, 25, 28, 34, 38, 41] σ σ := Fr.rf
  refine lw_in (fun (x : Int32) (σ' : HS) => OKM h0 L σ' ∧ Fr h0 L [16, 59, 60, 61, 62, 63, 69] [1, 2, 3, 4, 5, 6, 7, 8, 9, 10, 25, 28, 34, 38, 41] σ σ' ∧ ((0 ≤ x.toInt ∧ x.toInt ≤ 6)) ∧ (∀ b, vw L σ' b = vw L σ b)) (fun (x : Int32) (σ' : HS) => (6 - x.toInt).toNat) ⟨hI, hfr, (by (try dsimp only); omega), (fun b => by first | rfl | exact hV b | exact (vw_ff (show Fr h0 L [] [25, 28] σ2 σ40 from (Fr.rf.tr f1σ39 (by decide) (by decide)).tr f1σ40 (by decide) (by decide)) (by decide) b).trans (hV b) | exact (vw_ff f1σ37 (by decide) b).trans (hV b) | exact (vw_ff f1σ35 (by decide) b).trans (hV b) | exact (vw_ff f1σ33 (by decide) b).trans (hV b))⟩ (fun x1 σ2 hJ K3 hK3 => ?_)
  obtain ⟨hI, hfr, hv, hV⟩ := hJ
  (try dsimp only at hv)
  have rg_x1 := i_range x1
  refine ⟨fun c1 => ?_, fun c1 => ?_⟩
  · refine lw_in (fun (x : Int32) (σ' : HS) => OKM h0 L σ' ∧ Fr h0 L [16, 59, 60, 61, 62, 63, 69] [1, 2, 3, 4, 5, 6, 7, 8, 9, 10, 25, 28, 34, 38, 41] σ σ' ∧ ((0 ≤ x.toInt ∧ x.toInt ≤ 8)) ∧ (∀ b, vw L σ' b = vw L σ b)) (fun (x : Int32) (σ' : HS) => (8 - x.toInt).toNat) ⟨hI, hfr, (by (try dsimp only); omega), (fun b => by first | rfl | exact hV b | exact (vw_ff (show Fr h0 L [] [25, 28] σ2 σ40 from (Fr.rf.tr f1σ39 (by decide) (by decide)).tr f1σ40 (by decide) (by decide)) (by decide) b).trans (hV b) | exact (vw_ff f1σ37 (by decide) b).trans (hV b) | exact (vw_ff f1σ35 (by decide) b).trans (hV b) | exact (vw_ff f1σ33 (by decide) b).trans (hV b))⟩ (fun x5 σ6 hJ K7 hK7 => ?_)
    obtain ⟨hI, hfr, hv, hV⟩ := hJ
    (try dsimp only at hv)
    have rg_x5 := i_range x5
    refine ⟨fun c2 => ?_, fun c2 => ?_⟩
    · refine lw_in (fun (x : Int32) (σ' : HS) => OKM h0 L σ' ∧ Fr h0 L [16, 59, 60, 61, 62, 63, 69] [1, 2, 3, 4, 5, 6, 7, 8, 9, 10, 25, 28, 34, 38, 41] σ σ' ∧ ((0 ≤ x.toInt ∧ x.toInt ≤ 16)) ∧ (∀ b, vw L σ' b = vw L σ b) ∧ (∀ o : Nat, (o : Int) < x.toInt → (sJ σ' (L 38) o).toInt = 0)) (fun (x : Int32) (σ' : HS) => (16 - x.toInt).toNat) ⟨hI, hfr, (by (try dsimp only); omega), (fun b => by first | rfl | exact hV b | exact (vw_ff (show Fr h0 L [] [25, 28] σ2 σ40 from (Fr.rf.tr f1σ39 (by decide) (by decide)).tr f1σ40 (by decide) (by decide)) (by decide) b).trans (hV b) | exact (vw_ff f1σ37 (by decide) b).trans (hV b) | exact (vw_ff f1σ35 (by decide) b).trans (hV b) | exact (vw_ff f1σ33 (by decide) b).trans (hV b)), (fun o ho => by exfalso; (try dsimp only at ho); omega)⟩ (fun x9 σ10 hJ K11 hK11 => ?_)
      obtain ⟨hI, hfr, hv, hV, h38⟩ := hJ
      (try dsimp only at hv)
      have rg_x9 := i_range x9
      refine ⟨fun c3 => ?_, fun c3 => ?_⟩
      · refine lw_in (fun (x : Int32) (σ' : HS) => OKM h0 L σ' ∧ Fr h0 L [16, 59, 60, 61, 62, 63, 69] [1, 2, 3, 4, 5, 6, 7, 8, 9, 10, 25, 28, 34, 38, 41] σ σ' ∧ ((0 ≤ x.toInt ∧ x.toInt ≤ 40)) ∧ (∀ b, vw L σ' b = vw L σ b) ∧ (∀ o : Nat, (o : Int) < 16 → (sJ σ' (L 38) o).toInt = 0) ∧ (∀ o : Nat, (o : Int) < x.toInt → (sJ σ' (L 41) o).toInt = 0)) (fun (x : Int32) (σ' : HS) => (40 - x.toInt).toNat) ⟨hI, hfr, (by (try dsimp only); omega), (fun b => by first | rfl | exact hV b | exact (vw_ff (show Fr h0 L [] [25, 28] σ2 σ40 from (Fr.rf.tr f1σ39 (by decide) (by decide)).tr f1σ40 (by decide) (by decide)) (by decide) b).trans (hV b) | exact (vw_ff f1σ37 (by decide) b).trans (hV b) | exact (vw_ff f1σ35 (by decide) b).trans (hV b) | exact (vw_ff f1σ33 (by decide) b).trans (hV b)), (fun o ho => by first | exact h38 o (by omega) | exact (congrArg Int64.toInt (f1σ33.2.1 38 (by decide) (by decide) o).2).trans (h38 o (by omega))), (fun o ho => by exfalso; (try dsimp only at ho); omega)⟩ (fun x13 σ14 hJ K15 hK15 => ?_)
        obtain ⟨hI, hfr, hv, hV, h38, h41⟩ := hJ
        (try dsimp only at hv)
        have rg_x13 := i_range x13
        refine ⟨fun c4 => ?_, fun c4 => ?_⟩
        · intro σ17 eσ17
          have hMp := hI.2
          have hI := hI.pF 63 0 80 rfl rfl (by omega) eσ17
          have hfr := hfr.fI hMp eσ17 (by decide) rfl
          have uσ17 : (sI σ17 h0 63).toInt = (0 : Int32).toInt := by rw [eσ17]; exact congrArg Int32.toInt u2_same
          have f1σ17 : Fr h0 L [63] [] σ14 σ17 := Fr.rf.fI hMp eσ17 (by decide) rfl
          have tk1 : (sI σ17 h0 16).toInt = (sI σ14 h0 16).toInt := by rw [(f1σ17.1 16 (by decide)).1]
          have tk2 : (sI σ17 h0 69).toInt = (sI σ14 h0 69).toInt := by rw [(f1σ17.1 69 (by decide)).1]
          have tk3 : (sJ σ17 h0 61).toInt = (sJ σ14 h0 61).toInt := by rw [(f1σ17.1 61 (by decide)).2.1]
          intro σ18 eσ18
          have hMp := hI.2
          have hI := hI.pF 69 0 16 rfl rfl (by omega) eσ18
          have hfr := hfr.fI hMp eσ18 (by decide) rfl
          have uσ18 : (sI σ18 h0 69).toInt = (0 : Int32).toInt := by rw [eσ18]; exact congrArg Int32.toInt u2_same
          have f1σ18 : Fr h0 L [69] [] σ17 σ18 := Fr.rf.fI hMp eσ18 (by decide) rfl
          have tk4 : (sI σ18 h0 16).toInt = (sI σ17 h0 16).toInt := by rw [(f1σ18.1 16 (by decide)).1]
          have tk6 : (sJ σ18 h0 61).toInt = (sJ σ17 h0 61).toInt := by rw [(f1σ18.1 61 (by decide)).2.1]
          intro σ19 eσ19
          have hMp := hI.2
          have hI := hI.pF 16 0 8 rfl rfl (by omega) eσ19
          have hfr := hfr.fI hMp eσ19 (by decide) rfl
          have uσ19 : (sI σ19 h0 16).toInt = (0 : Int32).toInt := by rw [eσ19]; exact congrArg Int32.toInt u2_same
          have f1σ19 : Fr h0 L [16] [] σ18 σ19 := Fr.rf.fI hMp eσ19 (by decide) rfl
          have tk8 : (sI σ19 h0 69).toInt = (sI σ18 h0 69).toInt := by rw [(f1σ19.1 69 (by decide)).1]
          have tk9 : (sJ σ19 h0 61).toInt = (sJ σ18 h0 61).toInt := by rw [(f1σ19.1 61 (by decide)).2.1]
          intro σ20 eσ20
          have hMp := hI.2
          have hI := hI.pJ eσ20
          have hfr := hfr.fJ hMp eσ20 (by decide) rfl
          have f1σ20 : Fr h0 L [59] [] σ19 σ20 := Fr.rf.fJ hMp eσ20 (by decide) rfl
          have tk10 : (sI σ20 h0 16).toInt = (sI σ19 h0 16).toInt := by rw [(f1σ20.1 16 (by decide)).1]
          have tk11 : (sI σ20 h0 69).toInt = (sI σ19 h0 69).toInt := by rw [(f1σ20.1 69 (by decide)).1]
          have tk12 : (sJ σ20 h0 61).toInt = (sJ σ19 h0 61).toInt := by rw [(f1σ20.1 61 (by decide)).2.1]
          intro σ21 eσ21
          have hMp := hI.2
          have hI := hI.pJ eσ21
          have hfr := hfr.fJ hMp eσ21 (by decide) rfl
          have f1σ21 : Fr h0 L [60] [] σ20 σ21 := Fr.rf.fJ hMp eσ21 (by decide) rfl
          have tk13 : (sI σ21 h0 16).toInt = (sI σ20 h0 16).toInt := by rw [(f1σ21.1 16 (by decide)).1]
          have tk14 : (sI σ21 h0 69).toInt = (sI σ20 h0 69).toInt := by rw [(f1σ21.1 69 (by decide)).1]
          have tk15 : (sJ σ21 h0 61).toInt = (sJ σ20 h0 61).toInt := by rw [(f1σ21.1 61 (by decide)).2.1]
          intro σ22 eσ22
          have hMp := hI.2
          have hI := hI.pJ eσ22
          have hfr := hfr.fJ hMp eσ22 (by decide) rfl
          have f1σ22 : Fr h0 L [61] [] σ21 σ22 := Fr.rf.fJ hMp eσ22 (by decide) rfl
          have tk16 : (sI σ22 h0 16).toInt = (sI σ21 h0 16).toInt := by rw [(f1σ22.1 16 (by decide)).1]
          have tk17 : (sI σ22 h0 69).toInt = (sI σ21 h0 69).toInt := by rw [(f1σ22.1 69 (by decide)).1]
          have u22 : (sJ σ22 h0 61).toInt = 0 := by rw [eσ22]; exact congrArg Int64.toInt u2_same
          intro σ23 eσ23
          have hMp := hI.2
          have hI := hI.pJ eσ23
          have hfr := hfr.fJ hMp eσ23 (by decide) rfl
          have f1σ23 : Fr h0 L [62] [] σ22 σ23 := Fr.rf.fJ hMp eσ23 (by decide) rfl
          have tk19 : (sI σ23 h0 16).toInt = (sI σ22 h0 16).toInt := by rw [(f1σ23.1 16 (by decide)).1]
          have tk20 : (sI σ23 h0 69).toInt = (sI σ22 h0 69).toInt := by rw [(f1σ23.1 69 (by decide)).1]
          have tk21 : (sJ σ23 h0 61).toInt = (sJ σ22 h0 61).toInt := by rw [(f1σ23.1 61 (by decide)).2.1]
          have fB : Fr h0 L [63, 69, 16, 59, 60, 61, 62] [] σ14 σ23 := (((((((Fr.rf.tr f1σ17 (by decide) (by decide)).tr f1σ18 (by decide) (by decide)).tr f1σ19 (by decide) (by decide)).tr f1σ20 (by decide) (by decide)).tr f1σ21 (by decide) (by decide)).tr f1σ22 (by decide) (by decide)).tr f1σ23 (by decide) (by decide))
          refine lw_in (fun (x : Int32) (σ' : HS) => OKM h0 L σ' ∧ Fr h0 L [16, 59, 60, 61, 62, 63, 69] [1, 2, 3, 4, 5, 6, 7, 8, 9, 10, 25, 28, 34, 38, 41] σ σ' ∧ ((0 ≤ x.toInt ∧ x.toInt ≤ 80) ∧ ((sI σ' h0 16).toInt = 0) ∧ ((sI σ' h0 69).toInt = 0) ∧ ((sJ σ' h0 61).toInt = 0)) ∧ (∀ o : Nat, o < 80 → ((o : Int) < x.toInt → vw L σ' 0 o = vw L σ 80 o) ∧ vw L σ' 80 o = vw L σ 80 o) ∧ (∀ o : Nat, (o : Int) < 16 → (sJ σ' (L 38) o).toInt = 0) ∧ (∀ o : Nat, (o : Int) < 40 → (sJ σ' (L 41) o).toInt = 0) ∧ (∀ o : Nat, (o : Int) < x.toInt → (sI σ' (L 10) o).toInt = 0)) (fun (x : Int32) (σ' : HS) => (80 - x.toInt).toNat) ⟨hI, hfr, (by (try dsimp only); omega), (fun o ho => ⟨fun h => by exfalso; (try dsimp only at h); omega, by rw [vw_ff fB (by decide), hV]⟩), (fun o ho => (congrArg Int64.toInt (fB.2.1 38 (by decide) (by decide) o).2).trans (h38 o (by omega))), (fun o ho => (congrArg Int64.toInt (fB.2.1 41 (by decide) (by decide) o).2).trans (h41 o (by omega))), (fun o ho => by exfalso; (try dsimp only at ho); omega)⟩ (fun x24 σ25 hJ K26 hK26 => ?_)
          obtain ⟨hI, hfr, hv, hC, h38, h41, h10⟩ := hJ
          (try dsimp only at hv)
          have rg_x24 := i_range x24
          refine ⟨fun c5 => ?_, fun c5 => ?_⟩
          · exact kk σ25 hI hfr (fun B hB => GI.begin hg hfr (by decide) (by omega) (by omega) (by omega) (fun o ho => ⟨(hC o ho).1 (by omega), (hC o ho).2⟩) (fun o ho => h41 o (by omega)) (fun o ho => h38 o (by omega)) (fun o ho => h10 o (by omega)) hB)
          · intro z28 ez28
            try have hz28 := i_add ez28 (by omega) (by omega)
            have rg_z28 := i_range z28
            refine s2_X12_copyNode hI z28 x24 (by omega) (fun σ29 hI fz30 pz30 => ?_)
            have hfr := hfr.tr fz30 (by decide) (by decide)
            have tk22 : (sI σ29 h0 16).toInt = (sI σ25 h0 16).toInt := by rw [(fz30.1 16 (by decide)).1]
            have tk23 : (sI σ29 h0 69).toInt = (sI σ25 h0 69).toInt := by rw [(fz30.1 69 (by decide)).1]
            have tk24 : (sJ σ29 h0 61).toInt = (sJ σ25 h0 61).toInt := by rw [(fz30.1 61 (by decide)).2.1]
            refine ⟨by omega, ?_⟩
            intro σ31 eσ31
            have hMp := hI.2
            have hI := hI.pA 10 0 1 (by decide) (by decide) rfl rfl (i_bool _) eσ31
            have hfr := hfr.aI hMp (by decide) eσ31 (by decide)
            have f1σ31 : Fr h0 L [] [10] σ29 σ31 := Fr.rf.aI hMp (by decide) eσ31 (by decide)
            have tk25 : (sI σ31 h0 16).toInt = (sI σ29 h0 16).toInt := by rw [(f1σ31.1 16 (by decide)).1]
            have tk26 : (sI σ31 h0 69).toInt = (sI σ29 h0 69).toInt := by rw [(f1σ31.1 69 (by decide)).1]
            have tk27 : (sJ σ31 h0 61).toInt = (sJ σ29 h0 61).toInt := by rw [(f1σ31.1 61 (by decide)).2.1]
            intro z32 ez32
            try have hz32 := i_add ez32 (by omega) (by omega)
            have rg_z32 := i_range z32
            exact hK26 z32 σ31 ⟨hI, hfr, (by (try dsimp only); omega), (fun o ho => by (try dsimp only at *); have fS := vw_ff f1σ31 (by decide); refine ⟨fun h => ?_, by rw [congrFun (fS 80) o, (copy_vw pz30 80 o).2 (by omega)]; exact (hC o ho).2⟩; rw [congrFun (fS 0) o]; by_cases c : o = x24.toInt.toNat; (rw [(copy_vw pz30 0 o).1 (by omega) 80 x24.toInt.toNat (by omega), c]; exact (hC _ (by omega)).2); (rw [(copy_vw pz30 0 o).2 (by omega)]; exact (hC o ho).1 (by omega))), (fun o ho => (congrArg Int64.toInt ((Fr.tr (fs := []) (js := [1, 2, 3, 4, 5, 6, 7, 8, 9, 10]) (Fr.rf.tr fz30 (by decide) (by decide)) f1σ31 (by decide) (by decide)).2.1 38 (by decide) (by decide) o).2).trans (h38 o ho)), (fun o ho => (congrArg Int64.toInt ((Fr.tr (fs := []) (js := [1, 2, 3, 4, 5, 6, 7, 8, 9, 10]) (Fr.rf.tr fz30 (by decide) (by decide)) f1σ31 (by decide) (by decide)).2.1 41 (by decide) (by decide) o).2).trans (h41 o ho)), (fun o ho => by (try dsimp only at *); rcases atI eσ31 o with ⟨a, b⟩ | ⟨a, b⟩; exact b.trans rfl; exact b.trans ((congrArg Int32.toInt (fz30.2.1 10 (by decide) (by decide) o).1).trans (h10 o (by omega))))⟩ (by (try dsimp only); omega)
        · refine ⟨by omega, ?_⟩
          intro σ33 eσ33
          have hMp := hI.2
          have hI := hI.pJ eσ33
          have hfr := hfr.aJ hMp (by decide) eσ33 (by decide)
          have f1σ33 : Fr h0 L [] [41] σ14 σ33 := Fr.rf.aJ hMp (by decide) eσ33 (by decide)
          have tk28 : (sI σ33 h0 16).toInt = (sI σ14 h0 16).toInt := by rw [(f1σ33.1 16 (by decide)).1]
          have tk29 : (sI σ33 h0 69).toInt = (sI σ14 h0 69).toInt := by rw [(f1σ33.1 69 (by decide)).1]
          have tk30 : (sJ σ33 h0 61).toInt = (sJ σ14 h0 61).toInt := by rw [(f1σ33.1 61 (by decide)).2.1]
          intro z34 ez34
          try have hz34 := i_add ez34 (by omega) (by omega)
          have rg_z34 := i_range z34
          exact hK15 z34 σ33 ⟨hI, hfr, (by (try dsimp only); omega), (fun b => by first | rfl | exact hV b | exact (vw_ff (show Fr h0 L [] [25, 28] σ2 σ40 from (Fr.rf.tr f1σ39 (by decide) (by decide)).tr f1σ40 (by decide) (by decide)) (by decide) b).trans (hV b) | exact (vw_ff f1σ37 (by decide) b).trans (hV b) | exact (vw_ff f1σ35 (by decide) b).trans (hV b) | exact (vw_ff f1σ33 (by decide) b).trans (hV b)), (fun o ho => by first | exact h38 o (by omega) | exact (congrArg Int64.toInt (f1σ33.2.1 38 (by decide) (by decide) o).2).trans (h38 o (by omega))), (fun o ho => by (try dsimp only at *); rcases atJ eσ33 o with ⟨a, b⟩ | ⟨a, b⟩; exact b.trans rfl; exact b.trans (h41 o (by omega)))⟩ (by (try dsimp only); omega)
      · refine ⟨by omega, ?_⟩
        intro σ35 eσ35
        have hMp := hI.2
        have hI := hI.pJ eσ35
        have hfr := hfr.aJ hMp (by decide) eσ35 (by decide)
        have f1σ35 : Fr h0 L [] [38] σ10 σ35 := Fr.rf.aJ hMp (by decide) eσ35 (by decide)
        have tk31 : (sI σ35 h0 16).toInt = (sI σ10 h0 16).toInt := by rw [(f1σ35.1 16 (by decide)).1]
        have tk32 : (sI σ35 h0 69).toInt = (sI σ10 h0 69).toInt := by rw [(f1σ35.1 69 (by decide)).1]
        have tk33 : (sJ σ35 h0 61).toInt = (sJ σ10 h0 61).toInt := by rw [(f1σ35.1 61 (by decide)).2.1]
        intro z36 ez36
        try have hz36 := i_add ez36 (by omega) (by omega)
        have rg_z36 := i_range z36
        exact hK11 z36 σ35 ⟨hI, hfr, (by (try dsimp only); omega), (fun b => by first | rfl | exact hV b | exact (vw_ff (show Fr h0 L [] [25, 28] σ2 σ40 from (Fr.rf.tr f1σ39 (by decide) (by decide)).tr f1σ40 (by decide) (by decide)) (by decide) b).trans (hV b) | exact (vw_ff f1σ37 (by decide) b).trans (hV b) | exact (vw_ff f1σ35 (by decide) b).trans (hV b) | exact (vw_ff f1σ33 (by decide) b).trans (hV b)), (fun o ho => by (try dsimp only at *); rcases atJ eσ35 o with ⟨a, b⟩ | ⟨a, b⟩; exact b.trans rfl; exact b.trans (h38 o (by omega)))⟩ (by (try dsimp only); omega)
    · refine ⟨by omega, ?_⟩
      intro σ37 eσ37
      have hMp := hI.2
      have hI := hI.pJ eσ37
      have hfr := hfr.aJ hMp (by decide) eσ37 (by decide)
      have f1σ37 : Fr h0 L [] [34] σ6 σ37 := Fr.rf.aJ hMp (by decide) eσ37 (by decide)
      have tk34 : (sI σ37 h0 16).toInt = (sI σ6 h0 16).toInt := by rw [(f1σ37.1 16 (by decide)).1]
      have tk35 : (sI σ37 h0 69).toInt = (sI σ6 h0 69).toInt := by rw [(f1σ37.1 69 (by decide)).1]
      have tk36 : (sJ σ37 h0 61).toInt = (sJ σ6 h0 61).toInt := by rw [(f1σ37.1 61 (by decide)).2.1]
      intro z38 ez38
      try have hz38 := i_add ez38 (by omega) (by omega)
      have rg_z38 := i_range z38
      exact hK7 z38 σ37 ⟨hI, hfr, (by (try dsimp only); omega), (fun b => by first | rfl | exact hV b | exact (vw_ff (show Fr h0 L [] [25, 28] σ2 σ40 from (Fr.rf.tr f1σ39 (by decide) (by decide)).tr f1σ40 (by decide) (by decide)) (by decide) b).trans (hV b) | exact (vw_ff f1σ37 (by decide) b).trans (hV b) | exact (vw_ff f1σ35 (by decide) b).trans (hV b) | exact (vw_ff f1σ33 (by decide) b).trans (hV b))⟩ (by (try dsimp only); omega)
  · refine ⟨by omega, ?_⟩
    intro σ39 eσ39
    have hMp := hI.2
    have hI := hI.pA 25 0 1 (by decide) (by decide) rfl rfl (i_bool _) eσ39
    have hfr := hfr.aI hMp (by decide) eσ39 (by decide)
    have f1σ39 : Fr h0 L [] [25] σ2 σ39 := Fr.rf.aI hMp (by decide) eσ39 (by decide)
    have tk37 : (sI σ39 h0 16).toInt = (sI σ2 h0 16).toInt := by rw [(f1σ39.1 16 (by decide)).1]
    have tk38 : (sI σ39 h0 69).toInt = (sI σ2 h0 69).toInt := by rw [(f1σ39.1 69 (by decide)).1]
    have tk39 : (sJ σ39 h0 61).toInt = (sJ σ2 h0 61).toInt := by rw [(f1σ39.1 61 (by decide)).2.1]
    refine ⟨by omega, ?_⟩
    intro σ40 eσ40
    have hMp := hI.2
    have hI := hI.pA 28 0 16000 (by decide) (by decide) rfl rfl (by omega) eσ40
    have hfr := hfr.aI hMp (by decide) eσ40 (by decide)
    have f1σ40 : Fr h0 L [] [28] σ39 σ40 := Fr.rf.aI hMp (by decide) eσ40 (by decide)
    have tk40 : (sI σ40 h0 16).toInt = (sI σ39 h0 16).toInt := by rw [(f1σ40.1 16 (by decide)).1]
    have tk41 : (sI σ40 h0 69).toInt = (sI σ39 h0 69).toInt := by rw [(f1σ40.1 69 (by decide)).1]
    have tk42 : (sJ σ40 h0 61).toInt = (sJ σ39 h0 61).toInt := by rw [(f1σ40.1 61 (by decide)).2.1]
    intro z41 ez41
    try have hz41 := i_add ez41 (by omega) (by omega)
    have rg_z41 := i_range z41
    exact hK3 z41 σ40 ⟨hI, hfr, (by (try dsimp only); omega), (fun b => by first | rfl | exact hV b | exact (vw_ff (show Fr h0 L [] [25, 28] σ2 σ40 from (Fr.rf.tr f1σ39 (by decide) (by decide)).tr f1σ40 (by decide) (by decide)) (by decide) b).trans (hV b) | exact (vw_ff f1σ37 (by decide) b).trans (hV b) | exact (vw_ff f1σ35 (by decide) b).trans (hV b) | exact (vw_ff f1σ33 (by decide) b).trans (hV b))⟩ (by (try dsimp only); omega)
set_option maxRecDepth 100000 in
set_option maxHeartbeats 4000000 in
theorem s_X12_crash {h0 : Nat} {L : Nat → Nat} {σ : HS} (hI : OKM h0 L σ) (a1 : Int32) {B : Int} (hG : GI h0 L B σ)  {post : Int32 → HS → Prop} (kk : ∀ (r : Int32) (σ' : HS), OKM h0 L σ' → Fr h0 L [16, 59, 60, 61, 62, 63, 69] [1, 2, 3, 4, 5, 6, 7, 8, 9, 10, 25, 28, 34, 38, 41] σ σ' → (GI h0 L B σ') → post r σ') : F_X12_crash h0 L a1 post σ := by
  unfold F_X12_crash
  have k_m1 : ((-1) : Int32).toInt = (-1) := rfl
  have k_0 : (0 : Int32).toInt = 0 := rfl
  have rg_a1 := i_range a1
  have hfr : Fr h0 L [16, 59, 60, 61, 62, 63, 69] [1, 2, 3, 4, 5, 6, 7, 8, 9, 10, 25, 28, 34, 38, 41] σ σ := Fr.rf
  have h69 := hI.fI 69 0 16 (by decide) rfl rfl rfl rfl
  refine jn_dup ?_
  refine ⟨fun c1 => ?_, fun c1 => ?_⟩
  · (try dsimp only)
    exact kk (-1) σ hI hfr hG
  · intro z6 ez6
    have vz6 := hI.fI 16 0 8 (by decide) rfl rfl rfl ez6
    have wz6 : z6.toInt = (sI σ h0 16).toInt := by rw [ez6]
    refine ⟨fun c2 => ?_, fun c2 => ?_⟩
    · intro z7 ez7
      have vz7 := hI.fI 16 0 8 (by decide) rfl rfl rfl ez7
      have wz7 : z7.toInt = (sI σ h0 16).toInt := by rw [ez7]
      have hIp := hI
      refine s_X12_come hI a1 0 (by omega) (fun o ho => hG.allCome o (by omega)) (fun σ8 hI fz9 pz9 => ?_)
      have hfr := hfr.tr fz9 (by decide) (by decide)
      have hIp := hI
      have hgv : GV (rts L σ8) (vw L σ8 80) := by rw [rts_ff fz9 (by decide)]; exact (hG.1.2.2.1 a1.toInt.toNat (by omega)).ev (fun o ho => (pz9.2 o ho).1)
      have hB0 : 0 ≤ B := by have s_ := hG.2.2.2.2.2; omega
      refine s2_X12_begin hI  hgv (fun σ10 hI fz11 pz11 => ?_)
      have hfr := hfr.tr fz11 (by decide) (by decide)
      have hG := pz11 B hB0
      exact kk z7 σ10 hI hfr hG
    · (try dsimp only)
      exact kk (-1) σ hI hfr hG

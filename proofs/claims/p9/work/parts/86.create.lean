/-! a file gets its row -/
section R86
variable {h0 : Nat} {L : Nat → Nat} {σ σ' : HS} {B : Int} {fs js : List Nat}
theorem cnt_one {f g : Nat → Int} {v : Int} (k : Nat) : ∀ n, (∀ o, o ≠ k → g o = f o) → cnt g v n ≤ cnt f v n + (if k < n then 1 else 0)
  | 0, _ => by show 0 ≤ _; omega
  | n + 1, h => by
    have h1 := cnt_one (f := f) (g := g) (v := v) k n h
    unfold cnt
    by_cases c : n = k
    · subst c
      rw [if_neg (show ¬ n < n by omega)] at h1
      rw [if_pos (show n < n + 1 by omega)]
      split <;> split <;> omega
    · rw [h n c]
      by_cases d : k < n
      · rw [if_pos d] at h1
        rw [if_pos (show k < n + 1 by omega)]
        omega
      · rw [if_neg d] at h1
        rw [if_neg (show ¬ k < n + 1 by omega)]
        omega
/-- opens' serials -/
noncomputable def oc (L : Nat → Nat) (σ : HS) (v : Int) : Nat := cnt (fun o : Nat => (sJ σ (L 41) o).toInt) v 40
theorem oc_ff (f : Fr h0 L fs js σ σ') (h : 41 ∉ js) (v : Int) : oc L σ' v = oc L σ v := by
  unfold oc
  rw [sJ_ff f (by decide) h]
theorem oc_one (k : Nat) (h : ∀ o : Nat, o ≠ k → (sJ σ' (L 41) o).toInt = (sJ σ (L 41) o).toInt) (v : Int) : oc L σ' v ≤ oc L σ v + 1 := by
  have q := cnt_one (f := fun o : Nat => (sJ σ (L 41) o).toInt) (g := fun o : Nat => (sJ σ' (L 41) o).toInt) (v := v) k 40 h
  unfold oc
  split at q <;> omega
theorem GI.opn {o n : Nat} (hG : GI h0 L B σ) (f : Fr h0 L fs js σ σ') (h1 : nof fs [16, 69] = true) (h2 : nof js [1, 2, 3, 10, 11, 14, 15, 16, 17, 22, 23, 38, 40, 62, 68, 74, 75] = true) (e61 : (sJ σ' h0 61).toInt = (sJ σ h0 61).toInt + 1) (hs : ∀ i : Nat, (i = o ∧ (sJ σ' (L 41) i).toInt = (sJ σ' h0 61).toInt ∧ (sI σ' (L 43) i).toInt = n ∧ ((sI σ' (L 50) i).toInt = 1 → 0 ≤ (sI σ (L 2) n).toInt)) ∨ (i ≠ o ∧ (sJ σ' (L 41) i).toInt = (sJ σ (L 41) i).toInt ∧ (sI σ' (L 43) i).toInt = (sI σ (L 43) i).toInt ∧ (sI σ' (L 50) i).toInt = (sI σ (L 50) i).toInt)) (hl : (sI σ (L 1) n).toInt = 1) : GI h0 L (B + 1) σ' := by
  have sub : ∀ l : List Nat, (∀ x ∈ l, x ∈ [1, 2, 3, 10, 11, 14, 15, 16, 17, 22, 23, 38, 40, 62, 68, 74, 75]) → nof js l = true := fun l hl => List.all_eq_true.mpr (fun x hx => by
    have : ¬ x ∈ l := fun q => nof_n h2 (hl x q) hx
    simpa using this)
  have og := hG.2.1
  have sg := hG.2.2.2.2
  refine ⟨hG.1.fr f (nof_n h1 (by decide)) (sub _ (by decide)), ?_, hG.2.2.1.fr f (sub _ (by decide)), hG.2.2.2.1.fr f (nof_n h1 (by decide)) (sub _ (by decide)), ?_, ?_, ?_⟩
  · unfold OG
    rw [vw_ff f (sub _ (by decide)), sI_ff f (by decide) (nof_n h2 (show 10 ∈ _ by decide))]
    refine ⟨fun i hi hq => ?_, og.2⟩
    rcases hs i with ⟨a, b, c, d⟩ | ⟨a, b, c, d⟩
    · rw [c, vw0, Int.toNat_natCast]
      exact ⟨hl, d⟩
    · rw [b] at hq
      have q := og.1 i hi hq
      rw [c, d]
      exact q
  · intro i hi
    rcases hs i with ⟨a, b, -⟩ | ⟨a, b, -⟩
    · rw [b, e61]
      have := sg.2.1
      omega
    · rw [b]
      exact sg.1 i hi
  · rw [e61]
    have := sg.2.1
    omega
  · rw [e61, (f.1 69 (nof_n h1 (by decide))).1]
    have := sg.2.2
    omega
end R86
set_option maxRecDepth 100000 in
set_option maxHeartbeats 4000000 in
theorem s_X12_create {h0 : Nat} {L : Nat → Nat} {σ : HS} (hI : OKM h0 L σ) (a1 : Int32) {B : Int} (hG : GI h0 L B σ) (hN : InM h0 L σ (sI σ h0 87).toInt) (hT : 0 ≤ rts L σ (sI σ (L 40) (sI σ h0 99).toInt.toNat).toInt.toNat) (hw : 120 ≤ (sI σ h0 87).toInt ∧ (NUM h0 L σ 110 2 = 0 ∨ (NUM h0 L σ 108 2 : Int) + NUM h0 L σ 110 2 ≤ (sI σ h0 87).toInt)) (hq : a1.toInt < 0 → sP σ h0 85 = some (L 29)) (hB : B < 4611686018427387904) (hz : a1.toInt < 16 ∧ 0 ≤ (sI σ h0 98).toInt ∧ 0 ≤ (sI σ h0 99).toInt) {post : Int64 → HS → Prop} (kk : ∀ (r : Int64) (σ' : HS), OKM h0 L σ' → Fr h0 L [16, 61, 62, 69, 91, 109, 111, 115, 116, 117] [1, 2, 3, 4, 5, 6, 7, 8, 9, 10, 14, 15, 16, 17, 18, 19, 20, 21, 22, 23, 27, 28, 41, 42, 43, 44, 45, 46, 47, 48, 49, 50, 51, 53, 61, 62, 63, 64, 65, 66, 67, 68, 69, 70, 74, 75, 76, 77, 78, 79] σ σ' → (GI h0 L (B + 1) σ' ∧ ((0 ≤ a1.toInt → (sI σ' h0 69).toInt = (sI σ h0 69).toInt ∧ (∀ v : Int, 0 ≤ v → oc L σ' v ≤ oc L σ v + 1) ∧ (r.toInt = 259 → GI h0 L B σ' ∧ ∀ v : Int, 0 ≤ v → oc L σ' v ≤ oc L σ v)))) → post r σ') : F_X12_create h0 L a1 post σ := by
  unfold F_X12_create
  have k_m1 : ((-1) : Int32).toInt = (-1) := rfl
  have k_0 : (0 : Int32).toInt = 0 := rfl
  have k_1 : (1 : Int32).toInt = 1 := rfl
  have k_2 : (2 : Int32).toInt = 2 := rfl
  have k_3 : (3 : Int32).toInt = 3 := rfl
  have k_4 : (4 : Int32).toInt = 4 := rfl
  have k_6 : (6 : Int32).toInt = 6 := rfl
  have k_8 : (8 : Int32).toInt = 8 := rfl
  have k_9 : (9 : Int32).toInt = 9 := rfl
  have k_32 : (32 : Int32).toInt = 32 := rfl
  have k_39 : (39 : Int32).toInt = 39 := rfl
  have k_40 : (40 : Int32).toInt = 40 := rfl
  have k_64 : (64 : Int32).toInt = 64 := rfl
  have k_66 : (66 : Int32).toInt = 66 := rfl
  have k_67 : (67 : Int32).toInt = 67 := rfl
  have k_68 : (68 : Int32).toInt = 68 := rfl
  have k_72 : (72 : Int32).toInt = 72 := rfl
  have k_80 : (80 : Int32).toInt = 80 := rfl
  have k_88 : (88 : Int32).toInt = 88 := rfl
  have k_92 : (92 : Int32).toInt = 92 := rfl
  have k_96 : (96 : Int32).toInt = 96 := rfl
  have k_100 : (100 : Int32).toInt = 100 := rfl
  have k_104 : (104 : Int32).toInt = 104 := rfl
  have k_108 : (108 : Int32).toInt = 108 := rfl
  have k_110 : (110 : Int32).toInt = 110 := rfl
  have k_112 : (112 : Int32).toInt = 112 := rfl
  have k_120 : (120 : Int32).toInt = 120 := rfl
  have k_128 : (128 : Int32).toInt = 128 := rfl
  have k_136 : (136 : Int32).toInt = 136 := rfl
  have k_4096 : (4096 : Int32).toInt = 4096 := rfl
  have k_65536 : (65536 : Int32).toInt = 65536 := rfl
  have kl_0 : (0 : Int64).toInt = 0 := rfl
  have kl_1 : (1 : Int64).toInt = 1 := rfl
  have kl_4 : (4 : Int64).toInt = 4 := rfl
  have kl_5 : (5 : Int64).toInt = 5 := rfl
  have kl_7 : (7 : Int64).toInt = 7 := rfl
  have kl_64 : (64 : Int64).toInt = 64 := rfl
  have kl_89 : (89 : Int64).toInt = 89 := rfl
  have kl_4096 : (4096 : Int64).toInt = 4096 := rfl
  have kl_3221225485 : (3221225485 : Int64).toInt = 3221225485 := rfl
  have kl_3221225506 : (3221225506 : Int64).toInt = 3221225506 := rfl
  have kl_3221225523 : (3221225523 : Int64).toInt = 3221225523 := rfl
  have kl_3221225524 : (3221225524 : Int64).toInt = 3221225524 := rfl
  have kl_3221225530 : (3221225530 : Int64).toInt = 3221225530 := rfl
  have kl_3221225599 : (3221225599 : Int64).toInt = 3221225599 := rfl
  have kl_3221225626 : (3221225626 : Int64).toInt = 3221225626 := rfl
  have rg_a1 := i_range a1
  have hfr : Fr h0 L [16, 61, 62, 69, 91, 109, 111, 115, 116, 117] [1, 2, 3, 4, 5, 6, 7, 8, 9, 10, 14, 15, 16, 17, 18, 19, 20, 21, 22, 23, 27, 28, 41, 42, 43, 44, 45, 46, 47, 48, 49, 50, 51, 53, 61, 62, 63, 64, 65, 66, 67, 68, 69, 70, 74, 75, 76, 77, 78, 79] σ σ := Fr.rf
  have h87 : (0 : Int) ≤ (sI σ h0 87).toInt ∧ (sI σ h0 87).toInt ≤ 4000 := hI.fI 87 0 4000 (by decide) rfl rfl rfl rfl
  refine s_X12_number hI 96 4 (by omega) ((hN.fr hfr (by decide) (by decide)).le (by omega)) (fun z2 pz2 => ?_)
  have tz2 : z2.toInt = (NUM h0 L σ 96 4 : Int) ∧ z2.toInt < 4294967296 := num_t (n := 4) (K := 4294967296) pz2 rfl (by decide)
  refine s_X12_number hI 100 4 (by omega) ((hN.fr hfr (by decide) (by decide)).le (by omega)) (fun z4 pz4 => ?_)
  have tz4 : z4.toInt = (NUM h0 L σ 100 4 : Int) ∧ z4.toInt < 4294967296 := num_t (n := 4) (K := 4294967296) pz4 rfl (by decide)
  refine s_X12_number hI 104 4 (by omega) ((hN.fr hfr (by decide) (by decide)).le (by omega)) (fun z6 pz6 => ?_)
  have tz6 : z6.toInt = (NUM h0 L σ 104 4 : Int) ∧ z6.toInt < 4294967296 := num_t (n := 4) (K := 4294967296) pz6 rfl (by decide)
  intro z7 ez7
  try have hz7 := l_and ez7 (by omega)
  have rg_z7 := l_range z7
  refine jn_in (fun (x : Int32) (σ' : HS) => σ = σ' ∧ ((0 ≤ x.toInt ∧ x.toInt ≤ 1))) (fun x8 σ9 hJ => ?_) (fun K10 hK10 => ?_)
  · obtain ⟨hsg, hv⟩ := hJ
    subst hsg
    (try dsimp only at hv)
    have rg_x8 := i_range x8
    intro z13 ez13
    try have hz13 := l_and ez13 (by omega)
    have rg_z13 := l_range z13
    refine jn_in (fun (x : Int32) (σ' : HS) => σ = σ' ∧ ((0 ≤ x.toInt ∧ x.toInt ≤ 1))) (fun x14 σ15 hJ => ?_) (fun K16 hK16 => ?_)
    · obtain ⟨hsg, hv⟩ := hJ
      subst hsg
      (try dsimp only at hv)
      have rg_x14 := i_range x14
      intro z19 ez19
      try have hz19 := l_and ez19 (by omega)
      have rg_z19 := l_range z19
      refine jn_in (fun (x : Int32) (σ' : HS) => σ = σ' ∧ ((0 ≤ x.toInt ∧ x.toInt ≤ 1))) (fun x20 σ21 hJ => ?_) (fun K22 hK22 => ?_)
      · obtain ⟨hsg, hv⟩ := hJ
        subst hsg
        (try dsimp only at hv)
        have rg_x20 := i_range x20
        refine jn_in (fun (x : Int32) (σ' : HS) => σ = σ' ∧ ((0 ≤ x.toInt ∧ x.toInt ≤ 1))) (fun x25 σ26 hJ => ?_) (fun K27 hK27 => ?_)
        · obtain ⟨hsg, hv⟩ := hJ
          subst hsg
          (try dsimp only at hv)
          have rg_x25 := i_range x25
          refine jn_dup ?_
          refine ⟨fun c1 => ?_, fun c1 => ?_⟩
          · (try dsimp only)
            exact kk 3221225485 σ hI hfr ⟨hG.mono (by omega), fun _ => ⟨by omega, (fun v _ => by omega), fun h => by exfalso; omega⟩⟩
          · refine ⟨fun c2 => ?_, fun c2 => ?_⟩
            · (try dsimp only)
              exact kk 3221225485 σ hI hfr ⟨hG.mono (by omega), fun _ => ⟨by omega, (fun v _ => by omega), fun h => by exfalso; omega⟩⟩
            · refine jn_in (fun (x : Unit) (σ' : HS) => σ = σ' ∧ (True)) (fun x35 σ36 hJ => ?_) (fun K37 hK37 => ?_)
              · obtain ⟨hsg, hv⟩ := hJ
                subst hsg
                (try dsimp only at hv)
                refine s_X12_number hI 88 4 (by omega) ((hN.fr hfr (by decide) (by decide)).le (by omega)) (fun z41 pz41 => ?_)
                have tz41 : z41.toInt = (NUM h0 L σ 88 4 : Int) ∧ z41.toInt < 4294967296 := num_t (n := 4) (K := 4294967296) pz41 rfl (by decide)
                refine s_X12_meant hI z41  (fun z43 pz43 => ?_)
                have rg_z43 := i_range z43
                refine jn_dup ?_
                refine ⟨fun c3 => ?_, fun c3 => ?_⟩
                · (try dsimp only)
                  exact kk 3221225506 σ hI hfr ⟨hG.mono (by omega), fun _ => ⟨by omega, (fun v _ => by omega), fun h => by exfalso; omega⟩⟩
                · refine jn_in (fun (x : Unit) (σ' : HS) => σ = σ' ∧ (True)) (fun x49 σ50 hJ => ?_) (fun K51 hK51 => ?_)
                  · obtain ⟨hsg, hv⟩ := hJ
                    subst hsg
                    (try dsimp only at hv)
                    refine s_X12_number2 hI 108 (by omega) ((hN.fr hfr (by decide) (by decide)).le (by omega)) (fun z55 pz55 => ?_)
                    have tz55 : z55.toInt = (NUM h0 L σ 108 2 : Int) := pz55.1
                    have rg_z55 := i_range z55
                    refine s_X12_number2 hI 110 (by omega) ((hN.fr hfr (by decide) (by decide)).le (by omega)) (fun z57 pz57 => ?_)
                    have tz57 : z57.toInt = (NUM h0 L σ 110 2 : Int) := pz57.1
                    have rg_z57 := i_range z57
                    intro z58 ez58
                    have hz58 := i_tol ez58
                    have rg_z58 := l_range z58
                    have hIp := hI
                    refine s_X12_readPath hI z55 z58 hN (by omega) (fun z60 σ59 hI fz60 pz60 => ?_)
                    have hfr := hfr.tr fz60 (by decide) (by decide)
                    have tk1 : (sI σ59 h0 69).toInt = (sI σ h0 69).toInt := by rw [(fz60.1 69 (by decide)).1]
                    have tk2 : (sJ σ59 h0 61).toInt = (sJ σ h0 61).toInt := by rw [(fz60.1 61 (by decide)).2.1]
                    have tk3 : (sI σ59 h0 16).toInt = (sI σ h0 16).toInt := by rw [(fz60.1 16 (by decide)).1]
                    have rg_z60 := i_range z60
                    have hG := hG.fr fz60 (by decide) (by decide)
                    refine ⟨fun c4 => ?_, fun c4 => ?_⟩
                    · have hP : PTs h0 L σ59 := pz60.2 (by omega)
                      intro z61 ez61
                      have vz61 := hI.fI 99 (-1) 15 (by decide) rfl rfl rfl ez61
                      have wz61 : z61.toInt = (sI σ h0 99).toInt := by rw [ez61, (hfr.1 99 (by decide)).1]
                      refine ⟨by omega, ?_⟩
                      intro z62 ez62
                      have vz62 := hI.aI 40 16 0 3 (by decide) (by decide) rfl rfl rfl (i := z61.toInt) (by omega) ez62
                      have wz62 : z62.toInt = (sI σ (L 40) z61.toInt.toNat).toInt := by rw [ez62, (hfr.2.1 40 (by decide) (by decide) _).1]
                      refine ⟨by omega, ?_⟩
                      intro z63 ez63
                      have vz63 := hI.aI 11 4 (-1) 79 (by decide) (by decide) rfl rfl rfl (i := z62.toInt) (by omega) ez63
                      have wz63 : z63.toInt = (sI σ (L 11) z62.toInt.toNat).toInt := by rw [ez63, (hfr.2.1 11 (by decide) (by decide) _).1]
                      have hIp := hI
                      have hT2 := hT
                      unfold rts at hT2
                      rw [← wz61, ← wz62, ← wz63] at hT2
                      have rt_ := hG.root hI (s := z62.toInt.toNat) (by omega) (by show 0 ≤ (sI σ59 (L 11) z62.toInt.toNat).toInt; rw [← ez63]; exact hT2)
                      unfold rts at rt_
                      rw [← ez63] at rt_
                      refine s2_X12_goes hI z63 hP (by omega) (fun z65 σ64 hI fz65 pz65 => ?_)
                      have hfr := hfr.tr fz65 (by decide) (by decide)
                      have tk4 : (sI σ64 h0 69).toInt = (sI σ59 h0 69).toInt := by rw [(fz65.1 69 (by decide)).1]
                      have tk5 : (sJ σ64 h0 61).toInt = (sJ σ59 h0 61).toInt := by rw [(fz65.1 61 (by decide)).2.1]
                      have tk6 : (sI σ64 h0 16).toInt = (sI σ59 h0 16).toInt := by rw [(fz65.1 16 (by decide)).1]
                      have rg_z65 := i_range z65
                      have fq : Fr h0 L [115, 116, 117] [77, 78, 79] σ σ64 := (Fr.rf.tr fz60 (by decide) (by decide)).tr fz65 (by decide) (by decide)
                      have hP := PTs.fr hP fz65 (by decide) (by decide) (by decide)
                      have hG := hG.fr fz65 (by decide) (by decide)
                      refine ⟨fun c5 => ?_, fun c5 => ?_⟩
                      · have gq := pz65.2 (by omega)
                        have t115 := congrArg Int32.toInt (fz65.1 115 (by decide)).1
                        rw [← sI_ff fz65 (j := 1) (by decide) (by decide), ← sI_ff fz65 (j := 2) (by decide) (by decide), ← sI_ff fz65 (j := 3) (by decide) (by decide)] at gq
                        rw [← sI_ff fz65 (j := 1) (by decide) (by decide), ← sI_ff fz65 (j := 2) (by decide) (by decide)] at rt_
                        refine s_X12_number1 hI 67 (by omega) ((hN.fr hfr (by decide) (by decide)).le (by omega)) (fun z67 pz67 => ?_)
                        have rg_z67 := i_range z67
                        refine jn_in (fun (x : Int32) (σ' : HS) => σ64 = σ' ∧ ((0 ≤ x.toInt ∧ x.toInt ≤ 9))) (fun x68 σ69 hJ => ?_) (fun K70 hK70 => ?_)
                        · obtain ⟨hsg, hv⟩ := hJ
                          subst hsg
                          (try dsimp only at hv)
                          have rg_x68 := i_range x68
                          refine s_X12_number hI 92 4 (by omega) ((hN.fr hfr (by decide) (by decide)).le (by omega)) (fun z74 pz74 => ?_)
                          have tz74 : z74.toInt = (NUM h0 L σ64 92 4 : Int) ∧ z74.toInt < 4294967296 := num_t (n := 4) (K := 4294967296) pz74 rfl (by decide)
                          intro z75 ez75
                          try have hz75 := l_toi ez75 (by omega) (by omega)
                          have rg_z75 := i_range z75
                          intro z76 ez76
                          try have hz76 := i_and ez76 (by omega)
                          have rg_z76 := i_range z76
                          intro z77 ez77
                          try have hz77 := i_orm ez77 (by omega) (by omega)
                          try have h2z77 := i_or ez77 (by omega) (by omega)
                          have rg_z77 := i_range z77
                          intro z78 ez78
                          have vz78 := hI.fI 117 (-1) 79 (by decide) rfl rfl rfl ez78
                          have wz78 : z78.toInt = (sI σ64 h0 117).toInt := by rw [ez78]
                          rw [← wz78] at gq
                          refine jn_in (fun (x : Int32) (σ' : HS) => σ64 = σ' ∧ ((0 ≤ x.toInt ∧ x.toInt ≤ 3))) (fun x79 σ80 hJ => ?_) (fun K81 hK81 => ?_)
                          · obtain ⟨hsg, hv⟩ := hJ
                            subst hsg
                            (try dsimp only at hv)
                            have rg_x79 := i_range x79
                            refine jn_in (fun (x : Int32 × Int32) (σ' : HS) => OKM h0 L σ' ∧ Fr h0 L [16, 61, 62, 69, 91, 109, 111, 115, 116, 117] [1, 2, 3, 4, 5, 6, 7, 8, 9, 10, 14, 15, 16, 17, 18, 19, 20, 21, 22, 23, 27, 28, 41, 42, 43, 44, 45, 46, 47, 48, 49, 50, 51, 53, 61, 62, 63, 64, 65, 66, 67, 68, 69, 70, 74, 75, 76, 77, 78, 79] σ σ' ∧ ((0 ≤ x.1.toInt ∧ x.1.toInt ≤ 3) ∧ (0 ≤ x.2.toInt ∧ x.2.toInt ≤ 79) ∧ ((sI σ' (L 1) x.2.toInt.toNat).toInt = 1) ∧ (x20.toInt = 0 ∨ 0 ≤ (sI σ' (L 2) x.2.toInt.toNat).toInt) ∧ ((sI σ' h0 69).toInt = (sI σ h0 69).toInt) ∧ ((sJ σ' h0 61).toInt = (sJ σ h0 61).toInt)) ∧ (sJ σ' (L 41) = sJ σ (L 41)) ∧ (¬ ∀ o : Nat, o < 40 → 0 < (sJ σ (L 41) o).toInt) ∧ (GI h0 L B σ')) (fun x84 σ85 hJ => ?_) (fun K86 hK86 => ?_)
                            · obtain ⟨hI, hfr, hv, hj, hvac, hG⟩ := hJ
                              (try dsimp only at hv)
                              have rg_x84_1 := i_range x84.1
                              have rg_x84_2 := i_range x84.2
                              refine s_X12_granted hI x84.2 x68 (by omega) (fun z90 pz90 => ?_)
                              have rg_z90 := i_range z90
                              refine s_X12_vacant hI 41 40 (by decide) rfl rfl (by decide)  (fun z92 pz92 => ?_)
                              have rg_z92 := i_range z92
                              have sg_ := hG.2.2.2.2.2
                              have h69 := hI.fI 69 0 16 (by decide) rfl rfl rfl rfl
                              have hG85 := hG
                              have vz_ : z92.toInt < 40 := by have q : z92.toInt ≠ 40 := fun e => hvac (fun o ho => by rw [← hj]; exact pz92.2.1 (by omega) o ho); omega
                              intro z93 ez93
                              have wz93 : z93.toInt = (sJ σ85 h0 61).toInt := by rw [ez93]
                              have vz93 := l_range z93
                              intro z94 ez94
                              try have hz94 := l_add ez94 (by omega) (by omega)
                              have rg_z94 := l_range z94
                              intro σ95 eσ95
                              have hMp := hI.2
                              have hI := hI.pJ eσ95
                              have hfr := hfr.fJ hMp eσ95 (by decide) rfl
                              have f1σ95 : Fr h0 L [61] [] σ85 σ95 := Fr.rf.fJ hMp eσ95 (by decide) rfl
                              have tk7 : (sI σ95 h0 69).toInt = (sI σ85 h0 69).toInt := by rw [(f1σ95.1 69 (by decide)).1]
                              have tk9 : (sI σ95 h0 16).toInt = (sI σ85 h0 16).toInt := by rw [(f1σ95.1 16 (by decide)).1]
                              have uσ95 : (sJ σ95 h0 61).toInt = z94.toInt := by rw [eσ95]; exact congrArg Int64.toInt u2_same
                              intro z96 ez96
                              have wz96 : z96.toInt = (sJ σ95 h0 61).toInt := by rw [ez96]
                              have vz96 := l_range z96
                              refine ⟨by omega, ?_⟩
                              intro σ97 eσ97
                              have hMp := hI.2
                              have hI := hI.pJ eσ97
                              have hfr := hfr.aJ hMp (by decide) eσ97 (by decide)
                              have f1σ97 : Fr h0 L [] [41] σ95 σ97 := Fr.rf.aJ hMp (by decide) eσ97 (by decide)
                              have tk10 : (sI σ97 h0 69).toInt = (sI σ95 h0 69).toInt := by rw [(f1σ97.1 69 (by decide)).1]
                              have tk11 : (sJ σ97 h0 61).toInt = (sJ σ95 h0 61).toInt := by rw [(f1σ97.1 61 (by decide)).2.1]
                              have tk12 : (sI σ97 h0 16).toInt = (sI σ95 h0 16).toInt := by rw [(f1σ97.1 16 (by decide)).1]
                              intro z98 ez98
                              have vz98 := hI.fI 99 (-1) 15 (by decide) rfl rfl rfl ez98
                              have wz98 : z98.toInt = (sI σ h0 99).toInt := by rw [ez98, (hfr.1 99 (by decide)).1]
                              refine ⟨by omega, ?_⟩
                              intro σ99 eσ99
                              have hMp := hI.2
                              have hI := hI.pA 42 0 15 (by decide) (by decide) rfl rfl (by omega) eσ99
                              have hfr := hfr.aI hMp (by decide) eσ99 (by decide)
                              have f1σ99 : Fr h0 L [] [42] σ97 σ99 := Fr.rf.aI hMp (by decide) eσ99 (by decide)
                              have tk13 : (sI σ99 h0 69).toInt = (sI σ97 h0 69).toInt := by rw [(f1σ99.1 69 (by decide)).1]
                              have tk14 : (sJ σ99 h0 61).toInt = (sJ σ97 h0 61).toInt := by rw [(f1σ99.1 61 (by decide)).2.1]
                              have tk15 : (sI σ99 h0 16).toInt = (sI σ97 h0 16).toInt := by rw [(f1σ99.1 16 (by decide)).1]
                              refine ⟨by omega, ?_⟩
                              intro σ100 eσ100
                              have hMp := hI.2
                              have hI := hI.pA 43 0 79 (by decide) (by decide) rfl rfl (by omega) eσ100
                              have hfr := hfr.aI hMp (by decide) eσ100 (by decide)
                              have f1σ100 : Fr h0 L [] [43] σ99 σ100 := Fr.rf.aI hMp (by decide) eσ100 (by decide)
                              have tk16 : (sI σ100 h0 69).toInt = (sI σ99 h0 69).toInt := by rw [(f1σ100.1 69 (by decide)).1]
                              have tk17 : (sJ σ100 h0 61).toInt = (sJ σ99 h0 61).toInt := by rw [(f1σ100.1 61 (by decide)).2.1]
                              have tk18 : (sI σ100 h0 16).toInt = (sI σ99 h0 16).toInt := by rw [(f1σ100.1 16 (by decide)).1]
                              refine ⟨by omega, ?_⟩
                              intro σ101 eσ101
                              have hMp := hI.2
                              have hI := hI.pA 44 (-2147483648) 2147483647 (by decide) (by decide) rfl rfl (by omega) eσ101
                              have hfr := hfr.aI hMp (by decide) eσ101 (by decide)
                              have f1σ101 : Fr h0 L [] [44] σ100 σ101 := Fr.rf.aI hMp (by decide) eσ101 (by decide)
                              have tk19 : (sI σ101 h0 69).toInt = (sI σ100 h0 69).toInt := by rw [(f1σ101.1 69 (by decide)).1]
                              have tk20 : (sJ σ101 h0 61).toInt = (sJ σ100 h0 61).toInt := by rw [(f1σ101.1 61 (by decide)).2.1]
                              have tk21 : (sI σ101 h0 16).toInt = (sI σ100 h0 16).toInt := by rw [(f1σ101.1 16 (by decide)).1]
                              intro z102 ez102
                              try have hz102 := l_toi ez102 (by omega) (by omega)
                              have rg_z102 := i_range z102
                              refine ⟨by omega, ?_⟩
                              intro σ103 eσ103
                              have hMp := hI.2
                              have hI := hI.pA 45 0 7 (by decide) (by decide) rfl rfl (by omega) eσ103
                              have hfr := hfr.aI hMp (by decide) eσ103 (by decide)
                              have f1σ103 : Fr h0 L [] [45] σ101 σ103 := Fr.rf.aI hMp (by decide) eσ103 (by decide)
                              have tk22 : (sI σ103 h0 69).toInt = (sI σ101 h0 69).toInt := by rw [(f1σ103.1 69 (by decide)).1]
                              have tk23 : (sJ σ103 h0 61).toInt = (sJ σ101 h0 61).toInt := by rw [(f1σ103.1 61 (by decide)).2.1]
                              have tk24 : (sI σ103 h0 16).toInt = (sI σ101 h0 16).toInt := by rw [(f1σ103.1 16 (by decide)).1]
                              refine ⟨by omega, ?_⟩
                              intro σ104 eσ104
                              have hMp := hI.2
                              have hI := hI.pA 46 0 255 (by decide) (by decide) rfl rfl (by omega) eσ104
                              have hfr := hfr.aI hMp (by decide) eσ104 (by decide)
                              have f1σ104 : Fr h0 L [] [46] σ103 σ104 := Fr.rf.aI hMp (by decide) eσ104 (by decide)
                              have tk25 : (sI σ104 h0 69).toInt = (sI σ103 h0 69).toInt := by rw [(f1σ104.1 69 (by decide)).1]
                              have tk26 : (sJ σ104 h0 61).toInt = (sJ σ103 h0 61).toInt := by rw [(f1σ104.1 61 (by decide)).2.1]
                              have tk27 : (sI σ104 h0 16).toInt = (sI σ103 h0 16).toInt := by rw [(f1σ104.1 16 (by decide)).1]
                              refine ⟨by omega, ?_⟩
                              intro σ105 eσ105
                              have hMp := hI.2
                              have hI := hI.pA 47 0 1 (by decide) (by decide) rfl rfl (i_bool _) eσ105
                              have hfr := hfr.aI hMp (by decide) eσ105 (by decide)
                              have f1σ105 : Fr h0 L [] [47] σ104 σ105 := Fr.rf.aI hMp (by decide) eσ105 (by decide)
                              have tk28 : (sI σ105 h0 69).toInt = (sI σ104 h0 69).toInt := by rw [(f1σ105.1 69 (by decide)).1]
                              have tk29 : (sJ σ105 h0 61).toInt = (sJ σ104 h0 61).toInt := by rw [(f1σ105.1 61 (by decide)).2.1]
                              have tk30 : (sI σ105 h0 16).toInt = (sI σ104 h0 16).toInt := by rw [(f1σ105.1 16 (by decide)).1]
                              refine ⟨by omega, ?_⟩
                              intro σ106 eσ106
                              have hMp := hI.2
                              have hI := hI.pA 50 0 1 (by decide) (by decide) rfl rfl (i_bool _) eσ106
                              have hfr := hfr.aI hMp (by decide) eσ106 (by decide)
                              have f1σ106 : Fr h0 L [] [50] σ105 σ106 := Fr.rf.aI hMp (by decide) eσ106 (by decide)
                              have tk31 : (sI σ106 h0 69).toInt = (sI σ105 h0 69).toInt := by rw [(f1σ106.1 69 (by decide)).1]
                              have tk32 : (sJ σ106 h0 61).toInt = (sJ σ105 h0 61).toInt := by rw [(f1σ106.1 61 (by decide)).2.1]
                              have tk33 : (sI σ106 h0 16).toInt = (sI σ105 h0 16).toInt := by rw [(f1σ106.1 16 (by decide)).1]
                              refine ⟨by omega, ?_⟩
                              intro σ107 eσ107
                              have hMp := hI.2
                              have hI := hI.pA 51 (-1) 20 (by decide) (by decide) rfl rfl (by omega) eσ107
                              have hfr := hfr.aI hMp (by decide) eσ107 (by decide)
                              have f1σ107 : Fr h0 L [] [51] σ106 σ107 := Fr.rf.aI hMp (by decide) eσ107 (by decide)
                              have tk34 : (sI σ107 h0 69).toInt = (sI σ106 h0 69).toInt := by rw [(f1σ107.1 69 (by decide)).1]
                              have tk35 : (sJ σ107 h0 61).toInt = (sJ σ106 h0 61).toInt := by rw [(f1σ107.1 61 (by decide)).2.1]
                              have tk36 : (sI σ107 h0 16).toInt = (sI σ106 h0 16).toInt := by rw [(f1σ107.1 16 (by decide)).1]
                              refine ⟨by omega, ?_⟩
                              intro σ108 eσ108
                              have hMp := hI.2
                              have hI := hI.pA 53 0 3 (by decide) (by decide) rfl rfl (by omega) eσ108
                              have hfr := hfr.aI hMp (by decide) eσ108 (by decide)
                              have f1σ108 : Fr h0 L [] [53] σ107 σ108 := Fr.rf.aI hMp (by decide) eσ108 (by decide)
                              have tk37 : (sI σ108 h0 69).toInt = (sI σ107 h0 69).toInt := by rw [(f1σ108.1 69 (by decide)).1]
                              have tk38 : (sJ σ108 h0 61).toInt = (sJ σ107 h0 61).toInt := by rw [(f1σ108.1 61 (by decide)).2.1]
                              have tk39 : (sI σ108 h0 16).toInt = (sI σ107 h0 16).toInt := by rw [(f1σ108.1 16 (by decide)).1]
                              intro z109 ez109
                              have wz109 : z109.toInt = (sJ σ108 h0 61).toInt := by rw [ez109]
                              have vz109 := l_range z109
                              intro σ110 eσ110
                              have hMp := hI.2
                              have hI := hI.pJ eσ110
                              have hfr := hfr.fJ hMp eσ110 (by decide) rfl
                              have f1σ110 : Fr h0 L [111] [] σ108 σ110 := Fr.rf.fJ hMp eσ110 (by decide) rfl
                              have tk40 : (sI σ110 h0 69).toInt = (sI σ108 h0 69).toInt := by rw [(f1σ110.1 69 (by decide)).1]
                              have tk41 : (sJ σ110 h0 61).toInt = (sJ σ108 h0 61).toInt := by rw [(f1σ110.1 61 (by decide)).2.1]
                              have tk42 : (sI σ110 h0 16).toInt = (sI σ108 h0 16).toInt := by rw [(f1σ110.1 16 (by decide)).1]
                              have fO : Fr h0 L [61, 111] [41, 42, 43, 44, 45, 46, 47, 50, 51, 53] σ85 σ110 := ((((((((((((Fr.rf.tr f1σ95 (by decide) (by decide)).tr f1σ97 (by decide) (by decide)).tr f1σ99 (by decide) (by decide)).tr f1σ100 (by decide) (by decide)).tr f1σ101 (by decide) (by decide)).tr f1σ103 (by decide) (by decide)).tr f1σ104 (by decide) (by decide)).tr f1σ105 (by decide) (by decide)).tr f1σ106 (by decide) (by decide)).tr f1σ107 (by decide) (by decide)).tr f1σ108 (by decide) (by decide)).tr f1σ110 (by decide) (by decide))
                              have e61 : (sJ σ110 h0 61).toInt = (sJ σ85 h0 61).toInt + 1 := by omega
                              have e61b : (sJ σ110 h0 61).toInt = z96.toInt := by omega
                              have h41 : ∀ i : Nat, (i = z92.toInt.toNat ∧ (sJ σ110 (L 41) i).toInt = z96.toInt) ∨ (i ≠ z92.toInt.toNat ∧ (sJ σ110 (L 41) i).toInt = (sJ σ85 (L 41) i).toInt) := fun i => by clear hv hI hfr; have tt_ := congrArg Int64.toInt (f1σ95.2.1 41 (by decide) (by decide) i).2; have tt_ := atJ eσ97 i; have tt_ := congrArg Int64.toInt (f1σ99.2.1 41 (by decide) (by decide) i).2; have tt_ := congrArg Int64.toInt (f1σ100.2.1 41 (by decide) (by decide) i).2; have tt_ := congrArg Int64.toInt (f1σ101.2.1 41 (by decide) (by decide) i).2; have tt_ := congrArg Int64.toInt (f1σ103.2.1 41 (by decide) (by decide) i).2; have tt_ := congrArg Int64.toInt (f1σ104.2.1 41 (by decide) (by decide) i).2; have tt_ := congrArg Int64.toInt (f1σ105.2.1 41 (by decide) (by decide) i).2; have tt_ := congrArg Int64.toInt (f1σ106.2.1 41 (by decide) (by decide) i).2; have tt_ := congrArg Int64.toInt (f1σ107.2.1 41 (by decide) (by decide) i).2; have tt_ := congrArg Int64.toInt (f1σ108.2.1 41 (by decide) (by decide) i).2; have tt_ := congrArg Int64.toInt (f1σ110.2.1 41 (by decide) (by decide) i).2; omega
                              have h43 : ∀ i : Nat, (i = z92.toInt.toNat ∧ (sI σ110 (L 43) i).toInt = x84.2.toInt) ∨ (i ≠ z92.toInt.toNat ∧ (sI σ110 (L 43) i).toInt = (sI σ85 (L 43) i).toInt) := fun i => by have tt_ := congrArg Int32.toInt (f1σ95.2.1 43 (by decide) (by decide) i).1; have tt_ := congrArg Int32.toInt (f1σ97.2.1 43 (by decide) (by decide) i).1; have tt_ := congrArg Int32.toInt (f1σ99.2.1 43 (by decide) (by decide) i).1; have tt_ := atI eσ100 i; have tt_ := congrArg Int32.toInt (f1σ101.2.1 43 (by decide) (by decide) i).1; have tt_ := congrArg Int32.toInt (f1σ103.2.1 43 (by decide) (by decide) i).1; have tt_ := congrArg Int32.toInt (f1σ104.2.1 43 (by decide) (by decide) i).1; have tt_ := congrArg Int32.toInt (f1σ105.2.1 43 (by decide) (by decide) i).1; have tt_ := congrArg Int32.toInt (f1σ106.2.1 43 (by decide) (by decide) i).1; have tt_ := congrArg Int32.toInt (f1σ107.2.1 43 (by decide) (by decide) i).1; have tt_ := congrArg Int32.toInt (f1σ108.2.1 43 (by decide) (by decide) i).1; have tt_ := congrArg Int32.toInt (f1σ110.2.1 43 (by decide) (by decide) i).1; omega
                              have h50 : ∀ i : Nat, (i = z92.toInt.toNat ∧ (sI σ110 (L 50) i).toInt = (vp_nar .boolean x20).toInt) ∨ (i ≠ z92.toInt.toNat ∧ (sI σ110 (L 50) i).toInt = (sI σ85 (L 50) i).toInt) := fun i => by have tt_ := congrArg Int32.toInt (f1σ95.2.1 50 (by decide) (by decide) i).1; have tt_ := congrArg Int32.toInt (f1σ97.2.1 50 (by decide) (by decide) i).1; have tt_ := congrArg Int32.toInt (f1σ99.2.1 50 (by decide) (by decide) i).1; have tt_ := congrArg Int32.toInt (f1σ100.2.1 50 (by decide) (by decide) i).1; have tt_ := congrArg Int32.toInt (f1σ101.2.1 50 (by decide) (by decide) i).1; have tt_ := congrArg Int32.toInt (f1σ103.2.1 50 (by decide) (by decide) i).1; have tt_ := congrArg Int32.toInt (f1σ104.2.1 50 (by decide) (by decide) i).1; have tt_ := congrArg Int32.toInt (f1σ105.2.1 50 (by decide) (by decide) i).1; have tt_ := atI eσ106 i; have tt_ := congrArg Int32.toInt (f1σ107.2.1 50 (by decide) (by decide) i).1; have tt_ := congrArg Int32.toInt (f1σ108.2.1 50 (by decide) (by decide) i).1; have tt_ := congrArg Int32.toInt (f1σ110.2.1 50 (by decide) (by decide) i).1; omega
                              have nb_ : (vp_nar .boolean x20).toInt = x20.toInt := by rw [nar_bool (by omega)]
                              have hG := hG85.opn (o := z92.toInt.toNat) (n := x84.2.toInt.toNat) fO (by decide) (by decide) e61 (fun i => by rcases h41 i with ⟨a, b⟩ | ⟨a, b⟩; (have q1 := h43 i; have q2 := h50 i; exact Or.inl ⟨a, by omega, by omega, by omega⟩); (have q1 := h43 i; have q2 := h50 i; exact Or.inr ⟨a, by omega, by omega, by omega⟩)) (by omega)
                              have c110 : ∀ v : Int, oc L σ110 v ≤ oc L σ85 v + 1 := fun v => oc_one z92.toInt.toNat (fun o ho => by have q := h41 o; omega) v
                              have c85 : ∀ v : Int, oc L σ85 v = oc L σ v := fun v => by unfold oc; rw [hj]
                              have hIp := hI
                              refine s_X12_body hI 88 (by omega) (fun σ111 hI fz112 pz112 => ?_)
                              have hfr := hfr.tr fz112 (by decide) (by decide)
                              have tk43 : (sI σ111 h0 69).toInt = (sI σ110 h0 69).toInt := by rw [(fz112.1 69 (by decide)).1]
                              have tk44 : (sJ σ111 h0 61).toInt = (sJ σ110 h0 61).toInt := by rw [(fz112.1 61 (by decide)).2.1]
                              have tk45 : (sI σ111 h0 16).toInt = (sI σ110 h0 16).toInt := by rw [(fz112.1 16 (by decide)).1]
                              have hG := hG.fr fz112 (by decide) (by decide)
                              have hIp := hI
                              refine s_X12_set hI 64 2 89 (by omega) (fun σ113 hI fz114 pz114 => ?_)
                              have hfr := hfr.tr fz114 (by decide) (by decide)
                              have tk46 : (sI σ113 h0 69).toInt = (sI σ111 h0 69).toInt := by rw [(fz114.1 69 (by decide)).1]
                              have tk47 : (sJ σ113 h0 61).toInt = (sJ σ111 h0 61).toInt := by rw [(fz114.1 61 (by decide)).2.1]
                              have tk48 : (sI σ113 h0 16).toInt = (sI σ111 h0 16).toInt := by rw [(fz114.1 16 (by decide)).1]
                              have hG := hG.fr fz114 (by decide) (by decide)
                              intro z115 ez115
                              have hz115 := i_tol ez115
                              have rg_z115 := l_range z115
                              have hIp := hI
                              refine s_X12_set hI 66 1 z115 (by omega) (fun σ116 hI fz117 pz117 => ?_)
                              have hfr := hfr.tr fz117 (by decide) (by decide)
                              have tk49 : (sI σ116 h0 69).toInt = (sI σ113 h0 69).toInt := by rw [(fz117.1 69 (by decide)).1]
                              have tk50 : (sJ σ116 h0 61).toInt = (sJ σ113 h0 61).toInt := by rw [(fz117.1 61 (by decide)).2.1]
                              have tk51 : (sI σ116 h0 16).toInt = (sI σ113 h0 16).toInt := by rw [(fz117.1 16 (by decide)).1]
                              have hG := hG.fr fz117 (by decide) (by decide)
                              intro z118 ez118
                              have hz118 := i_tol ez118
                              have rg_z118 := l_range z118
                              have hIp := hI
                              refine s_X12_set hI 68 4 z118 (by omega) (fun σ119 hI fz120 pz120 => ?_)
                              have hfr := hfr.tr fz120 (by decide) (by decide)
                              have tk52 : (sI σ119 h0 69).toInt = (sI σ116 h0 69).toInt := by rw [(fz120.1 69 (by decide)).1]
                              have tk53 : (sJ σ119 h0 61).toInt = (sJ σ116 h0 61).toInt := by rw [(fz120.1 61 (by decide)).2.1]
                              have tk54 : (sI σ119 h0 16).toInt = (sI σ116 h0 16).toInt := by rw [(fz120.1 16 (by decide)).1]
                              have hG := hG.fr fz120 (by decide) (by decide)
                              have hIp := hI
                              refine s_X12_setTimes hI 72 x84.2 (by omega) (fun σ121 hI fz122 pz122 => ?_)
                              have hfr := hfr.tr fz122 (by decide) (by decide)
                              have tk55 : (sI σ121 h0 69).toInt = (sI σ119 h0 69).toInt := by rw [(fz122.1 69 (by decide)).1]
                              have tk56 : (sJ σ121 h0 61).toInt = (sJ σ119 h0 61).toInt := by rw [(fz122.1 61 (by decide)).2.1]
                              have tk57 : (sI σ121 h0 16).toInt = (sI σ119 h0 16).toInt := by rw [(fz122.1 16 (by decide)).1]
                              have hG := hG.fr fz122 (by decide) (by decide)
                              refine s_X12_room hI x84.2 (by omega) (fun z124 pz124 => ?_)
                              have rg_z124 := i_range z124
                              intro z125 ez125
                              have hz125 := i_tol ez125
                              have rg_z125 := l_range z125
                              have hIp := hI
                              refine s_X12_set hI 104 8 z125 (by omega) (fun σ126 hI fz127 pz127 => ?_)
                              have hfr := hfr.tr fz127 (by decide) (by decide)
                              have tk58 : (sI σ126 h0 69).toInt = (sI σ121 h0 69).toInt := by rw [(fz127.1 69 (by decide)).1]
                              have tk59 : (sJ σ126 h0 61).toInt = (sJ σ121 h0 61).toInt := by rw [(fz127.1 61 (by decide)).2.1]
                              have tk60 : (sI σ126 h0 16).toInt = (sI σ121 h0 16).toInt := by rw [(fz127.1 16 (by decide)).1]
                              have hG := hG.fr fz127 (by decide) (by decide)
                              refine ⟨by omega, ?_⟩
                              intro z128 ez128
                              have vz128 := hI.aI 8 160 0 4096 (by decide) (by decide) rfl rfl rfl (i := x84.2.toInt) (by omega) ez128
                              have wz128 : z128.toInt = (sI σ126 (L 8) x84.2.toInt.toNat).toInt := by rw [ez128]
                              intro z129 ez129
                              have hz129 := i_tol ez129
                              have rg_z129 := l_range z129
                              have hIp := hI
                              refine s_X12_set hI 112 8 z129 (by omega) (fun σ130 hI fz131 pz131 => ?_)
                              have hfr := hfr.tr fz131 (by decide) (by decide)
                              have tk61 : (sI σ130 h0 69).toInt = (sI σ126 h0 69).toInt := by rw [(fz131.1 69 (by decide)).1]
                              have tk62 : (sJ σ130 h0 61).toInt = (sJ σ126 h0 61).toInt := by rw [(fz131.1 61 (by decide)).2.1]
                              have tk63 : (sI σ130 h0 16).toInt = (sI σ126 h0 16).toInt := by rw [(fz131.1 16 (by decide)).1]
                              have hG := hG.fr fz131 (by decide) (by decide)
                              refine s_X12_shown hI x84.2 (by omega) (fun z133 pz133 => ?_)
                              have rg_z133 := i_range z133
                              intro z134 ez134
                              have hz134 := i_tol ez134
                              have rg_z134 := l_range z134
                              have hIp := hI
                              refine s_X12_set hI 120 4 z134 (by omega) (fun σ135 hI fz136 pz136 => ?_)
                              have hfr := hfr.tr fz136 (by decide) (by decide)
                              have tk64 : (sI σ135 h0 69).toInt = (sI σ130 h0 69).toInt := by rw [(fz136.1 69 (by decide)).1]
                              have tk65 : (sJ σ135 h0 61).toInt = (sJ σ130 h0 61).toInt := by rw [(fz136.1 61 (by decide)).2.1]
                              have tk66 : (sI σ135 h0 16).toInt = (sI σ130 h0 16).toInt := by rw [(fz136.1 16 (by decide)).1]
                              have hG := hG.fr fz136 (by decide) (by decide)
                              intro z137 ez137
                              have wz137 : z137.toInt = (sJ σ135 h0 61).toInt := by rw [ez137]
                              have vz137 := l_range z137
                              have hIp := hI
                              refine s_X12_set hI 128 8 z137 (by omega) (fun σ138 hI fz139 pz139 => ?_)
                              have hfr := hfr.tr fz139 (by decide) (by decide)
                              have tk67 : (sI σ138 h0 69).toInt = (sI σ135 h0 69).toInt := by rw [(fz139.1 69 (by decide)).1]
                              have tk68 : (sJ σ138 h0 61).toInt = (sJ σ135 h0 61).toInt := by rw [(fz139.1 61 (by decide)).2.1]
                              have tk69 : (sI σ138 h0 16).toInt = (sI σ135 h0 16).toInt := by rw [(fz139.1 16 (by decide)).1]
                              have hG := hG.fr fz139 (by decide) (by decide)
                              intro z140 ez140
                              have wz140 : z140.toInt = (sJ σ138 h0 61).toInt := by rw [ez140]
                              have vz140 := l_range z140
                              have hIp := hI
                              refine s_X12_set hI 136 8 z140 (by omega) (fun σ141 hI fz142 pz142 => ?_)
                              have hfr := hfr.tr fz142 (by decide) (by decide)
                              have tk70 : (sI σ141 h0 69).toInt = (sI σ138 h0 69).toInt := by rw [(fz142.1 69 (by decide)).1]
                              have tk71 : (sJ σ141 h0 61).toInt = (sJ σ138 h0 61).toInt := by rw [(fz142.1 61 (by decide)).2.1]
                              have tk72 : (sI σ141 h0 16).toInt = (sI σ138 h0 16).toInt := by rw [(fz142.1 16 (by decide)).1]
                              have hG := hG.fr fz142 (by decide) (by decide)
                              exact kk 0 σ141 hI hfr ⟨hG, fun _ => ⟨by omega, (fun v _ => by rw [oc_ff (show Fr h0 L [91] [76] σ110 σ141 from ((((((((((Fr.rf.tr fz112 (by decide) (by decide)).tr fz114 (by decide) (by decide)).tr fz117 (by decide) (by decide)).tr fz120 (by decide) (by decide)).tr fz122 (by decide) (by decide)).tr fz127 (by decide) (by decide)).tr fz131 (by decide) (by decide)).tr fz136 (by decide) (by decide)).tr fz139 (by decide) (by decide)).tr fz142 (by decide) (by decide))) (by decide)]; have q1 := c110 v; have q2 := c85 v; omega), fun h => by exfalso; omega⟩⟩
                            · skip
                              refine ⟨fun c6 => ?_, fun c6 => ?_⟩
                              · refine jn_dup ?_
                                refine ⟨fun c7 => ?_, fun c7 => ?_⟩
                                · (try dsimp only)
                                  exact kk 3221225524 σ64 hI hfr ⟨hG.mono (by omega), fun _ => ⟨by omega, (fun v _ => by rw [oc_ff fq (by decide)]; omega), fun h => by exfalso; omega⟩⟩
                                · refine ⟨fun c8 => ?_, fun c8 => ?_⟩
                                  · refine s_X12_count hI 41 40 (by decide) rfl rfl (by decide)  (fun z149 pz149 => ?_)
                                    have rg_z149 := i_range z149
                                    refine ⟨fun c9 => ?_, fun c9 => ?_⟩
                                    · refine s_X12_nodes hI 0 (by omega) (fun z151 pz151 => ?_)
                                      have rg_z151 := i_range z151
                                      refine ⟨fun c10 => ?_, fun c10 => ?_⟩
                                      · refine jn_dup ?_
                                        refine ⟨fun c11 => ?_, fun c11 => ?_⟩
                                        · (try dsimp only)
                                          have hIp := hI
                                          refine s_X12_makeNode hI x8 z77 hG hP (by omega) (fun q => by have q2 := pz151.2 (by omega) q; omega) (fun z158 σ157 hI fz158 pz158 => ?_)
                                          have hfr := hfr.tr fz158 (by decide) (by decide)
                                          have tk73 : (sI σ157 h0 69).toInt = (sI σ64 h0 69).toInt := by rw [(fz158.1 69 (by decide)).1]
                                          have tk74 : (sJ σ157 h0 61).toInt = (sJ σ64 h0 61).toInt := by rw [(fz158.1 61 (by decide)).2.1]
                                          have rg_z158 := i_range z158
                                          have hG := pz158.1
                                          have hj : sJ σ157 (L 41) = sJ σ (L 41) := (sJ_ff fz158 (by decide) (by decide)).trans (sJ_ff fq (by decide) (by decide))
                                          have j61 := congrArg Int64.toInt ((fz158.1 61 (by decide)).2.1.trans (fq.1 61 (by decide)).2.1)
                                          have j69 := congrArg Int32.toInt ((fz158.1 69 (by decide)).1.trans (fq.1 69 (by decide)).1)
                                          have hvac : ¬ ∀ o : Nat, o < 40 → 0 < (sJ σ (L 41) o).toInt := fun q => by have q2 := pz149.2 (fun o ho => by rw [sJ_ff fq (j := 41) (by decide) (by decide)]; exact q o ho); omega
                                          exact hK86 (2, z158) σ157 ⟨hI, hfr, (by (try dsimp only); omega), hj, hvac, hG⟩
                                        · refine s_X12_number hI 92 4 (by omega) ((hN.fr hfr (by decide) (by decide)).le (by omega)) (fun z160 pz160 => ?_)
                                          have tz160 : z160.toInt = (NUM h0 L σ64 92 4 : Int) ∧ z160.toInt < 4294967296 := num_t (n := 4) (K := 4294967296) pz160 rfl (by decide)
                                          intro z161 ez161
                                          try have hz161 := l_toi ez161 (by omega) (by omega)
                                          have rg_z161 := i_range z161
                                          intro z162 ez162
                                          try have hz162 := i_and ez162 (by omega)
                                          have rg_z162 := i_range z162
                                          (try dsimp only)
                                          have hIp := hI
                                          refine s_X12_makeNode hI x8 z162 hG hP (by omega) (fun q => by have q2 := pz151.2 (by omega) q; omega) (fun z158 σ157 hI fz158 pz158 => ?_)
                                          have hfr := hfr.tr fz158 (by decide) (by decide)
                                          have tk76 : (sI σ157 h0 69).toInt = (sI σ64 h0 69).toInt := by rw [(fz158.1 69 (by decide)).1]
                                          have tk77 : (sJ σ157 h0 61).toInt = (sJ σ64 h0 61).toInt := by rw [(fz158.1 61 (by decide)).2.1]
                                          have rg_z158 := i_range z158
                                          have hG := pz158.1
                                          have hj : sJ σ157 (L 41) = sJ σ (L 41) := (sJ_ff fz158 (by decide) (by decide)).trans (sJ_ff fq (by decide) (by decide))
                                          have j61 := congrArg Int64.toInt ((fz158.1 61 (by decide)).2.1.trans (fq.1 61 (by decide)).2.1)
                                          have j69 := congrArg Int32.toInt ((fz158.1 69 (by decide)).1.trans (fq.1 69 (by decide)).1)
                                          have hvac : ¬ ∀ o : Nat, o < 40 → 0 < (sJ σ (L 41) o).toInt := fun q => by have q2 := pz149.2 (fun o ho => by rw [sJ_ff fq (j := 41) (by decide) (by decide)]; exact q o ho); omega
                                          exact hK86 (2, z158) σ157 ⟨hI, hfr, (by (try dsimp only); omega), hj, hvac, hG⟩
                                      · exact kk 3221225599 σ64 hI hfr ⟨hG.mono (by omega), fun _ => ⟨by omega, (fun v _ => by rw [oc_ff fq (by decide)]; omega), fun h => by exfalso; omega⟩⟩
                                    · exact kk 3221225626 σ64 hI hfr ⟨hG.mono (by omega), fun _ => ⟨by omega, (fun v _ => by rw [oc_ff fq (by decide)]; omega), fun h => by exfalso; omega⟩⟩
                                  · (try dsimp only)
                                    exact kk 3221225524 σ64 hI hfr ⟨hG.mono (by omega), fun _ => ⟨by omega, (fun v _ => by rw [oc_ff fq (by decide)]; omega), fun h => by exfalso; omega⟩⟩
                              · intro z163 ez163
                                try have hz163 := l_toi ez163 (by omega) (by omega)
                                have rg_z163 := i_range z163
                                intro z164 ez164
                                try have hz164 := l_toi ez164 (by omega) (by omega)
                                have rg_z164 := i_range z164
                                have hIp := hI
                                refine s_X12_there hI z78 a1 z43 z163 z164 x8 x14 x20 x25 z63 hG (by have q := hN.fr fq (by decide) (by decide); rw [(fq.1 87 (by decide)).1]; exact q) (by rw [rts_ff fq (by decide), sI_ff fq (by decide) (by decide), (fq.1 99 (by decide)).1]; exact hT) (by rw [(fq.1 87 (by decide)).1, NUM_fr fq (by decide) (by decide) (by decide) (by decide), NUM_fr fq (by decide) (by decide) (by decide) (by decide)]; exact hw) (by rw [(fq.1 85 (by decide)).2.2]; exact hq) (by rw [(fq.1 98 (by decide)).1, (fq.1 99 (by decide)).1]; omega) (fun z166 σ165 hI fz166 pz166 => ?_)
                                have hfr := hfr.tr fz166 (by decide) (by decide)
                                have tk80 : (sJ σ165 h0 61).toInt = (sJ σ64 h0 61).toInt := by rw [(fz166.1 61 (by decide)).2.1]
                                have tk81 : (sI σ165 h0 16).toInt = (sI σ64 h0 16).toInt := by rw [(fz166.1 16 (by decide)).1]
                                refine ⟨fun c12 => ?_, fun c12 => ?_⟩
                                · obtain ⟨es, hgn, hvac⟩ := pz166.2.1 (by omega)
                                  have es := es.symm
                                  subst es
                                  have lv : (sI σ64 (L 1) z78.toInt.toNat).toInt = 1 := by rcases gq with ⟨g1, g2, g3⟩ | ⟨g1, g2, g3, g4, g5⟩; (rw [g3]; exact rt_.1); omega
                                  refine jn_dup ?_
                                  refine ⟨fun c13 => ?_, fun c13 => ?_⟩
                                  · (try dsimp only)
                                    have hj : sJ σ64 (L 41) = sJ σ (L 41) := sJ_ff fq (by decide) (by decide)
                                    have j61 := congrArg Int64.toInt (fq.1 61 (by decide)).2.1
                                    have j69 := congrArg Int32.toInt (fq.1 69 (by decide)).1
                                    have hvac : ¬ ∀ o : Nat, o < 40 → 0 < (sJ σ (L 41) o).toInt := fun q => hvac (fun o ho => by rw [sJ_ff fq (j := 41) (by decide) (by decide)]; exact q o ho)
                                    exact hK86 (x79, z78) σ64 ⟨hI, hfr, (by (try dsimp only); omega), hj, hvac, hG⟩
                                  · refine jn_dup ?_
                                    refine ⟨fun c14 => ?_, fun c14 => ?_⟩
                                    · refine ⟨by omega, ?_⟩
                                      intro z179 ez179
                                      have vz179 := hI.aI 6 160 (-2147483648) 2147483647 (by decide) (by decide) rfl rfl rfl (i := z78.toInt) (by omega) ez179
                                      have wz179 : z179.toInt = (sI σ64 (L 6) z78.toInt.toNat).toInt := by rw [ez179]
                                      intro z180 ez180
                                      try have hz180 := i_orm ez180 (by omega) (by omega)
                                      try have h2z180 := i_or ez180 (by omega) (by omega)
                                      have rg_z180 := i_range z180
                                      (try dsimp only)
                                      have hIp := hI
                                      refine s_X12_emptyIt hI z78 z180 hG (by omega) (fun σ177 hI fz178 pz178 => ?_)
                                      have hfr := hfr.tr fz178 (by decide) (by decide)
                                      have tk82 : (sI σ177 h0 69).toInt = (sI σ64 h0 69).toInt := by rw [(fz178.1 69 (by decide)).1]
                                      have tk83 : (sJ σ177 h0 61).toInt = (sJ σ64 h0 61).toInt := by rw [(fz178.1 61 (by decide)).2.1]
                                      have hG := pz178.1
                                      (try dsimp only)
                                      have ve := pz178.2 z78.toInt.toNat (by omega)
                                      rw [vw0, vw0] at ve
                                      simp only [Prod.mk.injEq] at ve
                                      have hj : sJ σ177 (L 41) = sJ σ (L 41) := (sJ_ff fz178 (by decide) (by decide)).trans (sJ_ff fq (by decide) (by decide))
                                      have j61 := congrArg Int64.toInt ((fz178.1 61 (by decide)).2.1.trans (fq.1 61 (by decide)).2.1)
                                      have j69 := congrArg Int32.toInt ((fz178.1 69 (by decide)).1.trans (fq.1 69 (by decide)).1)
                                      have hvac : ¬ ∀ o : Nat, o < 40 → 0 < (sJ σ (L 41) o).toInt := fun q => hvac (fun o ho => by rw [sJ_ff fq (j := 41) (by decide) (by decide)]; exact q o ho)
                                      exact hK86 (x79, z78) σ177 ⟨hI, hfr, (by (try dsimp only); omega), hj, hvac, hG⟩
                                    · (try dsimp only)
                                      have hIp := hI
                                      refine s_X12_emptyIt hI z78 z77 hG (by omega) (fun σ177 hI fz178 pz178 => ?_)
                                      have hfr := hfr.tr fz178 (by decide) (by decide)
                                      have tk85 : (sI σ177 h0 69).toInt = (sI σ64 h0 69).toInt := by rw [(fz178.1 69 (by decide)).1]
                                      have tk86 : (sJ σ177 h0 61).toInt = (sJ σ64 h0 61).toInt := by rw [(fz178.1 61 (by decide)).2.1]
                                      have hG := pz178.1
                                      (try dsimp only)
                                      have ve := pz178.2 z78.toInt.toNat (by omega)
                                      rw [vw0, vw0] at ve
                                      simp only [Prod.mk.injEq] at ve
                                      have hj : sJ σ177 (L 41) = sJ σ (L 41) := (sJ_ff fz178 (by decide) (by decide)).trans (sJ_ff fq (by decide) (by decide))
                                      have j61 := congrArg Int64.toInt ((fz178.1 61 (by decide)).2.1.trans (fq.1 61 (by decide)).2.1)
                                      have j69 := congrArg Int32.toInt ((fz178.1 69 (by decide)).1.trans (fq.1 69 (by decide)).1)
                                      have hvac : ¬ ∀ o : Nat, o < 40 → 0 < (sJ σ (L 41) o).toInt := fun q => hvac (fun o ho => by rw [sJ_ff fq (j := 41) (by decide) (by decide)]; exact q o ho)
                                      exact hK86 (x79, z78) σ177 ⟨hI, hfr, (by (try dsimp only); omega), hj, hvac, hG⟩
                                · exact kk z166 σ165 hI hfr ⟨pz166.1, fun h => by have q := pz166.2.2 h; have j69 := congrArg Int32.toInt (fq.1 69 (by decide)).1; exact ⟨by omega, (fun v _ => by rw [oc_ff fz166 (by decide), oc_ff fq (by decide)]; omega), fun _ => ⟨q.1, (fun v _ => by rw [oc_ff fz166 (by decide), oc_ff fq (by decide)]; omega)⟩⟩⟩
                          · skip
                            refine ⟨fun c15 => ?_, fun c15 => ?_⟩
                            · exact hK81 1 σ64 ⟨rfl, (by (try dsimp only); omega)⟩
                            · refine ⟨fun c16 => ?_, fun c16 => ?_⟩
                              · exact hK81 3 σ64 ⟨rfl, (by (try dsimp only); omega)⟩
                              · exact hK81 0 σ64 ⟨rfl, (by (try dsimp only); omega)⟩
                        · skip
                          refine jn_dup ?_
                          refine ⟨fun c17 => ?_, fun c17 => ?_⟩
                          · (try dsimp only)
                            exact hK70 z67 σ64 ⟨rfl, (by (try dsimp only); omega)⟩
                          · refine ⟨fun c18 => ?_, fun c18 => ?_⟩
                            · (try dsimp only)
                              exact hK70 z67 σ64 ⟨rfl, (by (try dsimp only); omega)⟩
                            · refine ⟨fun c19 => ?_, fun c19 => ?_⟩
                              · exact hK70 0 σ64 ⟨rfl, (by (try dsimp only); omega)⟩
                              · (try dsimp only)
                                exact hK70 z67 σ64 ⟨rfl, (by (try dsimp only); omega)⟩
                      · exact kk 3221225530 σ64 hI hfr ⟨hG.mono (by omega), fun _ => ⟨by omega, (fun v _ => by rw [oc_ff fq (by decide)]; omega), fun h => by exfalso; omega⟩⟩
                    · exact kk 3221225523 σ59 hI hfr ⟨hG.mono (by omega), fun _ => ⟨by omega, (fun v _ => by rw [oc_ff fz60 (by decide)]; omega), fun h => by exfalso; omega⟩⟩
                  · skip
                    refine ⟨fun c20 => ?_, fun c20 => ?_⟩
                    · exact hK51 () σ ⟨rfl, trivial⟩
                    · intro z186 ez186
                      try have hz186 := i_and ez186 (by omega)
                      have rg_z186 := i_range z186
                      refine ⟨fun c21 => ?_, fun c21 => ?_⟩
                      · exact hK51 () σ ⟨rfl, trivial⟩
                      · (try dsimp only)
                        exact kk 3221225506 σ hI hfr ⟨hG.mono (by omega), fun _ => ⟨by omega, (fun v _ => by omega), fun h => by exfalso; omega⟩⟩
              · skip
                refine ⟨fun c22 => ?_, fun c22 => ?_⟩
                · exact hK37 () σ ⟨rfl, trivial⟩
                · refine ⟨fun c23 => ?_, fun c23 => ?_⟩
                  · (try dsimp only)
                    exact kk 3221225485 σ hI hfr ⟨hG.mono (by omega), fun _ => ⟨by omega, (fun v _ => by omega), fun h => by exfalso; omega⟩⟩
                  · refine ⟨fun c24 => ?_, fun c24 => ?_⟩
                    · exact hK37 () σ ⟨rfl, trivial⟩
                    · (try dsimp only)
                      exact kk 3221225485 σ hI hfr ⟨hG.mono (by omega), fun _ => ⟨by omega, (fun v _ => by omega), fun h => by exfalso; omega⟩⟩
        · skip
          refine jn_dup ?_
          refine ⟨fun c25 => ?_, fun c25 => ?_⟩
          · (try dsimp only)
            exact hK27 1 σ ⟨rfl, (by (try dsimp only); omega)⟩
          · refine ⟨fun c26 => ?_, fun c26 => ?_⟩
            · (try dsimp only)
              exact hK27 1 σ ⟨rfl, (by (try dsimp only); omega)⟩
            · refine ⟨fun c27 => ?_, fun c27 => ?_⟩
              · exact hK27 0 σ ⟨rfl, (by (try dsimp only); omega)⟩
              · (try dsimp only)
                exact hK27 1 σ ⟨rfl, (by (try dsimp only); omega)⟩
      · skip
        refine ⟨fun c28 => ?_, fun c28 => ?_⟩
        · exact hK22 0 σ ⟨rfl, (by (try dsimp only); omega)⟩
        · exact hK22 1 σ ⟨rfl, (by (try dsimp only); omega)⟩
    · skip
      refine ⟨fun c29 => ?_, fun c29 => ?_⟩
      · exact hK16 0 σ ⟨rfl, (by (try dsimp only); omega)⟩
      · exact hK16 1 σ ⟨rfl, (by (try dsimp only); omega)⟩
  · skip
    refine ⟨fun c30 => ?_, fun c30 => ?_⟩
    · exact hK10 0 σ ⟨rfl, (by (try dsimp only); omega)⟩
    · exact hK10 1 σ ⟨rfl, (by (try dsimp only); omega)⟩

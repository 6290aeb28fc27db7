/-! what waits is done again -/
section R87
variable {h0 : Nat} {L : Nat → Nat} {σ σ' : HS} {B : Int} {fs js : List Nat}
theorem num_wn {w a : Nat} (hM : MdI h0 L σ) (h85 : sP σ h0 85 = some (L 75)) (h86 : (sI σ h0 86).toInt = 4000 * (w : Int)) : NUM h0 L σ (a : Int) 2 = WN L σ w a := by
  unfold NUM WN
  rw [InRow_2 hM h85, show ((sI σ h0 86).toInt + (a : Int)).toNat = 4000 * w + a by omega]
theorem GI.re {B' : Int} (hG : GI h0 L B' σ) (h : (sJ σ h0 61).toInt + (sI σ h0 69).toInt ≤ B) : GI h0 L B σ := ⟨hG.1, hG.2.1, hG.2.2.1, hG.2.2.2.1, hG.2.2.2.2.1, hG.2.2.2.2.2.1, h⟩
theorem OG.go (h : OG L σ) {o : Nat} (ho : o < 40) (hs : (sJ σ (L 41) o).toInt ≠ 0) (hg : (sI σ (L 50) o).toInt = 1) : 0 ≤ (sI σ (L 2) (sI σ (L 43) o).toInt.toNat).toInt := by
  have q := (h.1 o ho hs).2 hg
  rw [vw0] at q
  exact q
theorem GI.cl {n : Nat} {v : Int64} (hG : GI h0 L B σ) (hM : MdI h0 L σ) (e : σ' = h_uJ σ (L 41) n v) (hv : v.toInt = 0) : GI h0 L B σ' := by
  have f : Fr h0 L [] [41] σ σ' := Fr.rf.aJ hM (by decide) e (by decide)
  have q := hG.2.1
  have s := hG.2.2.2.2
  refine ⟨hG.1.fr f (by decide) (by decide), ?_, hG.2.2.1.fr f (by decide), hG.2.2.2.1.fr f (by decide) (by decide), ?_, ?_, ?_⟩
  · unfold OG
    rw [vw_ff f (by decide), sI_ff f (by decide) (show 10 ∉ [41] by decide), sI_ff f (by decide) (show 43 ∉ [41] by decide), sI_ff f (by decide) (show 50 ∉ [41] by decide)]
    refine ⟨fun o ho hs => ?_, q.2⟩
    rcases atJ e o with ⟨a, b⟩ | ⟨a, b⟩
    · omega
    · exact q.1 o ho (by rw [← b]; exact hs)
  · intro o ho
    rcases atJ e o with ⟨a, b⟩ | ⟨a, b⟩
    · omega
    · rw [b]
      exact s.1 o ho
  · rw [(f.1 61 (by decide)).2.1]
    exact s.2.1
  · rw [(f.1 61 (by decide)).2.1, (f.1 69 (by decide)).1]
    exact s.2.2
theorem cnt_zero {f g : Nat → Int} {v : Int} (k : Nat) (hk : g k ≤ v) : ∀ n, (∀ o, o ≠ k → g o = f o) → cnt g v n + (if k < n ∧ v < f k then 1 else 0) ≤ cnt f v n
  | 0, _ => by
    rw [if_neg (show ¬ (k < 0 ∧ v < f k) by omega)]
    exact Nat.le_refl _
  | n + 1, h => by
    have h1 := cnt_zero (f := f) (g := g) (v := v) k hk n h
    unfold cnt
    by_cases c : n = k
    · subst c
      rw [if_neg (show ¬ (n < n ∧ v < f n) by omega)] at h1
      rw [if_neg (show ¬ v < g n by omega)]
      by_cases d : v < f n
      · rw [if_pos (show n < n + 1 ∧ v < f n from ⟨by omega, d⟩), if_pos d]
        omega
      · rw [if_neg (show ¬ (n < n + 1 ∧ v < f n) from fun q => d q.2), if_neg d]
        omega
    · rw [h n c]
      by_cases d : k < n ∧ v < f k
      · rw [if_pos d] at h1
        rw [if_pos (show k < n + 1 ∧ v < f k from ⟨by omega, d.2⟩)]
        omega
      · rw [if_neg d] at h1
        rw [if_neg (show ¬ (k < n + 1 ∧ v < f k) from fun q => d ⟨by omega, q.2⟩)]
        omega
theorem oc_zero {k : Nat} {v : Int64} (e : σ' = h_uJ σ (L 41) k v) (hv : v.toInt = 0) (u : Int) (hu : 0 ≤ u) : oc L σ' u ≤ oc L σ u ∧ (k < 40 → u < (sJ σ (L 41) k).toInt → oc L σ' u < oc L σ u) := by
  have q := cnt_zero (f := fun o : Nat => (sJ σ (L 41) o).toInt) (g := fun o : Nat => (sJ σ' (L 41) o).toInt) (v := u) k (by rcases atJ e k with ⟨a, b⟩ | ⟨a, b⟩ <;> omega) 40 (fun o ho => by rcases atJ e o with ⟨a, b⟩ | ⟨a, b⟩; exact absurd a ho; exact b)
  unfold oc
  refine ⟨by omega, fun h1 h2 => ?_⟩
  rw [if_pos ⟨h1, h2⟩] at q
  omega
end R87
set_option maxRecDepth 100000 in
set_option maxHeartbeats 4000000 in
theorem s_X12_again {h0 : Nat} {L : Nat → Nat} {σ : HS} (hI : OKM h0 L σ) (a1 : Int32) {B : Int} (hG : GI h0 L B σ) (hB : B < 4611686018427387904) (hz : 0 ≤ a1.toInt ∧ a1.toInt < (sI σ h0 69).toInt ∧ (sI σ (L 62) a1.toInt.toNat).toInt = 5) {post : Int32 → HS → Prop} (kk : ∀ (r : Int32) (σ' : HS), OKM h0 L σ' → Fr h0 L [16, 61, 62, 69, 115, 116, 117] [1, 2, 3, 4, 5, 6, 7, 8, 9, 10, 14, 15, 16, 17, 18, 19, 20, 21, 22, 23, 27, 28, 41, 42, 43, 44, 45, 46, 47, 48, 49, 50, 51, 53, 61, 62, 63, 64, 65, 66, 67, 68, 69, 70, 71, 72, 73, 74, 75, 76, 77, 78, 79] σ σ' → (GI h0 L B σ' ∧ (((0 ≤ r.toInt ∧ r.toInt ≤ 1) ∧ (r.toInt = 0 → (sI σ' h0 69).toInt = (sI σ h0 69).toInt ∧ ∀ v : Int, 0 ≤ v → oc L σ' v ≤ oc L σ v) ∧ (r.toInt ≠ 0 → (sI σ' h0 69).toInt = (sI σ h0 69).toInt - 1 ∧ ∀ v : Int, 0 ≤ v → oc L σ' v ≤ oc L σ v + 1)))) → post r σ') : F_X12_again h0 L a1 post σ := by
  unfold F_X12_again
  have k_0 : (0 : Int32).toInt = 0 := rfl
  have k_1 : (1 : Int32).toInt = 1 := rfl
  have k_5 : (5 : Int32).toInt = 5 := rfl
  have k_4000 : (4000 : Int32).toInt = 4000 := rfl
  have k_85000 : (85000 : Int32).toInt = 85000 := rfl
  have kl_259 : (259 : Int64).toInt = 259 := rfl
  have rg_a1 := i_range a1
  have hfr : Fr h0 L [16, 61, 62, 69, 85, 86, 87, 88, 90, 91, 93, 94, 95, 98, 99, 100, 109, 111, 115, 116, 117] [1, 2, 3, 4, 5, 6, 7, 8, 9, 10, 14, 15, 16, 17, 18, 19, 20, 21, 22, 23, 27, 28, 41, 42, 43, 44, 45, 46, 47, 48, 49, 50, 51, 53, 61, 62, 63, 64, 65, 66, 67, 68, 69, 70, 71, 72, 73, 74, 75, 76, 77, 78, 79] σ σ := Fr.rf
  have h69 := hI.fI 69 0 16 (by decide) rfl rfl rfl rfl
  intro z1 ez1
  intro z2 ez2
  have vz2 := hI.fI 86 0 72600 (by decide) rfl rfl rfl ez2
  have wz2 : z2.toInt = (sI σ h0 86).toInt := by rw [ez2]
  intro z3 ez3
  have vz3 := hI.fI 87 0 4000 (by decide) rfl rfl rfl ez3
  have wz3 : z3.toInt = (sI σ h0 87).toInt := by rw [ez3]
  intro z4 ez4
  have vz4 := hI.fI 88 0 5 (by decide) rfl rfl rfl ez4
  have wz4 : z4.toInt = (sI σ h0 88).toInt := by rw [ez4]
  intro z5 ez5
  have vz5 := hI.fI 93 0 65535 (by decide) rfl rfl rfl ez5
  have wz5 : z5.toInt = (sI σ h0 93).toInt := by rw [ez5]
  intro z6 ez6
  have vz6 := hI.fI 94 0 1 (by decide) rfl rfl rfl ez6
  have wz6 : z6.toInt = (sI σ h0 94).toInt := by rw [ez6]
  intro z7 ez7
  have vz7 := hI.fI 95 0 1 (by decide) rfl rfl rfl ez7
  have wz7 : z7.toInt = (sI σ h0 95).toInt := by rw [ez7]
  intro z8 ez8
  have vz8 := hI.fI 98 (-1) 7 (by decide) rfl rfl rfl ez8
  have wz8 : z8.toInt = (sI σ h0 98).toInt := by rw [ez8]
  intro z9 ez9
  have vz9 := hI.fI 99 (-1) 15 (by decide) rfl rfl rfl ez9
  have wz9 : z9.toInt = (sI σ h0 99).toInt := by rw [ez9]
  intro z10 ez10
  have vz10 := hI.fI 100 (-1) 39 (by decide) rfl rfl rfl ez10
  have wz10 : z10.toInt = (sI σ h0 100).toInt := by rw [ez10]
  intro z11 ez11
  have wz11 : z11.toInt = (sJ σ h0 111).toInt := by rw [ez11]
  have vz11 := l_range z11
  intro z12 ez12
  have vz12 := hI.fI 109 0 1 (by decide) rfl rfl rfl ez12
  have wz12 : z12.toInt = (sI σ h0 109).toInt := by rw [ez12]
  intro z13 ez13
  have vz13 := hI.fI 90 0 85000 (by decide) rfl rfl rfl ez13
  have wz13 : z13.toInt = (sI σ h0 90).toInt := by rw [ez13]
  intro z14 ez14
  have vz14 := hI.fI 91 0 1200 (by decide) rfl rfl rfl ez14
  have wz14 : z14.toInt = (sI σ h0 91).toInt := by rw [ez14]
  intro σ15 eσ15
  have hMp := hI.2
  have hI := hI.pQ eσ15
  have hfr := hfr.fP eσ15 (by decide) rfl
  have f1σ15 : Fr h0 L [85] [] σ σ15 := Fr.rf.fP eσ15 (by decide) rfl
  have tk1 : (sI σ15 h0 69).toInt = (sI σ h0 69).toInt := by rw [(f1σ15.1 69 (by decide)).1]
  have tk2 : (sI σ15 h0 86).toInt = (sI σ h0 86).toInt := by rw [(f1σ15.1 86 (by decide)).1]
  have tk3 : (sI σ15 h0 87).toInt = (sI σ h0 87).toInt := by rw [(f1σ15.1 87 (by decide)).1]
  have tk4 : (sI σ15 h0 98).toInt = (sI σ h0 98).toInt := by rw [(f1σ15.1 98 (by decide)).1]
  have tk5 : (sI σ15 h0 99).toInt = (sI σ h0 99).toInt := by rw [(f1σ15.1 99 (by decide)).1]
  have tk6 : (sI σ15 (L 74) a1.toInt.toNat).toInt = (sI σ (L 74) a1.toInt.toNat).toInt := by rw [(f1σ15.2.1 74 (by decide) (by decide) _).1]
  have tk7 : (sI σ15 (L 68) a1.toInt.toNat).toInt = (sI σ (L 68) a1.toInt.toNat).toInt := by rw [(f1σ15.2.1 68 (by decide) (by decide) _).1]
  have tk8 : (sI σ15 (L 62) a1.toInt.toNat).toInt = (sI σ (L 62) a1.toInt.toNat).toInt := by rw [(f1σ15.2.1 62 (by decide) (by decide) _).1]
  have tk9 : (sI σ15 h0 16).toInt = (sI σ h0 16).toInt := by rw [(f1σ15.1 16 (by decide)).1]
  have hG := hG.fr f1σ15 (by decide) (by decide)
  intro z16 ez16
  try have hz16 := i_mulk 4000 rfl ez16 (by omega) (by omega)
  have rg_z16 := i_range z16
  intro σ17 eσ17
  have hMp := hI.2
  have hI := hI.pF 86 0 72600 rfl rfl (by omega) eσ17
  have hfr := hfr.fI hMp eσ17 (by decide) rfl
  have uσ17 : (sI σ17 h0 86).toInt = z16.toInt := by rw [eσ17]; exact congrArg Int32.toInt u2_same
  have f1σ17 : Fr h0 L [86] [] σ15 σ17 := Fr.rf.fI hMp eσ17 (by decide) rfl
  have tk10 : (sI σ17 h0 69).toInt = (sI σ15 h0 69).toInt := by rw [(f1σ17.1 69 (by decide)).1]
  have tk12 : (sI σ17 h0 87).toInt = (sI σ15 h0 87).toInt := by rw [(f1σ17.1 87 (by decide)).1]
  have tk13 : (sI σ17 h0 98).toInt = (sI σ15 h0 98).toInt := by rw [(f1σ17.1 98 (by decide)).1]
  have tk14 : (sI σ17 h0 99).toInt = (sI σ15 h0 99).toInt := by rw [(f1σ17.1 99 (by decide)).1]
  have tk15 : (sI σ17 (L 74) a1.toInt.toNat).toInt = (sI σ15 (L 74) a1.toInt.toNat).toInt := by rw [(f1σ17.2.1 74 (by decide) (by decide) _).1]
  have tk16 : (sI σ17 (L 68) a1.toInt.toNat).toInt = (sI σ15 (L 68) a1.toInt.toNat).toInt := by rw [(f1σ17.2.1 68 (by decide) (by decide) _).1]
  have tk17 : (sI σ17 (L 62) a1.toInt.toNat).toInt = (sI σ15 (L 62) a1.toInt.toNat).toInt := by rw [(f1σ17.2.1 62 (by decide) (by decide) _).1]
  have tk18 : (sI σ17 h0 16).toInt = (sI σ15 h0 16).toInt := by rw [(f1σ17.1 16 (by decide)).1]
  have hG := hG.fr f1σ17 (by decide) (by decide)
  refine ⟨by omega, ?_⟩
  intro z18 ez18
  have vz18 := hI.aI 74 16 0 4000 (by decide) (by decide) rfl rfl rfl (i := a1.toInt) (by omega) ez18
  have wz18 : z18.toInt = (sI σ17 (L 74) a1.toInt.toNat).toInt := by rw [ez18]
  intro σ19 eσ19
  have hMp := hI.2
  have hI := hI.pF 87 0 4000 rfl rfl (by omega) eσ19
  have hfr := hfr.fI hMp eσ19 (by decide) rfl
  have uσ19 : (sI σ19 h0 87).toInt = z18.toInt := by rw [eσ19]; exact congrArg Int32.toInt u2_same
  have f1σ19 : Fr h0 L [87] [] σ17 σ19 := Fr.rf.fI hMp eσ19 (by decide) rfl
  have tk19 : (sI σ19 h0 69).toInt = (sI σ17 h0 69).toInt := by rw [(f1σ19.1 69 (by decide)).1]
  have tk20 : (sI σ19 h0 86).toInt = (sI σ17 h0 86).toInt := by rw [(f1σ19.1 86 (by decide)).1]
  have tk22 : (sI σ19 h0 98).toInt = (sI σ17 h0 98).toInt := by rw [(f1σ19.1 98 (by decide)).1]
  have tk23 : (sI σ19 h0 99).toInt = (sI σ17 h0 99).toInt := by rw [(f1σ19.1 99 (by decide)).1]
  have tk24 : (sI σ19 (L 74) a1.toInt.toNat).toInt = (sI σ17 (L 74) a1.toInt.toNat).toInt := by rw [(f1σ19.2.1 74 (by decide) (by decide) _).1]
  have tk25 : (sI σ19 (L 68) a1.toInt.toNat).toInt = (sI σ17 (L 68) a1.toInt.toNat).toInt := by rw [(f1σ19.2.1 68 (by decide) (by decide) _).1]
  have tk26 : (sI σ19 (L 62) a1.toInt.toNat).toInt = (sI σ17 (L 62) a1.toInt.toNat).toInt := by rw [(f1σ19.2.1 62 (by decide) (by decide) _).1]
  have tk27 : (sI σ19 h0 16).toInt = (sI σ17 h0 16).toInt := by rw [(f1σ19.1 16 (by decide)).1]
  have hG := hG.fr f1σ19 (by decide) (by decide)
  refine ⟨by omega, ?_⟩
  intro z20 ez20
  have vz20 := hI.aI 61 16 0 5 (by decide) (by decide) rfl rfl rfl (i := a1.toInt) (by omega) ez20
  have wz20 : z20.toInt = (sI σ19 (L 61) a1.toInt.toNat).toInt := by rw [ez20]
  intro σ21 eσ21
  have hMp := hI.2
  have hI := hI.pF 88 0 5 rfl rfl (by omega) eσ21
  have hfr := hfr.fI hMp eσ21 (by decide) rfl
  have uσ21 : (sI σ21 h0 88).toInt = z20.toInt := by rw [eσ21]; exact congrArg Int32.toInt u2_same
  have f1σ21 : Fr h0 L [88] [] σ19 σ21 := Fr.rf.fI hMp eσ21 (by decide) rfl
  have tk28 : (sI σ21 h0 69).toInt = (sI σ19 h0 69).toInt := by rw [(f1σ21.1 69 (by decide)).1]
  have tk29 : (sI σ21 h0 86).toInt = (sI σ19 h0 86).toInt := by rw [(f1σ21.1 86 (by decide)).1]
  have tk30 : (sI σ21 h0 87).toInt = (sI σ19 h0 87).toInt := by rw [(f1σ21.1 87 (by decide)).1]
  have tk31 : (sI σ21 h0 98).toInt = (sI σ19 h0 98).toInt := by rw [(f1σ21.1 98 (by decide)).1]
  have tk32 : (sI σ21 h0 99).toInt = (sI σ19 h0 99).toInt := by rw [(f1σ21.1 99 (by decide)).1]
  have tk33 : (sI σ21 (L 74) a1.toInt.toNat).toInt = (sI σ19 (L 74) a1.toInt.toNat).toInt := by rw [(f1σ21.2.1 74 (by decide) (by decide) _).1]
  have tk34 : (sI σ21 (L 68) a1.toInt.toNat).toInt = (sI σ19 (L 68) a1.toInt.toNat).toInt := by rw [(f1σ21.2.1 68 (by decide) (by decide) _).1]
  have tk35 : (sI σ21 (L 62) a1.toInt.toNat).toInt = (sI σ19 (L 62) a1.toInt.toNat).toInt := by rw [(f1σ21.2.1 62 (by decide) (by decide) _).1]
  have tk36 : (sI σ21 h0 16).toInt = (sI σ19 h0 16).toInt := by rw [(f1σ21.1 16 (by decide)).1]
  have hG := hG.fr f1σ21 (by decide) (by decide)
  intro σ22 eσ22
  have hMp := hI.2
  have hI := hI.pF 93 0 65535 rfl rfl (by omega) eσ22
  have hfr := hfr.fI hMp eσ22 (by decide) rfl
  have uσ22 : (sI σ22 h0 93).toInt = (5 : Int32).toInt := by rw [eσ22]; exact congrArg Int32.toInt u2_same
  have f1σ22 : Fr h0 L [93] [] σ21 σ22 := Fr.rf.fI hMp eσ22 (by decide) rfl
  have tk37 : (sI σ22 h0 69).toInt = (sI σ21 h0 69).toInt := by rw [(f1σ22.1 69 (by decide)).1]
  have tk38 : (sI σ22 h0 86).toInt = (sI σ21 h0 86).toInt := by rw [(f1σ22.1 86 (by decide)).1]
  have tk39 : (sI σ22 h0 87).toInt = (sI σ21 h0 87).toInt := by rw [(f1σ22.1 87 (by decide)).1]
  have tk40 : (sI σ22 h0 98).toInt = (sI σ21 h0 98).toInt := by rw [(f1σ22.1 98 (by decide)).1]
  have tk41 : (sI σ22 h0 99).toInt = (sI σ21 h0 99).toInt := by rw [(f1σ22.1 99 (by decide)).1]
  have tk42 : (sI σ22 (L 74) a1.toInt.toNat).toInt = (sI σ21 (L 74) a1.toInt.toNat).toInt := by rw [(f1σ22.2.1 74 (by decide) (by decide) _).1]
  have tk43 : (sI σ22 (L 68) a1.toInt.toNat).toInt = (sI σ21 (L 68) a1.toInt.toNat).toInt := by rw [(f1σ22.2.1 68 (by decide) (by decide) _).1]
  have tk44 : (sI σ22 (L 62) a1.toInt.toNat).toInt = (sI σ21 (L 62) a1.toInt.toNat).toInt := by rw [(f1σ22.2.1 62 (by decide) (by decide) _).1]
  have tk45 : (sI σ22 h0 16).toInt = (sI σ21 h0 16).toInt := by rw [(f1σ22.1 16 (by decide)).1]
  have hG := hG.fr f1σ22 (by decide) (by decide)
  refine ⟨by omega, ?_⟩
  intro z23 ez23
  have vz23 := hI.aI 64 16 0 1 (by decide) (by decide) rfl rfl rfl (i := a1.toInt) (by omega) ez23
  have wz23 : z23.toInt = (sI σ22 (L 64) a1.toInt.toNat).toInt := by rw [ez23]
  refine ⟨by omega, ?_⟩
  intro σ24 eσ24
  have hMp := hI.2
  have hI := hI.pF 94 0 1 rfl rfl (by omega) eσ24
  have hfr := hfr.fI hMp eσ24 (by decide) rfl
  have uσ24 : (sI σ24 h0 94).toInt = z23.toInt := by rw [eσ24]; exact congrArg Int32.toInt u2_same
  have f1σ24 : Fr h0 L [94] [] σ22 σ24 := Fr.rf.fI hMp eσ24 (by decide) rfl
  have tk46 : (sI σ24 h0 69).toInt = (sI σ22 h0 69).toInt := by rw [(f1σ24.1 69 (by decide)).1]
  have tk47 : (sI σ24 h0 86).toInt = (sI σ22 h0 86).toInt := by rw [(f1σ24.1 86 (by decide)).1]
  have tk48 : (sI σ24 h0 87).toInt = (sI σ22 h0 87).toInt := by rw [(f1σ24.1 87 (by decide)).1]
  have tk49 : (sI σ24 h0 98).toInt = (sI σ22 h0 98).toInt := by rw [(f1σ24.1 98 (by decide)).1]
  have tk50 : (sI σ24 h0 99).toInt = (sI σ22 h0 99).toInt := by rw [(f1σ24.1 99 (by decide)).1]
  have tk51 : (sI σ24 (L 74) a1.toInt.toNat).toInt = (sI σ22 (L 74) a1.toInt.toNat).toInt := by rw [(f1σ24.2.1 74 (by decide) (by decide) _).1]
  have tk52 : (sI σ24 (L 68) a1.toInt.toNat).toInt = (sI σ22 (L 68) a1.toInt.toNat).toInt := by rw [(f1σ24.2.1 68 (by decide) (by decide) _).1]
  have tk53 : (sI σ24 (L 62) a1.toInt.toNat).toInt = (sI σ22 (L 62) a1.toInt.toNat).toInt := by rw [(f1σ24.2.1 62 (by decide) (by decide) _).1]
  have tk54 : (sI σ24 h0 16).toInt = (sI σ22 h0 16).toInt := by rw [(f1σ24.1 16 (by decide)).1]
  have hG := hG.fr f1σ24 (by decide) (by decide)
  refine ⟨by omega, ?_⟩
  intro σ25 eσ25
  have hMp := hI.2
  have hI := hI.pF 95 0 1 rfl rfl (by omega) eσ25
  have hfr := hfr.fI hMp eσ25 (by decide) rfl
  have uσ25 : (sI σ25 h0 95).toInt = (1 : Int32).toInt := by rw [eσ25]; exact congrArg Int32.toInt u2_same
  have f1σ25 : Fr h0 L [95] [] σ24 σ25 := Fr.rf.fI hMp eσ25 (by decide) rfl
  have tk55 : (sI σ25 h0 69).toInt = (sI σ24 h0 69).toInt := by rw [(f1σ25.1 69 (by decide)).1]
  have tk56 : (sI σ25 h0 86).toInt = (sI σ24 h0 86).toInt := by rw [(f1σ25.1 86 (by decide)).1]
  have tk57 : (sI σ25 h0 87).toInt = (sI σ24 h0 87).toInt := by rw [(f1σ25.1 87 (by decide)).1]
  have tk58 : (sI σ25 h0 98).toInt = (sI σ24 h0 98).toInt := by rw [(f1σ25.1 98 (by decide)).1]
  have tk59 : (sI σ25 h0 99).toInt = (sI σ24 h0 99).toInt := by rw [(f1σ25.1 99 (by decide)).1]
  have tk60 : (sI σ25 (L 74) a1.toInt.toNat).toInt = (sI σ24 (L 74) a1.toInt.toNat).toInt := by rw [(f1σ25.2.1 74 (by decide) (by decide) _).1]
  have tk61 : (sI σ25 (L 68) a1.toInt.toNat).toInt = (sI σ24 (L 68) a1.toInt.toNat).toInt := by rw [(f1σ25.2.1 68 (by decide) (by decide) _).1]
  have tk62 : (sI σ25 (L 62) a1.toInt.toNat).toInt = (sI σ24 (L 62) a1.toInt.toNat).toInt := by rw [(f1σ25.2.1 62 (by decide) (by decide) _).1]
  have tk63 : (sI σ25 h0 16).toInt = (sI σ24 h0 16).toInt := by rw [(f1σ25.1 16 (by decide)).1]
  have hG := hG.fr f1σ25 (by decide) (by decide)
  refine ⟨by omega, ?_⟩
  intro z26 ez26
  have vz26 := hI.aI 67 16 0 7 (by decide) (by decide) rfl rfl rfl (i := a1.toInt) (by omega) ez26
  have wz26 : z26.toInt = (sI σ25 (L 67) a1.toInt.toNat).toInt := by rw [ez26]
  intro σ27 eσ27
  have hMp := hI.2
  have hI := hI.pF 98 (-1) 7 rfl rfl (by omega) eσ27
  have hfr := hfr.fI hMp eσ27 (by decide) rfl
  have uσ27 : (sI σ27 h0 98).toInt = z26.toInt := by rw [eσ27]; exact congrArg Int32.toInt u2_same
  have f1σ27 : Fr h0 L [98] [] σ25 σ27 := Fr.rf.fI hMp eσ27 (by decide) rfl
  have tk64 : (sI σ27 h0 69).toInt = (sI σ25 h0 69).toInt := by rw [(f1σ27.1 69 (by decide)).1]
  have tk65 : (sI σ27 h0 86).toInt = (sI σ25 h0 86).toInt := by rw [(f1σ27.1 86 (by decide)).1]
  have tk66 : (sI σ27 h0 87).toInt = (sI σ25 h0 87).toInt := by rw [(f1σ27.1 87 (by decide)).1]
  have tk68 : (sI σ27 h0 99).toInt = (sI σ25 h0 99).toInt := by rw [(f1σ27.1 99 (by decide)).1]
  have tk69 : (sI σ27 (L 74) a1.toInt.toNat).toInt = (sI σ25 (L 74) a1.toInt.toNat).toInt := by rw [(f1σ27.2.1 74 (by decide) (by decide) _).1]
  have tk70 : (sI σ27 (L 68) a1.toInt.toNat).toInt = (sI σ25 (L 68) a1.toInt.toNat).toInt := by rw [(f1σ27.2.1 68 (by decide) (by decide) _).1]
  have tk71 : (sI σ27 (L 62) a1.toInt.toNat).toInt = (sI σ25 (L 62) a1.toInt.toNat).toInt := by rw [(f1σ27.2.1 62 (by decide) (by decide) _).1]
  have tk72 : (sI σ27 h0 16).toInt = (sI σ25 h0 16).toInt := by rw [(f1σ27.1 16 (by decide)).1]
  have hG := hG.fr f1σ27 (by decide) (by decide)
  refine ⟨by omega, ?_⟩
  intro z28 ez28
  have vz28 := hI.aI 68 16 0 15 (by decide) (by decide) rfl rfl rfl (i := a1.toInt) (by omega) ez28
  have wz28 : z28.toInt = (sI σ27 (L 68) a1.toInt.toNat).toInt := by rw [ez28]
  intro σ29 eσ29
  have hMp := hI.2
  have hI := hI.pF 99 (-1) 15 rfl rfl (by omega) eσ29
  have hfr := hfr.fI hMp eσ29 (by decide) rfl
  have uσ29 : (sI σ29 h0 99).toInt = z28.toInt := by rw [eσ29]; exact congrArg Int32.toInt u2_same
  have f1σ29 : Fr h0 L [99] [] σ27 σ29 := Fr.rf.fI hMp eσ29 (by decide) rfl
  have tk73 : (sI σ29 h0 69).toInt = (sI σ27 h0 69).toInt := by rw [(f1σ29.1 69 (by decide)).1]
  have tk74 : (sI σ29 h0 86).toInt = (sI σ27 h0 86).toInt := by rw [(f1σ29.1 86 (by decide)).1]
  have tk75 : (sI σ29 h0 87).toInt = (sI σ27 h0 87).toInt := by rw [(f1σ29.1 87 (by decide)).1]
  have tk76 : (sI σ29 h0 98).toInt = (sI σ27 h0 98).toInt := by rw [(f1σ29.1 98 (by decide)).1]
  have tk78 : (sI σ29 (L 74) a1.toInt.toNat).toInt = (sI σ27 (L 74) a1.toInt.toNat).toInt := by rw [(f1σ29.2.1 74 (by decide) (by decide) _).1]
  have tk79 : (sI σ29 (L 68) a1.toInt.toNat).toInt = (sI σ27 (L 68) a1.toInt.toNat).toInt := by rw [(f1σ29.2.1 68 (by decide) (by decide) _).1]
  have tk80 : (sI σ29 (L 62) a1.toInt.toNat).toInt = (sI σ27 (L 62) a1.toInt.toNat).toInt := by rw [(f1σ29.2.1 62 (by decide) (by decide) _).1]
  have tk81 : (sI σ29 h0 16).toInt = (sI σ27 h0 16).toInt := by rw [(f1σ29.1 16 (by decide)).1]
  have hG := hG.fr f1σ29 (by decide) (by decide)
  intro σ30 eσ30
  have hMp := hI.2
  have hI := hI.pF 90 0 85000 rfl rfl (by omega) eσ30
  have hfr := hfr.fI hMp eσ30 (by decide) rfl
  have uσ30 : (sI σ30 h0 90).toInt = (85000 : Int32).toInt := by rw [eσ30]; exact congrArg Int32.toInt u2_same
  have f1σ30 : Fr h0 L [90] [] σ29 σ30 := Fr.rf.fI hMp eσ30 (by decide) rfl
  have tk82 : (sI σ30 h0 69).toInt = (sI σ29 h0 69).toInt := by rw [(f1σ30.1 69 (by decide)).1]
  have tk83 : (sI σ30 h0 86).toInt = (sI σ29 h0 86).toInt := by rw [(f1σ30.1 86 (by decide)).1]
  have tk84 : (sI σ30 h0 87).toInt = (sI σ29 h0 87).toInt := by rw [(f1σ30.1 87 (by decide)).1]
  have tk85 : (sI σ30 h0 98).toInt = (sI σ29 h0 98).toInt := by rw [(f1σ30.1 98 (by decide)).1]
  have tk86 : (sI σ30 h0 99).toInt = (sI σ29 h0 99).toInt := by rw [(f1σ30.1 99 (by decide)).1]
  have tk87 : (sI σ30 (L 74) a1.toInt.toNat).toInt = (sI σ29 (L 74) a1.toInt.toNat).toInt := by rw [(f1σ30.2.1 74 (by decide) (by decide) _).1]
  have tk88 : (sI σ30 (L 68) a1.toInt.toNat).toInt = (sI σ29 (L 68) a1.toInt.toNat).toInt := by rw [(f1σ30.2.1 68 (by decide) (by decide) _).1]
  have tk89 : (sI σ30 (L 62) a1.toInt.toNat).toInt = (sI σ29 (L 62) a1.toInt.toNat).toInt := by rw [(f1σ30.2.1 62 (by decide) (by decide) _).1]
  have tk90 : (sI σ30 h0 16).toInt = (sI σ29 h0 16).toInt := by rw [(f1σ30.1 16 (by decide)).1]
  have hG := hG.fr f1σ30 (by decide) (by decide)
  have hIp := hI
  have p85 : sP σ30 h0 85 = some (L 75) := ((show Fr h0 L [86, 87, 88, 93, 94, 95, 98, 99, 90] [] σ15 σ30 from (((((((((Fr.rf.tr f1σ17 (by decide) (by decide)).tr f1σ19 (by decide) (by decide)).tr f1σ21 (by decide) (by decide)).tr f1σ22 (by decide) (by decide)).tr f1σ24 (by decide) (by decide)).tr f1σ25 (by decide) (by decide)).tr f1σ27 (by decide) (by decide)).tr f1σ29 (by decide) (by decide)).tr f1σ30 (by decide) (by decide))).1 85 (by decide)).2.2.trans (by rw [eσ15]; exact u2_same)
  have wg_ := hG.2.2.2.1 a1.toInt.toNat (by omega)
  have h74 := hI.aI 74 16 0 4000 (by decide) (by decide) rfl rfl rfl (i := a1.toInt) (by omega) rfl
  have e86 : (sI σ30 h0 86).toInt = 4000 * ((a1.toInt.toNat : Nat) : Int) := by omega
  have e87 : (sI σ30 h0 87).toInt = (sI σ30 (L 74) a1.toInt.toNat).toInt := by omega
  have hT2 := wg_.1
  rw [show (sI σ30 (L 68) a1.toInt.toNat).toInt = (sI σ30 h0 99).toInt by omega] at hT2
  have hw2 := wg_.2 (by omega)
  rw [← num_wn hI.2 p85 e86, ← num_wn hI.2 p85 e86, ← e87] at hw2
  have hG30 := hG
  have sg30 := hG.2.2.2.2.2
  refine s_X12_create hI a1 hG (Or.inr ⟨p85, by omega⟩) hT2 hw2 (fun h => by exfalso; omega) hB (by omega) (fun z32 σ31 hI fz32 pz32 => ?_)
  have hfr := hfr.tr fz32 (by decide) (by decide)
  have tk92 : (sI σ31 h0 86).toInt = (sI σ30 h0 86).toInt := by rw [(fz32.1 86 (by decide)).1]
  have tk93 : (sI σ31 h0 87).toInt = (sI σ30 h0 87).toInt := by rw [(fz32.1 87 (by decide)).1]
  have tk94 : (sI σ31 h0 98).toInt = (sI σ30 h0 98).toInt := by rw [(fz32.1 98 (by decide)).1]
  have tk95 : (sI σ31 h0 99).toInt = (sI σ30 h0 99).toInt := by rw [(fz32.1 99 (by decide)).1]
  have cr_ := pz32.2 (by omega)
  have oc30 : ∀ v : Int, oc L σ30 v = oc L σ v := fun v => oc_ff (show Fr h0 L [85, 86, 87, 88, 93, 94, 95, 98, 99, 90] [] σ σ30 from ((((((((((Fr.rf.tr f1σ15 (by decide) (by decide)).tr f1σ17 (by decide) (by decide)).tr f1σ19 (by decide) (by decide)).tr f1σ21 (by decide) (by decide)).tr f1σ22 (by decide) (by decide)).tr f1σ24 (by decide) (by decide)).tr f1σ25 (by decide) (by decide)).tr f1σ27 (by decide) (by decide)).tr f1σ29 (by decide) (by decide)).tr f1σ30 (by decide) (by decide))) (by decide) v
  have hG := pz32.1
  refine jn_in (fun (x : Int32) (σ' : HS) => σ31 = σ' ∧ ((0 ≤ x.toInt ∧ x.toInt ≤ 1) ∧ ((x.toInt = 0 ∧ z32.toInt = 259) ∨ (x.toInt = 1 ∧ z32.toInt ≠ 259)))) (fun x33 σ34 hJ => ?_) (fun K35 hK35 => ?_)
  · obtain ⟨hsg, hv⟩ := hJ
    subst hsg
    (try dsimp only at hv)
    have rg_x33 := i_range x33
    refine jn_in (fun (x : Unit) (σ' : HS) => OKM h0 L σ' ∧ Fr h0 L [16, 61, 62, 69, 85, 86, 87, 88, 90, 91, 93, 94, 95, 98, 99, 100, 109, 111, 115, 116, 117] [1, 2, 3, 4, 5, 6, 7, 8, 9, 10, 14, 15, 16, 17, 18, 19, 20, 21, 22, 23, 27, 28, 41, 42, 43, 44, 45, 46, 47, 48, 49, 50, 51, 53, 61, 62, 63, 64, 65, 66, 67, 68, 69, 70, 71, 72, 73, 74, 75, 76, 77, 78, 79] σ σ' ∧ (True) ∧ (((x33.toInt = 0 → (sI σ' h0 69).toInt = (sI σ h0 69).toInt ∧ ∀ v : Int, 0 ≤ v → oc L σ' v ≤ oc L σ v) ∧ (x33.toInt ≠ 0 → (sI σ' h0 69).toInt = (sI σ h0 69).toInt - 1 ∧ ∀ v : Int, 0 ≤ v → oc L σ' v ≤ oc L σ v + 1))) ∧ (GI h0 L B σ')) (fun x38 σ39 hJ => ?_) (fun K40 hK40 => ?_)
    · obtain ⟨hI, hfr, hv, hA, hG⟩ := hJ
      (try dsimp only at hv)
      intro σ43 eσ43
      have hMp := hI.2
      have hI := hI.pQ eσ43
      have hfr := hfr.fP eσ43 (by decide) rfl
      have f1σ43 : Fr h0 L [85] [] σ39 σ43 := Fr.rf.fP eσ43 (by decide) rfl
      have tk100 : (sI σ43 h0 69).toInt = (sI σ39 h0 69).toInt := by rw [(f1σ43.1 69 (by decide)).1]
      have tk101 : (sI σ43 h0 86).toInt = (sI σ39 h0 86).toInt := by rw [(f1σ43.1 86 (by decide)).1]
      have tk102 : (sI σ43 h0 87).toInt = (sI σ39 h0 87).toInt := by rw [(f1σ43.1 87 (by decide)).1]
      have tk103 : (sI σ43 h0 98).toInt = (sI σ39 h0 98).toInt := by rw [(f1σ43.1 98 (by decide)).1]
      have tk104 : (sI σ43 h0 99).toInt = (sI σ39 h0 99).toInt := by rw [(f1σ43.1 99 (by decide)).1]
      have tk105 : (sI σ43 (L 74) a1.toInt.toNat).toInt = (sI σ39 (L 74) a1.toInt.toNat).toInt := by rw [(f1σ43.2.1 74 (by decide) (by decide) _).1]
      have tk106 : (sI σ43 (L 68) a1.toInt.toNat).toInt = (sI σ39 (L 68) a1.toInt.toNat).toInt := by rw [(f1σ43.2.1 68 (by decide) (by decide) _).1]
      have tk107 : (sI σ43 (L 62) a1.toInt.toNat).toInt = (sI σ39 (L 62) a1.toInt.toNat).toInt := by rw [(f1σ43.2.1 62 (by decide) (by decide) _).1]
      have tk108 : (sI σ43 h0 16).toInt = (sI σ39 h0 16).toInt := by rw [(f1σ43.1 16 (by decide)).1]
      have hG := hG.fr f1σ43 (by decide) (by decide)
      intro σ44 eσ44
      have hMp := hI.2
      have hI := hI.pF 86 0 72600 rfl rfl (by omega) eσ44
      have hfr := hfr.fI hMp eσ44 (by decide) rfl
      have uσ44 : (sI σ44 h0 86).toInt = z2.toInt := by rw [eσ44]; exact congrArg Int32.toInt u2_same
      have f1σ44 : Fr h0 L [86] [] σ43 σ44 := Fr.rf.fI hMp eσ44 (by decide) rfl
      have tk109 : (sI σ44 h0 69).toInt = (sI σ43 h0 69).toInt := by rw [(f1σ44.1 69 (by decide)).1]
      have tk111 : (sI σ44 h0 87).toInt = (sI σ43 h0 87).toInt := by rw [(f1σ44.1 87 (by decide)).1]
      have tk112 : (sI σ44 h0 98).toInt = (sI σ43 h0 98).toInt := by rw [(f1σ44.1 98 (by decide)).1]
      have tk113 : (sI σ44 h0 99).toInt = (sI σ43 h0 99).toInt := by rw [(f1σ44.1 99 (by decide)).1]
      have tk114 : (sI σ44 (L 74) a1.toInt.toNat).toInt = (sI σ43 (L 74) a1.toInt.toNat).toInt := by rw [(f1σ44.2.1 74 (by decide) (by decide) _).1]
      have tk115 : (sI σ44 (L 68) a1.toInt.toNat).toInt = (sI σ43 (L 68) a1.toInt.toNat).toInt := by rw [(f1σ44.2.1 68 (by decide) (by decide) _).1]
      have tk116 : (sI σ44 (L 62) a1.toInt.toNat).toInt = (sI σ43 (L 62) a1.toInt.toNat).toInt := by rw [(f1σ44.2.1 62 (by decide) (by decide) _).1]
      have tk117 : (sI σ44 h0 16).toInt = (sI σ43 h0 16).toInt := by rw [(f1σ44.1 16 (by decide)).1]
      have hG := hG.fr f1σ44 (by decide) (by decide)
      intro σ45 eσ45
      have hMp := hI.2
      have hI := hI.pF 87 0 4000 rfl rfl (by omega) eσ45
      have hfr := hfr.fI hMp eσ45 (by decide) rfl
      have uσ45 : (sI σ45 h0 87).toInt = z3.toInt := by rw [eσ45]; exact congrArg Int32.toInt u2_same
      have f1σ45 : Fr h0 L [87] [] σ44 σ45 := Fr.rf.fI hMp eσ45 (by decide) rfl
      have tk118 : (sI σ45 h0 69).toInt = (sI σ44 h0 69).toInt := by rw [(f1σ45.1 69 (by decide)).1]
      have tk119 : (sI σ45 h0 86).toInt = (sI σ44 h0 86).toInt := by rw [(f1σ45.1 86 (by decide)).1]
      have tk121 : (sI σ45 h0 98).toInt = (sI σ44 h0 98).toInt := by rw [(f1σ45.1 98 (by decide)).1]
      have tk122 : (sI σ45 h0 99).toInt = (sI σ44 h0 99).toInt := by rw [(f1σ45.1 99 (by decide)).1]
      have tk123 : (sI σ45 (L 74) a1.toInt.toNat).toInt = (sI σ44 (L 74) a1.toInt.toNat).toInt := by rw [(f1σ45.2.1 74 (by decide) (by decide) _).1]
      have tk124 : (sI σ45 (L 68) a1.toInt.toNat).toInt = (sI σ44 (L 68) a1.toInt.toNat).toInt := by rw [(f1σ45.2.1 68 (by decide) (by decide) _).1]
      have tk125 : (sI σ45 (L 62) a1.toInt.toNat).toInt = (sI σ44 (L 62) a1.toInt.toNat).toInt := by rw [(f1σ45.2.1 62 (by decide) (by decide) _).1]
      have tk126 : (sI σ45 h0 16).toInt = (sI σ44 h0 16).toInt := by rw [(f1σ45.1 16 (by decide)).1]
      have hG := hG.fr f1σ45 (by decide) (by decide)
      intro σ46 eσ46
      have hMp := hI.2
      have hI := hI.pF 88 0 5 rfl rfl (by omega) eσ46
      have hfr := hfr.fI hMp eσ46 (by decide) rfl
      have uσ46 : (sI σ46 h0 88).toInt = z4.toInt := by rw [eσ46]; exact congrArg Int32.toInt u2_same
      have f1σ46 : Fr h0 L [88] [] σ45 σ46 := Fr.rf.fI hMp eσ46 (by decide) rfl
      have tk127 : (sI σ46 h0 69).toInt = (sI σ45 h0 69).toInt := by rw [(f1σ46.1 69 (by decide)).1]
      have tk128 : (sI σ46 h0 86).toInt = (sI σ45 h0 86).toInt := by rw [(f1σ46.1 86 (by decide)).1]
      have tk129 : (sI σ46 h0 87).toInt = (sI σ45 h0 87).toInt := by rw [(f1σ46.1 87 (by decide)).1]
      have tk130 : (sI σ46 h0 98).toInt = (sI σ45 h0 98).toInt := by rw [(f1σ46.1 98 (by decide)).1]
      have tk131 : (sI σ46 h0 99).toInt = (sI σ45 h0 99).toInt := by rw [(f1σ46.1 99 (by decide)).1]
      have tk132 : (sI σ46 (L 74) a1.toInt.toNat).toInt = (sI σ45 (L 74) a1.toInt.toNat).toInt := by rw [(f1σ46.2.1 74 (by decide) (by decide) _).1]
      have tk133 : (sI σ46 (L 68) a1.toInt.toNat).toInt = (sI σ45 (L 68) a1.toInt.toNat).toInt := by rw [(f1σ46.2.1 68 (by decide) (by decide) _).1]
      have tk134 : (sI σ46 (L 62) a1.toInt.toNat).toInt = (sI σ45 (L 62) a1.toInt.toNat).toInt := by rw [(f1σ46.2.1 62 (by decide) (by decide) _).1]
      have tk135 : (sI σ46 h0 16).toInt = (sI σ45 h0 16).toInt := by rw [(f1σ46.1 16 (by decide)).1]
      have hG := hG.fr f1σ46 (by decide) (by decide)
      intro σ47 eσ47
      have hMp := hI.2
      have hI := hI.pF 93 0 65535 rfl rfl (by omega) eσ47
      have hfr := hfr.fI hMp eσ47 (by decide) rfl
      have uσ47 : (sI σ47 h0 93).toInt = z5.toInt := by rw [eσ47]; exact congrArg Int32.toInt u2_same
      have f1σ47 : Fr h0 L [93] [] σ46 σ47 := Fr.rf.fI hMp eσ47 (by decide) rfl
      have tk136 : (sI σ47 h0 69).toInt = (sI σ46 h0 69).toInt := by rw [(f1σ47.1 69 (by decide)).1]
      have tk137 : (sI σ47 h0 86).toInt = (sI σ46 h0 86).toInt := by rw [(f1σ47.1 86 (by decide)).1]
      have tk138 : (sI σ47 h0 87).toInt = (sI σ46 h0 87).toInt := by rw [(f1σ47.1 87 (by decide)).1]
      have tk139 : (sI σ47 h0 98).toInt = (sI σ46 h0 98).toInt := by rw [(f1σ47.1 98 (by decide)).1]
      have tk140 : (sI σ47 h0 99).toInt = (sI σ46 h0 99).toInt := by rw [(f1σ47.1 99 (by decide)).1]
      have tk141 : (sI σ47 (L 74) a1.toInt.toNat).toInt = (sI σ46 (L 74) a1.toInt.toNat).toInt := by rw [(f1σ47.2.1 74 (by decide) (by decide) _).1]
      have tk142 : (sI σ47 (L 68) a1.toInt.toNat).toInt = (sI σ46 (L 68) a1.toInt.toNat).toInt := by rw [(f1σ47.2.1 68 (by decide) (by decide) _).1]
      have tk143 : (sI σ47 (L 62) a1.toInt.toNat).toInt = (sI σ46 (L 62) a1.toInt.toNat).toInt := by rw [(f1σ47.2.1 62 (by decide) (by decide) _).1]
      have tk144 : (sI σ47 h0 16).toInt = (sI σ46 h0 16).toInt := by rw [(f1σ47.1 16 (by decide)).1]
      have hG := hG.fr f1σ47 (by decide) (by decide)
      refine ⟨by omega, ?_⟩
      intro σ48 eσ48
      have hMp := hI.2
      have hI := hI.pF 94 0 1 rfl rfl (by omega) eσ48
      have hfr := hfr.fI hMp eσ48 (by decide) rfl
      have uσ48 : (sI σ48 h0 94).toInt = z6.toInt := by rw [eσ48]; exact congrArg Int32.toInt u2_same
      have f1σ48 : Fr h0 L [94] [] σ47 σ48 := Fr.rf.fI hMp eσ48 (by decide) rfl
      have tk145 : (sI σ48 h0 69).toInt = (sI σ47 h0 69).toInt := by rw [(f1σ48.1 69 (by decide)).1]
      have tk146 : (sI σ48 h0 86).toInt = (sI σ47 h0 86).toInt := by rw [(f1σ48.1 86 (by decide)).1]
      have tk147 : (sI σ48 h0 87).toInt = (sI σ47 h0 87).toInt := by rw [(f1σ48.1 87 (by decide)).1]
      have tk148 : (sI σ48 h0 98).toInt = (sI σ47 h0 98).toInt := by rw [(f1σ48.1 98 (by decide)).1]
      have tk149 : (sI σ48 h0 99).toInt = (sI σ47 h0 99).toInt := by rw [(f1σ48.1 99 (by decide)).1]
      have tk150 : (sI σ48 (L 74) a1.toInt.toNat).toInt = (sI σ47 (L 74) a1.toInt.toNat).toInt := by rw [(f1σ48.2.1 74 (by decide) (by decide) _).1]
      have tk151 : (sI σ48 (L 68) a1.toInt.toNat).toInt = (sI σ47 (L 68) a1.toInt.toNat).toInt := by rw [(f1σ48.2.1 68 (by decide) (by decide) _).1]
      have tk152 : (sI σ48 (L 62) a1.toInt.toNat).toInt = (sI σ47 (L 62) a1.toInt.toNat).toInt := by rw [(f1σ48.2.1 62 (by decide) (by decide) _).1]
      have tk153 : (sI σ48 h0 16).toInt = (sI σ47 h0 16).toInt := by rw [(f1σ48.1 16 (by decide)).1]
      have hG := hG.fr f1σ48 (by decide) (by decide)
      refine ⟨by omega, ?_⟩
      intro σ49 eσ49
      have hMp := hI.2
      have hI := hI.pF 95 0 1 rfl rfl (by omega) eσ49
      have hfr := hfr.fI hMp eσ49 (by decide) rfl
      have uσ49 : (sI σ49 h0 95).toInt = z7.toInt := by rw [eσ49]; exact congrArg Int32.toInt u2_same
      have f1σ49 : Fr h0 L [95] [] σ48 σ49 := Fr.rf.fI hMp eσ49 (by decide) rfl
      have tk154 : (sI σ49 h0 69).toInt = (sI σ48 h0 69).toInt := by rw [(f1σ49.1 69 (by decide)).1]
      have tk155 : (sI σ49 h0 86).toInt = (sI σ48 h0 86).toInt := by rw [(f1σ49.1 86 (by decide)).1]
      have tk156 : (sI σ49 h0 87).toInt = (sI σ48 h0 87).toInt := by rw [(f1σ49.1 87 (by decide)).1]
      have tk157 : (sI σ49 h0 98).toInt = (sI σ48 h0 98).toInt := by rw [(f1σ49.1 98 (by decide)).1]
      have tk158 : (sI σ49 h0 99).toInt = (sI σ48 h0 99).toInt := by rw [(f1σ49.1 99 (by decide)).1]
      have tk159 : (sI σ49 (L 74) a1.toInt.toNat).toInt = (sI σ48 (L 74) a1.toInt.toNat).toInt := by rw [(f1σ49.2.1 74 (by decide) (by decide) _).1]
      have tk160 : (sI σ49 (L 68) a1.toInt.toNat).toInt = (sI σ48 (L 68) a1.toInt.toNat).toInt := by rw [(f1σ49.2.1 68 (by decide) (by decide) _).1]
      have tk161 : (sI σ49 (L 62) a1.toInt.toNat).toInt = (sI σ48 (L 62) a1.toInt.toNat).toInt := by rw [(f1σ49.2.1 62 (by decide) (by decide) _).1]
      have tk162 : (sI σ49 h0 16).toInt = (sI σ48 h0 16).toInt := by rw [(f1σ49.1 16 (by decide)).1]
      have hG := hG.fr f1σ49 (by decide) (by decide)
      intro σ50 eσ50
      have hMp := hI.2
      have hI := hI.pF 98 (-1) 7 rfl rfl (by omega) eσ50
      have hfr := hfr.fI hMp eσ50 (by decide) rfl
      have uσ50 : (sI σ50 h0 98).toInt = z8.toInt := by rw [eσ50]; exact congrArg Int32.toInt u2_same
      have f1σ50 : Fr h0 L [98] [] σ49 σ50 := Fr.rf.fI hMp eσ50 (by decide) rfl
      have tk163 : (sI σ50 h0 69).toInt = (sI σ49 h0 69).toInt := by rw [(f1σ50.1 69 (by decide)).1]
      have tk164 : (sI σ50 h0 86).toInt = (sI σ49 h0 86).toInt := by rw [(f1σ50.1 86 (by decide)).1]
      have tk165 : (sI σ50 h0 87).toInt = (sI σ49 h0 87).toInt := by rw [(f1σ50.1 87 (by decide)).1]
      have tk167 : (sI σ50 h0 99).toInt = (sI σ49 h0 99).toInt := by rw [(f1σ50.1 99 (by decide)).1]
      have tk168 : (sI σ50 (L 74) a1.toInt.toNat).toInt = (sI σ49 (L 74) a1.toInt.toNat).toInt := by rw [(f1σ50.2.1 74 (by decide) (by decide) _).1]
      have tk169 : (sI σ50 (L 68) a1.toInt.toNat).toInt = (sI σ49 (L 68) a1.toInt.toNat).toInt := by rw [(f1σ50.2.1 68 (by decide) (by decide) _).1]
      have tk170 : (sI σ50 (L 62) a1.toInt.toNat).toInt = (sI σ49 (L 62) a1.toInt.toNat).toInt := by rw [(f1σ50.2.1 62 (by decide) (by decide) _).1]
      have tk171 : (sI σ50 h0 16).toInt = (sI σ49 h0 16).toInt := by rw [(f1σ50.1 16 (by decide)).1]
      have hG := hG.fr f1σ50 (by decide) (by decide)
      intro σ51 eσ51
      have hMp := hI.2
      have hI := hI.pF 99 (-1) 15 rfl rfl (by omega) eσ51
      have hfr := hfr.fI hMp eσ51 (by decide) rfl
      have uσ51 : (sI σ51 h0 99).toInt = z9.toInt := by rw [eσ51]; exact congrArg Int32.toInt u2_same
      have f1σ51 : Fr h0 L [99] [] σ50 σ51 := Fr.rf.fI hMp eσ51 (by decide) rfl
      have tk172 : (sI σ51 h0 69).toInt = (sI σ50 h0 69).toInt := by rw [(f1σ51.1 69 (by decide)).1]
      have tk173 : (sI σ51 h0 86).toInt = (sI σ50 h0 86).toInt := by rw [(f1σ51.1 86 (by decide)).1]
      have tk174 : (sI σ51 h0 87).toInt = (sI σ50 h0 87).toInt := by rw [(f1σ51.1 87 (by decide)).1]
      have tk175 : (sI σ51 h0 98).toInt = (sI σ50 h0 98).toInt := by rw [(f1σ51.1 98 (by decide)).1]
      have tk177 : (sI σ51 (L 74) a1.toInt.toNat).toInt = (sI σ50 (L 74) a1.toInt.toNat).toInt := by rw [(f1σ51.2.1 74 (by decide) (by decide) _).1]
      have tk178 : (sI σ51 (L 68) a1.toInt.toNat).toInt = (sI σ50 (L 68) a1.toInt.toNat).toInt := by rw [(f1σ51.2.1 68 (by decide) (by decide) _).1]
      have tk179 : (sI σ51 (L 62) a1.toInt.toNat).toInt = (sI σ50 (L 62) a1.toInt.toNat).toInt := by rw [(f1σ51.2.1 62 (by decide) (by decide) _).1]
      have tk180 : (sI σ51 h0 16).toInt = (sI σ50 h0 16).toInt := by rw [(f1σ51.1 16 (by decide)).1]
      have hG := hG.fr f1σ51 (by decide) (by decide)
      intro σ52 eσ52
      have hMp := hI.2
      have hI := hI.pF 100 (-1) 39 rfl rfl (by omega) eσ52
      have hfr := hfr.fI hMp eσ52 (by decide) rfl
      have uσ52 : (sI σ52 h0 100).toInt = z10.toInt := by rw [eσ52]; exact congrArg Int32.toInt u2_same
      have f1σ52 : Fr h0 L [100] [] σ51 σ52 := Fr.rf.fI hMp eσ52 (by decide) rfl
      have tk181 : (sI σ52 h0 69).toInt = (sI σ51 h0 69).toInt := by rw [(f1σ52.1 69 (by decide)).1]
      have tk182 : (sI σ52 h0 86).toInt = (sI σ51 h0 86).toInt := by rw [(f1σ52.1 86 (by decide)).1]
      have tk183 : (sI σ52 h0 87).toInt = (sI σ51 h0 87).toInt := by rw [(f1σ52.1 87 (by decide)).1]
      have tk184 : (sI σ52 h0 98).toInt = (sI σ51 h0 98).toInt := by rw [(f1σ52.1 98 (by decide)).1]
      have tk185 : (sI σ52 h0 99).toInt = (sI σ51 h0 99).toInt := by rw [(f1σ52.1 99 (by decide)).1]
      have tk186 : (sI σ52 (L 74) a1.toInt.toNat).toInt = (sI σ51 (L 74) a1.toInt.toNat).toInt := by rw [(f1σ52.2.1 74 (by decide) (by decide) _).1]
      have tk187 : (sI σ52 (L 68) a1.toInt.toNat).toInt = (sI σ51 (L 68) a1.toInt.toNat).toInt := by rw [(f1σ52.2.1 68 (by decide) (by decide) _).1]
      have tk188 : (sI σ52 (L 62) a1.toInt.toNat).toInt = (sI σ51 (L 62) a1.toInt.toNat).toInt := by rw [(f1σ52.2.1 62 (by decide) (by decide) _).1]
      have tk189 : (sI σ52 h0 16).toInt = (sI σ51 h0 16).toInt := by rw [(f1σ52.1 16 (by decide)).1]
      have hG := hG.fr f1σ52 (by decide) (by decide)
      intro σ53 eσ53
      have hMp := hI.2
      have hI := hI.pJ eσ53
      have hfr := hfr.fJ hMp eσ53 (by decide) rfl
      have f1σ53 : Fr h0 L [111] [] σ52 σ53 := Fr.rf.fJ hMp eσ53 (by decide) rfl
      have tk190 : (sI σ53 h0 69).toInt = (sI σ52 h0 69).toInt := by rw [(f1σ53.1 69 (by decide)).1]
      have tk191 : (sI σ53 h0 86).toInt = (sI σ52 h0 86).toInt := by rw [(f1σ53.1 86 (by decide)).1]
      have tk192 : (sI σ53 h0 87).toInt = (sI σ52 h0 87).toInt := by rw [(f1σ53.1 87 (by decide)).1]
      have tk193 : (sI σ53 h0 98).toInt = (sI σ52 h0 98).toInt := by rw [(f1σ53.1 98 (by decide)).1]
      have tk194 : (sI σ53 h0 99).toInt = (sI σ52 h0 99).toInt := by rw [(f1σ53.1 99 (by decide)).1]
      have tk195 : (sI σ53 (L 74) a1.toInt.toNat).toInt = (sI σ52 (L 74) a1.toInt.toNat).toInt := by rw [(f1σ53.2.1 74 (by decide) (by decide) _).1]
      have tk196 : (sI σ53 (L 68) a1.toInt.toNat).toInt = (sI σ52 (L 68) a1.toInt.toNat).toInt := by rw [(f1σ53.2.1 68 (by decide) (by decide) _).1]
      have tk197 : (sI σ53 (L 62) a1.toInt.toNat).toInt = (sI σ52 (L 62) a1.toInt.toNat).toInt := by rw [(f1σ53.2.1 62 (by decide) (by decide) _).1]
      have tk198 : (sI σ53 h0 16).toInt = (sI σ52 h0 16).toInt := by rw [(f1σ53.1 16 (by decide)).1]
      have hG := hG.fr f1σ53 (by decide) (by decide)
      refine ⟨by omega, ?_⟩
      intro σ54 eσ54
      have hMp := hI.2
      have hI := hI.pF 109 0 1 rfl rfl (by omega) eσ54
      have hfr := hfr.fI hMp eσ54 (by decide) rfl
      have uσ54 : (sI σ54 h0 109).toInt = z12.toInt := by rw [eσ54]; exact congrArg Int32.toInt u2_same
      have f1σ54 : Fr h0 L [109] [] σ53 σ54 := Fr.rf.fI hMp eσ54 (by decide) rfl
      have tk199 : (sI σ54 h0 69).toInt = (sI σ53 h0 69).toInt := by rw [(f1σ54.1 69 (by decide)).1]
      have tk200 : (sI σ54 h0 86).toInt = (sI σ53 h0 86).toInt := by rw [(f1σ54.1 86 (by decide)).1]
      have tk201 : (sI σ54 h0 87).toInt = (sI σ53 h0 87).toInt := by rw [(f1σ54.1 87 (by decide)).1]
      have tk202 : (sI σ54 h0 98).toInt = (sI σ53 h0 98).toInt := by rw [(f1σ54.1 98 (by decide)).1]
      have tk203 : (sI σ54 h0 99).toInt = (sI σ53 h0 99).toInt := by rw [(f1σ54.1 99 (by decide)).1]
      have tk204 : (sI σ54 (L 74) a1.toInt.toNat).toInt = (sI σ53 (L 74) a1.toInt.toNat).toInt := by rw [(f1σ54.2.1 74 (by decide) (by decide) _).1]
      have tk205 : (sI σ54 (L 68) a1.toInt.toNat).toInt = (sI σ53 (L 68) a1.toInt.toNat).toInt := by rw [(f1σ54.2.1 68 (by decide) (by decide) _).1]
      have tk206 : (sI σ54 (L 62) a1.toInt.toNat).toInt = (sI σ53 (L 62) a1.toInt.toNat).toInt := by rw [(f1σ54.2.1 62 (by decide) (by decide) _).1]
      have tk207 : (sI σ54 h0 16).toInt = (sI σ53 h0 16).toInt := by rw [(f1σ54.1 16 (by decide)).1]
      have hG := hG.fr f1σ54 (by decide) (by decide)
      intro σ55 eσ55
      have hMp := hI.2
      have hI := hI.pF 90 0 85000 rfl rfl (by omega) eσ55
      have hfr := hfr.fI hMp eσ55 (by decide) rfl
      have uσ55 : (sI σ55 h0 90).toInt = z13.toInt := by rw [eσ55]; exact congrArg Int32.toInt u2_same
      have f1σ55 : Fr h0 L [90] [] σ54 σ55 := Fr.rf.fI hMp eσ55 (by decide) rfl
      have tk208 : (sI σ55 h0 69).toInt = (sI σ54 h0 69).toInt := by rw [(f1σ55.1 69 (by decide)).1]
      have tk209 : (sI σ55 h0 86).toInt = (sI σ54 h0 86).toInt := by rw [(f1σ55.1 86 (by decide)).1]
      have tk210 : (sI σ55 h0 87).toInt = (sI σ54 h0 87).toInt := by rw [(f1σ55.1 87 (by decide)).1]
      have tk211 : (sI σ55 h0 98).toInt = (sI σ54 h0 98).toInt := by rw [(f1σ55.1 98 (by decide)).1]
      have tk212 : (sI σ55 h0 99).toInt = (sI σ54 h0 99).toInt := by rw [(f1σ55.1 99 (by decide)).1]
      have tk213 : (sI σ55 (L 74) a1.toInt.toNat).toInt = (sI σ54 (L 74) a1.toInt.toNat).toInt := by rw [(f1σ55.2.1 74 (by decide) (by decide) _).1]
      have tk214 : (sI σ55 (L 68) a1.toInt.toNat).toInt = (sI σ54 (L 68) a1.toInt.toNat).toInt := by rw [(f1σ55.2.1 68 (by decide) (by decide) _).1]
      have tk215 : (sI σ55 (L 62) a1.toInt.toNat).toInt = (sI σ54 (L 62) a1.toInt.toNat).toInt := by rw [(f1σ55.2.1 62 (by decide) (by decide) _).1]
      have tk216 : (sI σ55 h0 16).toInt = (sI σ54 h0 16).toInt := by rw [(f1σ55.1 16 (by decide)).1]
      have hG := hG.fr f1σ55 (by decide) (by decide)
      intro σ56 eσ56
      have hMp := hI.2
      have hI := hI.pF 91 0 1200 rfl rfl (by omega) eσ56
      have hfr := hfr.fI hMp eσ56 (by decide) rfl
      have uσ56 : (sI σ56 h0 91).toInt = z14.toInt := by rw [eσ56]; exact congrArg Int32.toInt u2_same
      have f1σ56 : Fr h0 L [91] [] σ55 σ56 := Fr.rf.fI hMp eσ56 (by decide) rfl
      have tk217 : (sI σ56 h0 69).toInt = (sI σ55 h0 69).toInt := by rw [(f1σ56.1 69 (by decide)).1]
      have tk218 : (sI σ56 h0 86).toInt = (sI σ55 h0 86).toInt := by rw [(f1σ56.1 86 (by decide)).1]
      have tk219 : (sI σ56 h0 87).toInt = (sI σ55 h0 87).toInt := by rw [(f1σ56.1 87 (by decide)).1]
      have tk220 : (sI σ56 h0 98).toInt = (sI σ55 h0 98).toInt := by rw [(f1σ56.1 98 (by decide)).1]
      have tk221 : (sI σ56 h0 99).toInt = (sI σ55 h0 99).toInt := by rw [(f1σ56.1 99 (by decide)).1]
      have tk222 : (sI σ56 (L 74) a1.toInt.toNat).toInt = (sI σ55 (L 74) a1.toInt.toNat).toInt := by rw [(f1σ56.2.1 74 (by decide) (by decide) _).1]
      have tk223 : (sI σ56 (L 68) a1.toInt.toNat).toInt = (sI σ55 (L 68) a1.toInt.toNat).toInt := by rw [(f1σ56.2.1 68 (by decide) (by decide) _).1]
      have tk224 : (sI σ56 (L 62) a1.toInt.toNat).toInt = (sI σ55 (L 62) a1.toInt.toNat).toInt := by rw [(f1σ56.2.1 62 (by decide) (by decide) _).1]
      have tk225 : (sI σ56 h0 16).toInt = (sI σ55 h0 16).toInt := by rw [(f1σ56.1 16 (by decide)).1]
      have hG := hG.fr f1σ56 (by decide) (by decide)
      refine ⟨by omega, ?_⟩
      have hfr := hfr.dP (fs2 := [16, 61, 62, 69, 86, 87, 88, 90, 91, 93, 94, 95, 98, 99, 100, 109, 111, 115, 116, 117]) 85 rfl (((show Fr h0 L [86, 87, 88, 93, 94, 95, 98, 99, 100, 111, 109, 90, 91] [] σ43 σ56 from (((((((((((((Fr.rf.tr f1σ44 (by decide) (by decide)).tr f1σ45 (by decide) (by decide)).tr f1σ46 (by decide) (by decide)).tr f1σ47 (by decide) (by decide)).tr f1σ48 (by decide) (by decide)).tr f1σ49 (by decide) (by decide)).tr f1σ50 (by decide) (by decide)).tr f1σ51 (by decide) (by decide)).tr f1σ52 (by decide) (by decide)).tr f1σ53 (by decide) (by decide)).tr f1σ54 (by decide) (by decide)).tr f1σ55 (by decide) (by decide)).tr f1σ56 (by decide) (by decide))).1 85 (by decide)).2.2.trans ((by rw [eσ43]; exact u2_same : sP σ43 h0 85 = z1).trans ez1)) (by decide)
      have hfr := hfr.dI (fs2 := [16, 61, 62, 69, 87, 88, 90, 91, 93, 94, 95, 98, 99, 100, 109, 111, 115, 116, 117]) 86 rfl (((show Fr h0 L [87, 88, 93, 94, 95, 98, 99, 100, 111, 109, 90, 91] [] σ44 σ56 from ((((((((((((Fr.rf.tr f1σ45 (by decide) (by decide)).tr f1σ46 (by decide) (by decide)).tr f1σ47 (by decide) (by decide)).tr f1σ48 (by decide) (by decide)).tr f1σ49 (by decide) (by decide)).tr f1σ50 (by decide) (by decide)).tr f1σ51 (by decide) (by decide)).tr f1σ52 (by decide) (by decide)).tr f1σ53 (by decide) (by decide)).tr f1σ54 (by decide) (by decide)).tr f1σ55 (by decide) (by decide)).tr f1σ56 (by decide) (by decide))).1 86 (by decide)).1.trans ((by rw [eσ44]; exact u2_same : sI σ44 h0 86 = z2).trans ez2)) (by decide)
      have hfr := hfr.dI (fs2 := [16, 61, 62, 69, 88, 90, 91, 93, 94, 95, 98, 99, 100, 109, 111, 115, 116, 117]) 87 rfl (((show Fr h0 L [88, 93, 94, 95, 98, 99, 100, 111, 109, 90, 91] [] σ45 σ56 from (((((((((((Fr.rf.tr f1σ46 (by decide) (by decide)).tr f1σ47 (by decide) (by decide)).tr f1σ48 (by decide) (by decide)).tr f1σ49 (by decide) (by decide)).tr f1σ50 (by decide) (by decide)).tr f1σ51 (by decide) (by decide)).tr f1σ52 (by decide) (by decide)).tr f1σ53 (by decide) (by decide)).tr f1σ54 (by decide) (by decide)).tr f1σ55 (by decide) (by decide)).tr f1σ56 (by decide) (by decide))).1 87 (by decide)).1.trans ((by rw [eσ45]; exact u2_same : sI σ45 h0 87 = z3).trans ez3)) (by decide)
      have hfr := hfr.dI (fs2 := [16, 61, 62, 69, 90, 91, 93, 94, 95, 98, 99, 100, 109, 111, 115, 116, 117]) 88 rfl (((show Fr h0 L [93, 94, 95, 98, 99, 100, 111, 109, 90, 91] [] σ46 σ56 from ((((((((((Fr.rf.tr f1σ47 (by decide) (by decide)).tr f1σ48 (by decide) (by decide)).tr f1σ49 (by decide) (by decide)).tr f1σ50 (by decide) (by decide)).tr f1σ51 (by decide) (by decide)).tr f1σ52 (by decide) (by decide)).tr f1σ53 (by decide) (by decide)).tr f1σ54 (by decide) (by decide)).tr f1σ55 (by decide) (by decide)).tr f1σ56 (by decide) (by decide))).1 88 (by decide)).1.trans ((by rw [eσ46]; exact u2_same : sI σ46 h0 88 = z4).trans ez4)) (by decide)
      have hfr := hfr.dI (fs2 := [16, 61, 62, 69, 90, 91, 94, 95, 98, 99, 100, 109, 111, 115, 116, 117]) 93 rfl (((show Fr h0 L [94, 95, 98, 99, 100, 111, 109, 90, 91] [] σ47 σ56 from (((((((((Fr.rf.tr f1σ48 (by decide) (by decide)).tr f1σ49 (by decide) (by decide)).tr f1σ50 (by decide) (by decide)).tr f1σ51 (by decide) (by decide)).tr f1σ52 (by decide) (by decide)).tr f1σ53 (by decide) (by decide)).tr f1σ54 (by decide) (by decide)).tr f1σ55 (by decide) (by decide)).tr f1σ56 (by decide) (by decide))).1 93 (by decide)).1.trans ((by rw [eσ47]; exact u2_same : sI σ47 h0 93 = z5).trans ez5)) (by decide)
      have hfr := hfr.dI (fs2 := [16, 61, 62, 69, 90, 91, 95, 98, 99, 100, 109, 111, 115, 116, 117]) 94 rfl (((show Fr h0 L [95, 98, 99, 100, 111, 109, 90, 91] [] σ48 σ56 from ((((((((Fr.rf.tr f1σ49 (by decide) (by decide)).tr f1σ50 (by decide) (by decide)).tr f1σ51 (by decide) (by decide)).tr f1σ52 (by decide) (by decide)).tr f1σ53 (by decide) (by decide)).tr f1σ54 (by decide) (by decide)).tr f1σ55 (by decide) (by decide)).tr f1σ56 (by decide) (by decide))).1 94 (by decide)).1.trans ((by rw [eσ48]; exact u2_same : sI σ48 h0 94 = z6).trans ez6)) (by decide)
      have hfr := hfr.dI (fs2 := [16, 61, 62, 69, 90, 91, 98, 99, 100, 109, 111, 115, 116, 117]) 95 rfl (((show Fr h0 L [98, 99, 100, 111, 109, 90, 91] [] σ49 σ56 from (((((((Fr.rf.tr f1σ50 (by decide) (by decide)).tr f1σ51 (by decide) (by decide)).tr f1σ52 (by decide) (by decide)).tr f1σ53 (by decide) (by decide)).tr f1σ54 (by decide) (by decide)).tr f1σ55 (by decide) (by decide)).tr f1σ56 (by decide) (by decide))).1 95 (by decide)).1.trans ((by rw [eσ49]; exact u2_same : sI σ49 h0 95 = z7).trans ez7)) (by decide)
      have hfr := hfr.dI (fs2 := [16, 61, 62, 69, 90, 91, 99, 100, 109, 111, 115, 116, 117]) 98 rfl (((show Fr h0 L [99, 100, 111, 109, 90, 91] [] σ50 σ56 from ((((((Fr.rf.tr f1σ51 (by decide) (by decide)).tr f1σ52 (by decide) (by decide)).tr f1σ53 (by decide) (by decide)).tr f1σ54 (by decide) (by decide)).tr f1σ55 (by decide) (by decide)).tr f1σ56 (by decide) (by decide))).1 98 (by decide)).1.trans ((by rw [eσ50]; exact u2_same : sI σ50 h0 98 = z8).trans ez8)) (by decide)
      have hfr := hfr.dI (fs2 := [16, 61, 62, 69, 90, 91, 100, 109, 111, 115, 116, 117]) 99 rfl (((show Fr h0 L [100, 111, 109, 90, 91] [] σ51 σ56 from (((((Fr.rf.tr f1σ52 (by decide) (by decide)).tr f1σ53 (by decide) (by decide)).tr f1σ54 (by decide) (by decide)).tr f1σ55 (by decide) (by decide)).tr f1σ56 (by decide) (by decide))).1 99 (by decide)).1.trans ((by rw [eσ51]; exact u2_same : sI σ51 h0 99 = z9).trans ez9)) (by decide)
      have hfr := hfr.dI (fs2 := [16, 61, 62, 69, 90, 91, 109, 111, 115, 116, 117]) 100 rfl (((show Fr h0 L [111, 109, 90, 91] [] σ52 σ56 from ((((Fr.rf.tr f1σ53 (by decide) (by decide)).tr f1σ54 (by decide) (by decide)).tr f1σ55 (by decide) (by decide)).tr f1σ56 (by decide) (by decide))).1 100 (by decide)).1.trans ((by rw [eσ52]; exact u2_same : sI σ52 h0 100 = z10).trans ez10)) (by decide)
      have hfr := hfr.dJ (fs2 := [16, 61, 62, 69, 90, 91, 109, 115, 116, 117]) 111 rfl (((show Fr h0 L [109, 90, 91] [] σ53 σ56 from (((Fr.rf.tr f1σ54 (by decide) (by decide)).tr f1σ55 (by decide) (by decide)).tr f1σ56 (by decide) (by decide))).1 111 (by decide)).2.1.trans ((by rw [eσ53]; exact u2_same : sJ σ53 h0 111 = z11).trans ez11)) (by decide)
      have hfr := hfr.dI (fs2 := [16, 61, 62, 69, 90, 91, 115, 116, 117]) 109 rfl (((show Fr h0 L [90, 91] [] σ54 σ56 from ((Fr.rf.tr f1σ55 (by decide) (by decide)).tr f1σ56 (by decide) (by decide))).1 109 (by decide)).1.trans ((by rw [eσ54]; exact u2_same : sI σ54 h0 109 = z12).trans ez12)) (by decide)
      have hfr := hfr.dI (fs2 := [16, 61, 62, 69, 91, 115, 116, 117]) 90 rfl (((show Fr h0 L [91] [] σ55 σ56 from (Fr.rf.tr f1σ56 (by decide) (by decide))).1 90 (by decide)).1.trans ((by rw [eσ55]; exact u2_same : sI σ55 h0 90 = z13).trans ez13)) (by decide)
      have hfr := hfr.dI (fs2 := [16, 61, 62, 69, 115, 116, 117]) 91 rfl ((by rw [eσ56]; exact u2_same : sI σ56 h0 91 = z14).trans ez14) (by decide)
      exact kk x33 σ56 hI hfr ⟨hG, ⟨by omega, fun h => ⟨by have q := (hA.1 h).1; omega, fun v hv_ => by rw [oc_ff (show Fr h0 L [85, 86, 87, 88, 93, 94, 95, 98, 99, 100, 111, 109, 90, 91] [] σ39 σ56 from ((((((((((((((Fr.rf.tr f1σ43 (by decide) (by decide)).tr f1σ44 (by decide) (by decide)).tr f1σ45 (by decide) (by decide)).tr f1σ46 (by decide) (by decide)).tr f1σ47 (by decide) (by decide)).tr f1σ48 (by decide) (by decide)).tr f1σ49 (by decide) (by decide)).tr f1σ50 (by decide) (by decide)).tr f1σ51 (by decide) (by decide)).tr f1σ52 (by decide) (by decide)).tr f1σ53 (by decide) (by decide)).tr f1σ54 (by decide) (by decide)).tr f1σ55 (by decide) (by decide)).tr f1σ56 (by decide) (by decide))) (by decide)]; exact (hA.1 h).2 v hv_⟩, fun h => ⟨by have q := (hA.2 h).1; omega, fun v hv_ => by rw [oc_ff (show Fr h0 L [85, 86, 87, 88, 93, 94, 95, 98, 99, 100, 111, 109, 90, 91] [] σ39 σ56 from ((((((((((((((Fr.rf.tr f1σ43 (by decide) (by decide)).tr f1σ44 (by decide) (by decide)).tr f1σ45 (by decide) (by decide)).tr f1σ46 (by decide) (by decide)).tr f1σ47 (by decide) (by decide)).tr f1σ48 (by decide) (by decide)).tr f1σ49 (by decide) (by decide)).tr f1σ50 (by decide) (by decide)).tr f1σ51 (by decide) (by decide)).tr f1σ52 (by decide) (by decide)).tr f1σ53 (by decide) (by decide)).tr f1σ54 (by decide) (by decide)).tr f1σ55 (by decide) (by decide)).tr f1σ56 (by decide) (by decide))) (by decide)]; exact (hA.2 h).2 v hv_⟩⟩⟩
    · skip
      refine ⟨fun c1 => ?_, fun c1 => ?_⟩
      · have hG := (cr_.2.2 (by omega)).1
        exact hK40 () σ31 ⟨hI, hfr, trivial, ⟨fun h => by first | (exfalso; omega) | exact ⟨by omega, fun v hv_ => by have q := (cr_.2.2 (by omega)).2 v hv_; have q2 := oc30 v; omega⟩, fun h => by first | (exfalso; omega) | exact ⟨by omega, fun v hv_ => by have q := cr_.2.1 v hv_; have q2 := oc30 v; have q3 := oc59 v; omega⟩⟩, hG⟩
      · have hIp := hI
        refine s_X12_late hI a1 z32 (by omega) (fun σ57 hI fz58 pz58 => ?_)
        have hfr := hfr.tr fz58 (by decide) (by decide)
        have tk226 : (sI σ57 h0 69).toInt = (sI σ31 h0 69).toInt := by rw [(fz58.1 69 (by decide)).1]
        have tk227 : (sI σ57 h0 86).toInt = (sI σ31 h0 86).toInt := by rw [(fz58.1 86 (by decide)).1]
        have tk228 : (sI σ57 h0 87).toInt = (sI σ31 h0 87).toInt := by rw [(fz58.1 87 (by decide)).1]
        have tk229 : (sI σ57 h0 98).toInt = (sI σ31 h0 98).toInt := by rw [(fz58.1 98 (by decide)).1]
        have tk230 : (sI σ57 h0 99).toInt = (sI σ31 h0 99).toInt := by rw [(fz58.1 99 (by decide)).1]
        have tk231 : (sI σ57 (L 74) a1.toInt.toNat).toInt = (sI σ31 (L 74) a1.toInt.toNat).toInt := by rw [(fz58.2.1 74 (by decide) (by decide) _).1]
        have tk232 : (sI σ57 (L 68) a1.toInt.toNat).toInt = (sI σ31 (L 68) a1.toInt.toNat).toInt := by rw [(fz58.2.1 68 (by decide) (by decide) _).1]
        have tk233 : (sI σ57 (L 62) a1.toInt.toNat).toInt = (sI σ31 (L 62) a1.toInt.toNat).toInt := by rw [(fz58.2.1 62 (by decide) (by decide) _).1]
        have tk234 : (sI σ57 h0 16).toInt = (sI σ31 h0 16).toInt := by rw [(fz58.1 16 (by decide)).1]
        have hG := hG.fr fz58 (by decide) (by decide)
        have hIp := hI
        refine s_X12_forget hI a1 (by omega) (fun σ59 hI fz60 pz60 => ?_)
        have hfr := hfr.tr fz60 (by decide) (by decide)
        have tk236 : (sI σ59 h0 86).toInt = (sI σ57 h0 86).toInt := by rw [(fz60.1 86 (by decide)).1]
        have tk237 : (sI σ59 h0 87).toInt = (sI σ57 h0 87).toInt := by rw [(fz60.1 87 (by decide)).1]
        have tk238 : (sI σ59 h0 98).toInt = (sI σ57 h0 98).toInt := by rw [(fz60.1 98 (by decide)).1]
        have tk239 : (sI σ59 h0 99).toInt = (sI σ57 h0 99).toInt := by rw [(fz60.1 99 (by decide)).1]
        have tk243 : (sI σ59 h0 16).toInt = (sI σ57 h0 16).toInt := by rw [(fz60.1 16 (by decide)).1]
        have s31 := pz32.1.2.2.2.2.2
        have j61 := congrArg Int64.toInt ((fz60.1 61 (by decide)).2.1.trans (fz58.1 61 (by decide)).2.1)
        have hG := hG.sub hIp fz60 (pz60.sub) (by decide) (by decide)
        have q69 := pz60.1
        have hG := hG.re (B := B) (by omega)
        have oc59 : ∀ v : Int, oc L σ59 v = oc L σ31 v := fun v => (oc_ff fz60 (by decide) v).trans (oc_ff fz58 (by decide) v)
        exact hK40 () σ59 ⟨hI, hfr, trivial, ⟨fun h => by first | (exfalso; omega) | exact ⟨by omega, fun v hv_ => by have q := (cr_.2.2 (by omega)).2 v hv_; have q2 := oc30 v; omega⟩, fun h => by first | (exfalso; omega) | exact ⟨by omega, fun v hv_ => by have q := cr_.2.1 v hv_; have q2 := oc30 v; have q3 := oc59 v; omega⟩⟩, hG⟩
  · skip
    refine ⟨fun c2 => ?_, fun c2 => ?_⟩
    · exact hK35 0 σ31 ⟨rfl, (by (try dsimp only); omega)⟩
    · exact hK35 1 σ31 ⟨rfl, (by (try dsimp only); omega)⟩
set_option maxRecDepth 100000 in
set_option maxHeartbeats 4000000 in
theorem s_X12_redo {h0 : Nat} {L : Nat → Nat} {σ : HS} (hI : OKM h0 L σ) (a1 : Int32) {B : Int} (hG : GI h0 L B σ) (hB : B < 4611686018427387904)  {post : HS → Prop} (kk : ∀ (σ' : HS), OKM h0 L σ' → Fr h0 L [16, 61, 62, 69, 115, 116, 117] [1, 2, 3, 4, 5, 6, 7, 8, 9, 10, 14, 15, 16, 17, 18, 19, 20, 21, 22, 23, 27, 28, 41, 42, 43, 44, 45, 46, 47, 48, 49, 50, 51, 53, 61, 62, 63, 64, 65, 66, 67, 68, 69, 70, 71, 72, 73, 74, 75, 76, 77, 78, 79] σ σ' → (GI h0 L B σ' ∧ (∀ v : Int, 0 ≤ v → oc L σ' v + (sI σ' h0 69).toInt.toNat ≤ oc L σ v + (sI σ h0 69).toInt.toNat)) → post σ') : F_X12_redo h0 L a1 post σ := by
  unfold F_X12_redo
  have k_0 : (0 : Int32).toInt = 0 := rfl
  have k_1 : (1 : Int32).toInt = 1 := rfl
  have k_5 : (5 : Int32).toInt = 5 := rfl
  have rg_a1 := i_range a1
  have hfr : Fr h0 L [16, 61, 62, 69, 115, 116, 117] [1, 2, 3, 4, 5, 6, 7, 8, 9, 10, 14, 15, 16, 17, 18, 19, 20, 21, 22, 23, 27, 28, 41, 42, 43, 44, 45, 46, 47, 48, 49, 50, 51, 53, 61, 62, 63, 64, 65, 66, 67, 68, 69, 70, 71, 72, 73, 74, 75, 76, 77, 78, 79] σ σ := Fr.rf
  refine lw_in (fun (x : Int32) (σ' : HS) => OKM h0 L σ' ∧ Fr h0 L [16, 61, 62, 69, 115, 116, 117] [1, 2, 3, 4, 5, 6, 7, 8, 9, 10, 14, 15, 16, 17, 18, 19, 20, 21, 22, 23, 27, 28, 41, 42, 43, 44, 45, 46, 47, 48, 49, 50, 51, 53, 61, 62, 63, 64, 65, 66, 67, 68, 69, 70, 71, 72, 73, 74, 75, 76, 77, 78, 79] σ σ' ∧ ((0 ≤ x.toInt ∧ x.toInt ≤ 16) ∧ (0 ≤ x.toInt)) ∧ (∀ v : Int, 0 ≤ v → oc L σ' v + (sI σ' h0 69).toInt.toNat ≤ oc L σ v + (sI σ h0 69).toInt.toNat) ∧ (GI h0 L B σ')) (fun (x : Int32) (σ' : HS) => ((sI σ' h0 69).toInt - x.toInt).toNat) ⟨hI, hfr, (by (try dsimp only); omega), (fun v hv_ => Nat.le_refl _), hG⟩ (fun x1 σ2 hJ K3 hK3 => ?_)
  obtain ⟨hI, hfr, hv, hc, hG⟩ := hJ
  (try dsimp only at hv)
  have rg_x1 := i_range x1
  intro z5 ez5
  have vz5 := hI.fI 69 0 16 (by decide) rfl rfl rfl ez5
  have wz5 : z5.toInt = (sI σ2 h0 69).toInt := by rw [ez5]
  refine ⟨fun c1 => ?_, fun c1 => ?_⟩
  · exact kk σ2 hI hfr ⟨hG, hc⟩
  · refine ⟨by omega, ?_⟩
    intro z6 ez6
    have vz6 := hI.aI 62 16 0 65535 (by decide) (by decide) rfl rfl rfl (i := x1.toInt) (by omega) ez6
    have wz6 : z6.toInt = (sI σ2 (L 62) x1.toInt.toNat).toInt := by rw [ez6]
    refine jn_dup ?_
    refine ⟨fun c2 => ?_, fun c2 => ?_⟩
    · (try dsimp only)
      intro z12 ez12
      try have hz12 := i_add ez12 (by omega) (by omega)
      have rg_z12 := i_range z12
      exact hK3 z12 σ2 ⟨hI, hfr, (by (try dsimp only); omega), (fun v hv_ => by have q := hc v hv_; first | exact q | (have q1 := (pz15.2.2.1 (by omega)); have q2 := q1.2 v hv_; omega) | (have q1 := (pz15.2.2.2 (by omega)); have q2 := q1.2 v hv_; omega)), hG⟩ (by (try dsimp only); omega)
    · refine ⟨by omega, ?_⟩
      intro z13 ez13
      have vz13 := hI.aI 70 16 0 79 (by decide) (by decide) rfl rfl rfl (i := x1.toInt) (by omega) ez13
      have wz13 : z13.toInt = (sI σ2 (L 70) x1.toInt.toNat).toInt := by rw [ez13]
      refine ⟨fun c3 => ?_, fun c3 => ?_⟩
      · (try dsimp only)
        intro z12 ez12
        try have hz12 := i_add ez12 (by omega) (by omega)
        have rg_z12 := i_range z12
        exact hK3 z12 σ2 ⟨hI, hfr, (by (try dsimp only); omega), (fun v hv_ => by have q := hc v hv_; first | exact q | (have q1 := (pz15.2.2.1 (by omega)); have q2 := q1.2 v hv_; omega) | (have q1 := (pz15.2.2.2 (by omega)); have q2 := q1.2 v hv_; omega)), hG⟩ (by (try dsimp only); omega)
      · have hIp := hI
        refine s_X12_again hI x1 hG hB (by omega) (fun z15 σ14 hI fz15 pz15 => ?_)
        have hfr := hfr.tr fz15 (by decide) (by decide)
        have rg_z15 := i_range z15
        have a0 := fun h => (pz15.2.2.1 h).1
        have a1_ := fun h => (pz15.2.2.2 h).1
        have h69 := hI.fI 69 0 16 (by decide) rfl rfl rfl rfl
        have hG := pz15.1
        refine ⟨fun c4 => ?_, fun c4 => ?_⟩
        · exact hK3 x1 σ14 ⟨hI, hfr, (by (try dsimp only); omega), (fun v hv_ => by have q := hc v hv_; first | exact q | (have q1 := (pz15.2.2.1 (by omega)); have q2 := q1.2 v hv_; omega) | (have q1 := (pz15.2.2.2 (by omega)); have q2 := q1.2 v hv_; omega)), hG⟩ (by (try dsimp only); omega)
        · (try dsimp only)
          intro z12 ez12
          try have hz12 := i_add ez12 (by omega) (by omega)
          have rg_z12 := i_range z12
          exact hK3 z12 σ14 ⟨hI, hfr, (by (try dsimp only); omega), (fun v hv_ => by have q := hc v hv_; first | exact q | (have q1 := (pz15.2.2.1 (by omega)); have q2 := q1.2 v hv_; omega) | (have q1 := (pz15.2.2.2 (by omega)); have q2 := q1.2 v hv_; omega)), hG⟩ (by (try dsimp only); omega)

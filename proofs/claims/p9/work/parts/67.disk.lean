/-! the log comes to the disk -/
/-- nodes: is it there, what is above it, is it a folder -/
def vw (L : Nat → Nat) (σ : HS) (b o : Nat) : Int × Int × Int := ((sI σ (L 1) (b + o)).toInt, (sI σ (L 2) (b + o)).toInt, (sI σ (L 3) (b + o)).toInt)
def ap (K N U D : Int) (V : Nat → Int × Int × Int) (o : Nat) : Int × Int × Int := if (o : Int) = N then (if K = 5 then (0, (V o).2) else if K = 0 then (1, U, D) else if K = 4 then ((V o).1, U, (V o).2.2) else V o) else V o
def apl (L : Nat → Nat) (σ : HS) : Nat → (Nat → Int × Int × Int) → Nat → Int × Int × Int
  | 0, V => V
  | k + 1, V => ap (sI σ (L 14) k).toInt (sI σ (L 15) k).toInt (sI σ (L 16) k).toInt (sI σ (L 17) k).toInt (apl L σ k V)
section R67
variable {h0 : Nat} {L : Nat → Nat} {σ σ' : HS} {V V' : Nat → Int × Int × Int}
theorem ap_ev {K N U D : Int} {o : Nat} (h : V o = V' o) : ap K N U D V o = ap K N U D V' o := by
  unfold ap
  rw [h]
theorem apl_ev (h : ∀ o, o < 80 → V o = V' o) : ∀ k o, o < 80 → apl L σ k V o = apl L σ k V' o
  | 0, o, ho => h o ho
  | k + 1, o, ho => ap_ev (apl_ev h k o ho)
theorem apl_fr : ∀ k, (∀ j, 14 ≤ j → j ≤ 17 → ∀ i, i < k → sI σ' (L j) i = sI σ (L j) i) → apl L σ' k V = apl L σ k V
  | 0, _ => rfl
  | k + 1, h => by
    show ap _ _ _ _ (apl L σ' k V) = ap _ _ _ _ (apl L σ k V)
    rw [apl_fr k (fun j a b i c => h j a b i (by omega)), h 14 (by omega) (by omega) k (by omega), h 15 (by omega) (by omega) k (by omega), h 16 (by omega) (by omega) k (by omega), h 17 (by omega) (by omega) k (by omega)]
theorem Ap.v {k b : Nat} {bi : Int} (h : Ap L σ σ' k bi) (hb : bi = b) (o : Nat) : vw L σ' b o = ap (sI σ (L 14) k).toInt (sI σ (L 15) k).toInt (sI σ (L 16) k).toInt (sI σ (L 17) k).toInt (vw L σ b) o := by
  have q := h (b + o)
  unfold ap
  by_cases e : (o : Int) = (sI σ (L 15) k).toInt
  · rw [if_pos e]
    have q2 := q.2 (by omega)
    by_cases c5 : (sI σ (L 14) k).toInt = 5
    · rw [if_pos c5]
      have g := q2.1 c5
      exact Prod.ext g.1 (Prod.ext g.2.1 g.2.2)
    · rw [if_neg c5]
      by_cases c0 : (sI σ (L 14) k).toInt = 0
      · rw [if_pos c0]
        have g := q2.2.1 c0
        exact Prod.ext g.1 (Prod.ext g.2.1 g.2.2)
      · rw [if_neg c0]
        by_cases c4 : (sI σ (L 14) k).toInt = 4
        · rw [if_pos c4]
          have g := q2.2.2.1 c4
          exact Prod.ext g.1 (Prod.ext g.2.2 g.2.1)
        · rw [if_neg c4]
          have g := q2.2.2.2 c5 c0 c4
          exact Prod.ext g.1 (Prod.ext g.2.1 g.2.2)
  · rw [if_neg e]
    have g := q.1 (by omega)
    exact Prod.ext g.1 (Prod.ext g.2.1 g.2.2)
theorem Ap.w {k b : Nat} {bi : Int} (h : Ap L σ σ' k bi) (o : Nat) (hn : ((b + o : Nat) : Int) ≠ bi + (sI σ (L 15) k).toInt) : vw L σ' b o = vw L σ b o := by
  have g := (h (b + o)).1 hn
  exact Prod.ext g.1 (Prod.ext g.2.1 g.2.2)
theorem vw_fr {fs js : List Nat} (f : Fr h0 L fs js σ σ') (h1 : 1 ∉ js) (h2 : 2 ∉ js) (h3 : 3 ∉ js) (b o : Nat) : vw L σ' b o = vw L σ b o := by
  unfold vw
  rw [(f.2.1 1 (by decide) h1 _).1, (f.2.1 2 (by decide) h2 _).1, (f.2.1 3 (by decide) h3 _).1]
/-- the first k entries stand on the disk, the rest of the nodes as before -/
def Cm (L : Nat → Nat) (σ σ' : HS) (k : Nat) : Prop := ∀ o, o < 80 → vw L σ' 80 o = apl L σ k (vw L σ 80) o ∧ vw L σ' 0 o = vw L σ 0 o
theorem Cm.rf : Cm L σ σ 0 := fun _ _ => ⟨rfl, rfl⟩
theorem Cm.st {σ2 : HS} {k : Nat} {bi : Int} {fs js : List Nat} (h : Cm L σ σ' k) (hf : Fr h0 L fs js σ σ') (h1 : ∀ j, 14 ≤ j → j ≤ 17 → j ∉ js) (g : Ap L σ' σ2 k bi) (hb : bi = 80) (hn : 0 ≤ (sI σ' (L 15) k).toInt) : Cm L σ σ2 (k + 1) := by
  intro o ho
  refine ⟨?_, ?_⟩
  · rw [g.v (b := 80) hb o, (hf.2.1 14 (by decide) (h1 14 (by decide) (by decide)) k).1, (hf.2.1 15 (by decide) (h1 15 (by decide) (by decide)) k).1, (hf.2.1 16 (by decide) (h1 16 (by decide) (by decide)) k).1, (hf.2.1 17 (by decide) (h1 17 (by decide) (by decide)) k).1]
    exact ap_ev (h o ho).1
  · rw [g.w (b := 0) o (by omega)]
    exact (h o ho).2
end R67

set_option maxRecDepth 100000 in
set_option maxHeartbeats 4000000 in
theorem s_X12_come {h0 : Nat} {L : Nat → Nat} {σ : HS} (hI : OKM h0 L σ) (a1 : Int32) (a2 : Int32) (hz : 0 ≤ a1.toInt ∧ a1.toInt ≤ 9) (hR : ∀ o : Nat, (o : Int) < a1.toInt → (sI σ (L 22) o).toInt + (sI σ (L 23) o).toInt ≤ 4096) {post : HS → Prop} (kk : ∀ (σ' : HS), OKM h0 L σ' → Fr h0 L [16] [1, 2, 3, 4, 5, 6, 7, 8, 9] σ σ' → ((sI σ' h0 16).toInt = 0 ∧ Cm L σ σ' a1.toInt.toNat) → post σ') : F_X12_come h0 L a1 a2 post σ := by
  unfold F_X12_come
  have k_0 : (0 : Int32).toInt = 0 := rfl
  have k_1 : (1 : Int32).toInt = 1 := rfl
  have k_80 : (80 : Int32).toInt = 80 := rfl
  have rg_a1 := i_range a1
  have rg_a2 := i_range a2
  have hfr : Fr h0 L [16] [1, 2, 3, 4, 5, 6, 7, 8, 9] σ σ := Fr.rf
  refine lw_in (fun (x : Int32) (σ' : HS) => OKM h0 L σ' ∧ Fr h0 L [16] [1, 2, 3, 4, 5, 6, 7, 8, 9] σ σ' ∧ ((0 ≤ x.toInt ∧ x.toInt ≤ 9) ∧ (x.toInt ≤ a1.toInt)) ∧ (Cm L σ σ' x.toInt.toNat)) (fun (x : Int32) (σ' : HS) => (a1.toInt - x.toInt).toNat) ⟨hI, hfr, (by (try dsimp only); omega), Cm.rf⟩ (fun x1 σ2 hJ K3 hK3 => ?_)
  obtain ⟨hI, hfr, hv, hC⟩ := hJ
  (try dsimp only at hv)
  have rg_x1 := i_range x1
  refine ⟨fun c1 => ?_, fun c1 => ?_⟩
  · intro σ5 eσ5
    have hMp := hI.2
    have hI := hI.pF 16 0 8 rfl rfl (by omega) eσ5
    have hfr := hfr.fI hMp eσ5 (by decide) rfl
    have uσ5 : (sI σ5 h0 16).toInt = (0 : Int32).toInt := by rw [eσ5]; exact congrArg Int32.toInt u2_same
    have f1σ5 : Fr h0 L [16] [] σ2 σ5 := Fr.rf.fI hMp eσ5 (by decide) rfl
    exact kk σ5 hI hfr ⟨by omega, by intro o ho; rw [show a1.toInt.toNat = x1.toInt.toNat by omega, vw_fr f1σ5 (by decide) (by decide) (by decide), vw_fr f1σ5 (by decide) (by decide) (by decide)]; exact hC o ho⟩
  · have hfr0 := hfr
    have hI0 := hI
    have hr := hR x1.toInt.toNat (by omega)
    have b22 := congrArg Int32.toInt (hfr.2.1 22 (by decide) (by decide) (x1.toInt.toNat)).1
    have b23 := congrArg Int32.toInt (hfr.2.1 23 (by decide) (by decide) (x1.toInt.toNat)).1
    refine s_X12_apply hI x1 80 (by omega) (fun σ6 hI fz7 pz7 => ?_)
    have hfr := hfr.tr fz7 (by decide) (by decide)
    intro z8 ez8
    try have hz8 := i_add ez8 (by omega) (by omega)
    have rg_z8 := i_range z8
    exact hK3 z8 σ6 ⟨hI, hfr, (by (try dsimp only); omega), (by rw [show z8.toInt.toNat = x1.toInt.toNat + 1 by omega]; exact hC.st hfr0 (by intro j h1 h2; simp; omega) pz7 rfl (hI0.aI 15 9 0 79 (by decide) (by decide) rfl rfl rfl (i := x1.toInt) (by omega) rfl).1)⟩ (by (try dsimp only); omega)
set_option maxRecDepth 100000 in
set_option maxHeartbeats 4000000 in
theorem s_X12_allCome {h0 : Nat} {L : Nat → Nat} {σ : HS} (hI : OKM h0 L σ)  (hR : ∀ o : Nat, (o : Int) < (sI σ h0 16).toInt → (sI σ (L 22) o).toInt + (sI σ (L 23) o).toInt ≤ 4096) {post : HS → Prop} (kk : ∀ (σ' : HS), OKM h0 L σ' → Fr h0 L [16] [1, 2, 3, 4, 5, 6, 7, 8, 9] σ σ' → ((sI σ' h0 16).toInt = 0 ∧ Cm L σ σ' (sI σ h0 16).toInt.toNat) → post σ') : F_X12_allCome h0 L  post σ := by
  unfold F_X12_allCome
  have k_0 : (0 : Int32).toInt = 0 := rfl
  have k_1 : (1 : Int32).toInt = 1 := rfl
  have hfr : Fr h0 L [16] [1, 2, 3, 4, 5, 6, 7, 8, 9] σ σ := Fr.rf
  intro z1 ez1
  have vz1 := hI.fI 16 0 8 (by decide) rfl rfl rfl ez1
  have wz1 : z1.toInt = (sI σ h0 16).toInt := by rw [ez1]
  refine s_X12_come hI z1 1 (by omega) (fun o ho => hR o (by omega)) (fun σ2 hI fz3 pz3 => ?_)
  have hfr := hfr.tr fz3 (by decide) (by decide)
  exact kk σ2 hI hfr ⟨pz3.1, by rw [← wz1]; exact pz3.2⟩
theorem dn_live {h0 : Nat} {L : Nat → Nat} {σ σ2 : HS} {z : Int32} (wz : z.toInt = (sI σ h0 16).toInt) (h : Ap L σ σ2 z.toInt.toNat (0 : Int32).toInt) (o : Nat) : vw L σ2 0 o = ap (sI σ (L 14) (sI σ h0 16).toInt.toNat).toInt (sI σ (L 15) (sI σ h0 16).toInt.toNat).toInt (sI σ (L 16) (sI σ h0 16).toInt.toNat).toInt (sI σ (L 17) (sI σ h0 16).toInt.toNat).toInt (vw L σ 0) o := by
  rw [← wz]
  exact h.v (b := 0) rfl o
theorem dn_disk {h0 : Nat} {L : Nat → Nat} {σ σ2 : HS} {z : Int32} (hI : OKM h0 L σ) (hz : 0 ≤ z.toInt ∧ z.toInt < 9) (h : Ap L σ σ2 z.toInt.toNat (0 : Int32).toInt) (o : Nat) : vw L σ2 80 o = vw L σ 80 o := by
  have q := hI.aI 15 9 0 79 (by decide) (by decide) rfl rfl rfl (i := z.toInt) hz rfl
  have k : (0 : Int32).toInt = 0 := rfl
  exact h.w (b := 80) o (by omega)
set_option maxRecDepth 100000 in
set_option maxHeartbeats 4000000 in
theorem s_X12_done {h0 : Nat} {L : Nat → Nat} {σ : HS} (hI : OKM h0 L σ)  (hz : (sI σ h0 16).toInt ≤ 7) (hR : ∀ o : Nat, (o : Int) < (sI σ h0 16).toInt + 1 → (sI σ (L 22) o).toInt + (sI σ (L 23) o).toInt ≤ 4096) {post : HS → Prop} (kk : ∀ (σ' : HS), OKM h0 L σ' → Fr h0 L [16] [1, 2, 3, 4, 5, 6, 7, 8, 9] σ σ' → ((∀ o, o < 80 → vw L σ' 0 o = ap (sI σ (L 14) (sI σ h0 16).toInt.toNat).toInt (sI σ (L 15) (sI σ h0 16).toInt.toNat).toInt (sI σ (L 16) (sI σ h0 16).toInt.toNat).toInt (sI σ (L 17) (sI σ h0 16).toInt.toNat).toInt (vw L σ 0) o) ∧ (((sI σ h0 16).toInt = 7 ∧ (sI σ' h0 16).toInt = 0 ∧ ∀ o, o < 80 → vw L σ' 80 o = apl L σ 8 (vw L σ 80) o) ∨ ((sI σ h0 16).toInt < 7 ∧ (sI σ' h0 16).toInt = (sI σ h0 16).toInt + 1 ∧ ∀ o, o < 80 → vw L σ' 80 o = vw L σ 80 o))) → post σ') : F_X12_done h0 L  post σ := by
  unfold F_X12_done
  have k_0 : (0 : Int32).toInt = 0 := rfl
  have k_1 : (1 : Int32).toInt = 1 := rfl
  have k_8 : (8 : Int32).toInt = 8 := rfl
  have hfr : Fr h0 L [16] [1, 2, 3, 4, 5, 6, 7, 8, 9] σ σ := Fr.rf
  intro z1 ez1
  have vz1 := hI.fI 16 0 8 (by decide) rfl rfl rfl ez1
  have wz1 : z1.toInt = (sI σ h0 16).toInt := by rw [ez1]
  have hfr0 := hfr
  have hI0 := hI
  have hr := hR z1.toInt.toNat (by omega)
  have b22 := congrArg Int32.toInt (hfr.2.1 22 (by decide) (by decide) (z1.toInt.toNat)).1
  have b23 := congrArg Int32.toInt (hfr.2.1 23 (by decide) (by decide) (z1.toInt.toNat)).1
  refine s_X12_apply hI z1 0 (by omega) (fun σ2 hI fz3 pz3 => ?_)
  have hfr := hfr.tr fz3 (by decide) (by decide)
  have tk1 : (sI σ2 h0 16).toInt = (sI σ h0 16).toInt := by rw [(fz3.1 16 (by decide)).1]
  intro z4 ez4
  have vz4 := hI.fI 16 0 8 (by decide) rfl rfl rfl ez4
  have wz4 : z4.toInt = (sI σ2 h0 16).toInt := by rw [ez4]
  intro z5 ez5
  try have hz5 := i_add ez5 (by omega) (by omega)
  have rg_z5 := i_range z5
  intro σ6 eσ6
  have hMp := hI.2
  have hI := hI.pF 16 0 8 rfl rfl (by omega) eσ6
  have hfr := hfr.fI hMp eσ6 (by decide) rfl
  have uσ6 : (sI σ6 h0 16).toInt = z5.toInt := by rw [eσ6]; exact congrArg Int32.toInt u2_same
  have f1σ6 : Fr h0 L [16] [] σ2 σ6 := Fr.rf.fI hMp eσ6 (by decide) rfl
  intro z7 ez7
  have vz7 := hI.fI 16 0 8 (by decide) rfl rfl rfl ez7
  have wz7 : z7.toInt = (sI σ6 h0 16).toInt := by rw [ez7]
  refine jn_dup ?_
  refine ⟨fun c1 => ?_, fun c1 => ?_⟩
  · (try dsimp only)
    exact kk σ6 hI hfr ⟨(fun o ho => by rw [vw_fr f1σ6 (by decide) (by decide) (by decide)]; exact dn_live wz1 pz3 o), (Or.inr ⟨by omega, by omega, fun o ho => by rw [vw_fr f1σ6 (by decide) (by decide) (by decide)]; exact dn_disk hI0 (by omega) pz3 o⟩)⟩
  · have hfr6 := hfr
    refine s_X12_allCome hI  (fun o ho => by have hr := hR o (by omega); have b22 := congrArg Int32.toInt (hfr.2.1 22 (by decide) (by decide) o).1; have b23 := congrArg Int32.toInt (hfr.2.1 23 (by decide) (by decide) o).1; omega) (fun σ13 hI fz14 pz14 => ?_)
    have hfr := hfr.tr fz14 (by decide) (by decide)
    (try dsimp only)
    exact kk σ13 hI hfr ⟨(fun o ho => by rw [(pz14.2 o ho).2, vw_fr f1σ6 (by decide) (by decide) (by decide)]; exact dn_live wz1 pz3 o), (Or.inl ⟨by omega, pz14.1, fun o ho => by rw [(pz14.2 o ho).1, show (sI σ6 h0 16).toInt.toNat = 8 by omega, apl_ev (V' := vw L σ 80) (fun o ho => by rw [vw_fr f1σ6 (by decide) (by decide) (by decide)]; exact dn_disk hI0 (by omega) pz3 o) 8 o ho, apl_fr 8 (fun j h1 h2 i hi => (hfr6.2.1 j (by omega) (by simp; omega) i).1)]⟩)⟩

/-! what is laid into the log -/
/-- less, both read without a sign, whatever they are -/
theorem s3_X12_isLess {h0 : Nat} {L : Nat → Nat} {σ : HS} (_ : OKM h0 L σ) (a0 a2 : Int64) {post : Int32 → HS → Prop} (kk : ∀ r : Int32, (0 ≤ r.toInt ∧ r.toInt ≤ 1) ∧ (0 ≤ a2.toInt → (r.toInt = 1 ∧ 0 ≤ a0.toInt ∧ a0.toInt < a2.toInt) ∨ (r.toInt = 0 ∧ (a0.toInt < 0 ∨ a2.toInt ≤ a0.toInt))) ∧ (0 ≤ a0.toInt → a2.toInt < 0 → r.toInt = 1) → post r σ) : F_X12_isLess h0 L a0 a2 post σ := by
  unfold F_X12_isLess
  intro z1 e1 z2 e2 z3 e3 z4 e4
  have m1 := l_min e1 e2
  have m2 := l_min e3 e4
  have ra := l_range a0
  have rb := l_range a2
  have k0 : (0 : Int32).toInt = 0 := rfl
  have k1 : (1 : Int32).toInt = 1 := rfl
  refine jn_dup ⟨fun c => ⟨by omega, kk _ (by omega)⟩, fun c => ⟨by omega, kk _ (by omega)⟩⟩
set_option maxRecDepth 100000 in
set_option maxHeartbeats 4000000 in
theorem s_X12_emptyIt {h0 : Nat} {L : Nat → Nat} {σ : HS} (hI : OKM h0 L σ) (a1 : Int32) (a2 : Int32) {B : Int} (hG : GI h0 L B σ) (hz : 0 ≤ a1.toInt ∧ a1.toInt < 80) {post : HS → Prop} (kk : ∀ (σ' : HS), OKM h0 L σ' → Fr h0 L [16] [1, 2, 3, 4, 5, 6, 7, 8, 9, 14, 15, 16, 17, 18, 19, 20, 21, 22, 23, 27, 28, 46, 76] σ σ' → (GI h0 L B σ' ∧ (∀ o, o < 80 → vw L σ' 0 o = vw L σ 0 o)) → post σ') : F_X12_emptyIt h0 L a1 a2 post σ := by
  unfold F_X12_emptyIt
  have k_m1 : ((-1) : Int32).toInt = (-1) := rfl
  have k_0 : (0 : Int32).toInt = 0 := rfl
  have k_2 : (2 : Int32).toInt = 2 := rfl
  have k_3 : (3 : Int32).toInt = 3 := rfl
  have k_4 : (4 : Int32).toInt = 4 := rfl
  have rg_a1 := i_range a1
  have rg_a2 := i_range a2
  have hfr : Fr h0 L [16] [1, 2, 3, 4, 5, 6, 7, 8, 9, 14, 15, 16, 17, 18, 19, 20, 21, 22, 23, 27, 28, 46, 76] σ σ := Fr.rf
  
  have hV : ∀ o, o < 80 → vw L σ 0 o = vw L σ 0 o := fun _ _ => rfl
  have hIp := hI
  have f16 := hI.fI 16 0 8 (by decide) rfl rfl rfl rfl
  have g16 := hG.1.1
  refine s_X12_record hI 2 a1 (by omega) (fun z2 σ1 hI fz2 pz2 => ?_)
  have hfr := hfr.tr fz2 (by decide) (by decide)
  have tk1 : (sI σ1 h0 16).toInt = (sI σ h0 16).toInt := by rw [(fz2.1 16 (by decide)).1]
  have rg_z2 := i_range z2
  have hV := fun (o : Nat) (ho : o < 80) => (congrFun (vw_ff fz2 (by decide) 0) o).trans (hV o ho)
  have hG := pz2.2.gi hG fz2
  have rcz2 := (pz2.2 z2.toInt.toNat).2 (by omega)
  refine ⟨by omega, ?_⟩
  intro σ3 eσ3
  have hMp := hI.2
  have hI := hI.pA 22 0 4096 (by decide) (by decide) rfl rfl (by omega) eσ3
  have hfr := hfr.aI hMp (by decide) eσ3 (by decide)
  have f1σ3 : Fr h0 L [] [22] σ1 σ3 := Fr.rf.aI hMp (by decide) eσ3 (by decide)
  have tk2 : (sI σ3 h0 16).toInt = (sI σ1 h0 16).toInt := by rw [(f1σ3.1 16 (by decide)).1]
  have tk3 : (sI σ3 (L 14) z2.toInt.toNat).toInt = (sI σ1 (L 14) z2.toInt.toNat).toInt := by rw [(f1σ3.2.1 14 (by decide) (by decide) _).1]
  have tk4 : (sI σ3 (L 15) z2.toInt.toNat).toInt = (sI σ1 (L 15) z2.toInt.toNat).toInt := by rw [(f1σ3.2.1 15 (by decide) (by decide) _).1]
  have tk5 : (sI σ3 (L 16) z2.toInt.toNat).toInt = (sI σ1 (L 16) z2.toInt.toNat).toInt := by rw [(f1σ3.2.1 16 (by decide) (by decide) _).1]
  have tk6 : (sI σ3 (L 17) z2.toInt.toNat).toInt = (sI σ1 (L 17) z2.toInt.toNat).toInt := by rw [(f1σ3.2.1 17 (by decide) (by decide) _).1]
  have tk7 := atI eσ3 z2.toInt.toNat
  have tk8 : (sI σ3 (L 23) z2.toInt.toNat).toInt = (sI σ1 (L 23) z2.toInt.toNat).toInt := by rw [(f1σ3.2.1 23 (by decide) (by decide) _).1]
  have hV := fun (o : Nat) (ho : o < 80) => (congrFun (vw_ff f1σ3 (by decide) 0) o).trans (hV o ho)
  have hG := hG.ra hMp eσ3 (by decide) (by decide) (by omega)
  intro z4 ez4
  try have hz4 := i_mulk 4 rfl ez4 (by omega) (by omega)
  have rg_z4 := i_range z4
  intro z5 ez5
  try have hz5 := i_add ez5 (by omega) (by omega)
  have rg_z5 := i_range z5
  intro z6 ez6
  have wz6 : z6.toInt = (sJ σ3 h0 2).toInt := by rw [ez6]
  have vz6 := l_range z6
  refine ⟨by omega, ?_⟩
  intro σ7 eσ7
  have hMp := hI.2
  have hI := hI.pJ eσ7
  have hfr := hfr.aJ hMp (by decide) eσ7 (by decide)
  have f1σ7 : Fr h0 L [] [21] σ3 σ7 := Fr.rf.aJ hMp (by decide) eσ7 (by decide)
  have tk9 : (sI σ7 h0 16).toInt = (sI σ3 h0 16).toInt := by rw [(f1σ7.1 16 (by decide)).1]
  have tk10 : (sI σ7 (L 14) z2.toInt.toNat).toInt = (sI σ3 (L 14) z2.toInt.toNat).toInt := by rw [(f1σ7.2.1 14 (by decide) (by decide) _).1]
  have tk11 : (sI σ7 (L 15) z2.toInt.toNat).toInt = (sI σ3 (L 15) z2.toInt.toNat).toInt := by rw [(f1σ7.2.1 15 (by decide) (by decide) _).1]
  have tk12 : (sI σ7 (L 16) z2.toInt.toNat).toInt = (sI σ3 (L 16) z2.toInt.toNat).toInt := by rw [(f1σ7.2.1 16 (by decide) (by decide) _).1]
  have tk13 : (sI σ7 (L 17) z2.toInt.toNat).toInt = (sI σ3 (L 17) z2.toInt.toNat).toInt := by rw [(f1σ7.2.1 17 (by decide) (by decide) _).1]
  have tk14 : (sI σ7 (L 22) z2.toInt.toNat).toInt = (sI σ3 (L 22) z2.toInt.toNat).toInt := by rw [(f1σ7.2.1 22 (by decide) (by decide) _).1]
  have tk15 : (sI σ7 (L 23) z2.toInt.toNat).toInt = (sI σ3 (L 23) z2.toInt.toNat).toInt := by rw [(f1σ7.2.1 23 (by decide) (by decide) _).1]
  have hV := fun (o : Nat) (ho : o < 80) => (congrFun (vw_ff f1σ7 (by decide) 0) o).trans (hV o ho)
  have hG := hG.fr f1σ7 (by decide) (by decide)
  intro z8 ez8
  try have hz8 := i_mulk 4 rfl ez8 (by omega) (by omega)
  have rg_z8 := i_range z8
  intro z9 ez9
  try have hz9 := i_add ez9 (by omega) (by omega)
  have rg_z9 := i_range z9
  intro z10 ez10
  have wz10 : z10.toInt = (sJ σ7 h0 2).toInt := by rw [ez10]
  have vz10 := l_range z10
  refine ⟨by omega, ?_⟩
  intro σ11 eσ11
  have hMp := hI.2
  have hI := hI.pJ eσ11
  have hfr := hfr.aJ hMp (by decide) eσ11 (by decide)
  have f1σ11 : Fr h0 L [] [21] σ7 σ11 := Fr.rf.aJ hMp (by decide) eσ11 (by decide)
  have tk16 : (sI σ11 h0 16).toInt = (sI σ7 h0 16).toInt := by rw [(f1σ11.1 16 (by decide)).1]
  have tk17 : (sI σ11 (L 14) z2.toInt.toNat).toInt = (sI σ7 (L 14) z2.toInt.toNat).toInt := by rw [(f1σ11.2.1 14 (by decide) (by decide) _).1]
  have tk18 : (sI σ11 (L 15) z2.toInt.toNat).toInt = (sI σ7 (L 15) z2.toInt.toNat).toInt := by rw [(f1σ11.2.1 15 (by decide) (by decide) _).1]
  have tk19 : (sI σ11 (L 16) z2.toInt.toNat).toInt = (sI σ7 (L 16) z2.toInt.toNat).toInt := by rw [(f1σ11.2.1 16 (by decide) (by decide) _).1]
  have tk20 : (sI σ11 (L 17) z2.toInt.toNat).toInt = (sI σ7 (L 17) z2.toInt.toNat).toInt := by rw [(f1σ11.2.1 17 (by decide) (by decide) _).1]
  have tk21 : (sI σ11 (L 22) z2.toInt.toNat).toInt = (sI σ7 (L 22) z2.toInt.toNat).toInt := by rw [(f1σ11.2.1 22 (by decide) (by decide) _).1]
  have tk22 : (sI σ11 (L 23) z2.toInt.toNat).toInt = (sI σ7 (L 23) z2.toInt.toNat).toInt := by rw [(f1σ11.2.1 23 (by decide) (by decide) _).1]
  have hV := fun (o : Nat) (ho : o < 80) => (congrFun (vw_ff f1σ11 (by decide) 0) o).trans (hV o ho)
  have hG := hG.fr f1σ11 (by decide) (by decide)
  have hIp := hI
  have hrxz2 : (sI σ11 h0 16).toInt.toNat = z2.toInt.toNat := by omega
  refine s2_X12_done hI  hG (by rw [hrxz2]; omega) (by rw [hrxz2]; exact Or.inr (Or.inl (by omega))) (fun σ12 hI fz13 pz13 => ?_)
  have hfr := hfr.tr fz13 (by decide) (by decide)
  have tk24 : (sI σ12 (L 14) z2.toInt.toNat).toInt = (sI σ11 (L 14) z2.toInt.toNat).toInt := by rw [(fz13.2.1 14 (by decide) (by decide) _).1]
  have tk25 : (sI σ12 (L 15) z2.toInt.toNat).toInt = (sI σ11 (L 15) z2.toInt.toNat).toInt := by rw [(fz13.2.1 15 (by decide) (by decide) _).1]
  have tk26 : (sI σ12 (L 16) z2.toInt.toNat).toInt = (sI σ11 (L 16) z2.toInt.toNat).toInt := by rw [(fz13.2.1 16 (by decide) (by decide) _).1]
  have tk27 : (sI σ12 (L 17) z2.toInt.toNat).toInt = (sI σ11 (L 17) z2.toInt.toNat).toInt := by rw [(fz13.2.1 17 (by decide) (by decide) _).1]
  have tk28 : (sI σ12 (L 22) z2.toInt.toNat).toInt = (sI σ11 (L 22) z2.toInt.toNat).toInt := by rw [(fz13.2.1 22 (by decide) (by decide) _).1]
  have tk29 : (sI σ12 (L 23) z2.toInt.toNat).toInt = (sI σ11 (L 23) z2.toInt.toNat).toInt := by rw [(fz13.2.1 23 (by decide) (by decide) _).1]
  have hG := pz13.1
  have dvz13 := pz13.2
  have hV := fun (o : Nat) (ho : o < 80) => (dvz13 o ho).trans ((by rw [hrxz2, ap_k (by omega) (by omega) (by omega)] : ap _ _ _ _ (vw L σ11 0) o = vw L σ11 0 o).trans (hV o ho))
  have hIp := hI
  have f16 := hI.fI 16 0 8 (by decide) rfl rfl rfl rfl
  have g16 := hG.1.1
  refine s_X12_record hI 3 a1 (by omega) (fun z15 σ14 hI fz15 pz15 => ?_)
  have hfr := hfr.tr fz15 (by decide) (by decide)
  have tk30 : (sI σ14 h0 16).toInt = (sI σ12 h0 16).toInt := by rw [(fz15.1 16 (by decide)).1]
  have rg_z15 := i_range z15
  have hV := fun (o : Nat) (ho : o < 80) => (congrFun (vw_ff fz15 (by decide) 0) o).trans (hV o ho)
  have hG := pz15.2.gi hG fz15
  have rcz15 := (pz15.2 z15.toInt.toNat).2 (by omega)
  refine ⟨by omega, ?_⟩
  intro σ16 eσ16
  have hMp := hI.2
  have hI := hI.pA 20 (-2147483648) 2147483647 (by decide) (by decide) rfl rfl (by omega) eσ16
  have hfr := hfr.aI hMp (by decide) eσ16 (by decide)
  have f1σ16 : Fr h0 L [] [20] σ14 σ16 := Fr.rf.aI hMp (by decide) eσ16 (by decide)
  have tk31 : (sI σ16 h0 16).toInt = (sI σ14 h0 16).toInt := by rw [(f1σ16.1 16 (by decide)).1]
  have tk32 : (sI σ16 (L 14) z15.toInt.toNat).toInt = (sI σ14 (L 14) z15.toInt.toNat).toInt := by rw [(f1σ16.2.1 14 (by decide) (by decide) _).1]
  have tk33 : (sI σ16 (L 15) z15.toInt.toNat).toInt = (sI σ14 (L 15) z15.toInt.toNat).toInt := by rw [(f1σ16.2.1 15 (by decide) (by decide) _).1]
  have tk34 : (sI σ16 (L 16) z15.toInt.toNat).toInt = (sI σ14 (L 16) z15.toInt.toNat).toInt := by rw [(f1σ16.2.1 16 (by decide) (by decide) _).1]
  have tk35 : (sI σ16 (L 17) z15.toInt.toNat).toInt = (sI σ14 (L 17) z15.toInt.toNat).toInt := by rw [(f1σ16.2.1 17 (by decide) (by decide) _).1]
  have tk36 : (sI σ16 (L 22) z15.toInt.toNat).toInt = (sI σ14 (L 22) z15.toInt.toNat).toInt := by rw [(f1σ16.2.1 22 (by decide) (by decide) _).1]
  have tk37 : (sI σ16 (L 23) z15.toInt.toNat).toInt = (sI σ14 (L 23) z15.toInt.toNat).toInt := by rw [(f1σ16.2.1 23 (by decide) (by decide) _).1]
  have hV := fun (o : Nat) (ho : o < 80) => (congrFun (vw_ff f1σ16 (by decide) 0) o).trans (hV o ho)
  have hG := hG.fr f1σ16 (by decide) (by decide)
  intro z17 ez17
  try have hz17 := i_mulk 4 rfl ez17 (by omega) (by omega)
  have rg_z17 := i_range z17
  intro z18 ez18
  try have hz18 := i_add ez18 (by omega) (by omega)
  have rg_z18 := i_range z18
  intro z19 ez19
  have wz19 : z19.toInt = (sJ σ16 h0 2).toInt := by rw [ez19]
  have vz19 := l_range z19
  refine ⟨by omega, ?_⟩
  intro σ20 eσ20
  have hMp := hI.2
  have hI := hI.pJ eσ20
  have hfr := hfr.aJ hMp (by decide) eσ20 (by decide)
  have f1σ20 : Fr h0 L [] [21] σ16 σ20 := Fr.rf.aJ hMp (by decide) eσ20 (by decide)
  have tk38 : (sI σ20 h0 16).toInt = (sI σ16 h0 16).toInt := by rw [(f1σ20.1 16 (by decide)).1]
  have tk39 : (sI σ20 (L 14) z15.toInt.toNat).toInt = (sI σ16 (L 14) z15.toInt.toNat).toInt := by rw [(f1σ20.2.1 14 (by decide) (by decide) _).1]
  have tk40 : (sI σ20 (L 15) z15.toInt.toNat).toInt = (sI σ16 (L 15) z15.toInt.toNat).toInt := by rw [(f1σ20.2.1 15 (by decide) (by decide) _).1]
  have tk41 : (sI σ20 (L 16) z15.toInt.toNat).toInt = (sI σ16 (L 16) z15.toInt.toNat).toInt := by rw [(f1σ20.2.1 16 (by decide) (by decide) _).1]
  have tk42 : (sI σ20 (L 17) z15.toInt.toNat).toInt = (sI σ16 (L 17) z15.toInt.toNat).toInt := by rw [(f1σ20.2.1 17 (by decide) (by decide) _).1]
  have tk43 : (sI σ20 (L 22) z15.toInt.toNat).toInt = (sI σ16 (L 22) z15.toInt.toNat).toInt := by rw [(f1σ20.2.1 22 (by decide) (by decide) _).1]
  have tk44 : (sI σ20 (L 23) z15.toInt.toNat).toInt = (sI σ16 (L 23) z15.toInt.toNat).toInt := by rw [(f1σ20.2.1 23 (by decide) (by decide) _).1]
  have hV := fun (o : Nat) (ho : o < 80) => (congrFun (vw_ff f1σ20 (by decide) 0) o).trans (hV o ho)
  have hG := hG.fr f1σ20 (by decide) (by decide)
  have hIp := hI
  have hrxz15 : (sI σ20 h0 16).toInt.toNat = z15.toInt.toNat := by omega
  refine s2_X12_done hI  hG (by rw [hrxz15]; omega) (by rw [hrxz15]; exact Or.inr (Or.inr (Or.inl (by omega)))) (fun σ21 hI fz22 pz22 => ?_)
  have hfr := hfr.tr fz22 (by decide) (by decide)
  have tk46 : (sI σ21 (L 14) z15.toInt.toNat).toInt = (sI σ20 (L 14) z15.toInt.toNat).toInt := by rw [(fz22.2.1 14 (by decide) (by decide) _).1]
  have tk47 : (sI σ21 (L 15) z15.toInt.toNat).toInt = (sI σ20 (L 15) z15.toInt.toNat).toInt := by rw [(fz22.2.1 15 (by decide) (by decide) _).1]
  have tk48 : (sI σ21 (L 16) z15.toInt.toNat).toInt = (sI σ20 (L 16) z15.toInt.toNat).toInt := by rw [(fz22.2.1 16 (by decide) (by decide) _).1]
  have tk49 : (sI σ21 (L 17) z15.toInt.toNat).toInt = (sI σ20 (L 17) z15.toInt.toNat).toInt := by rw [(fz22.2.1 17 (by decide) (by decide) _).1]
  have tk50 : (sI σ21 (L 22) z15.toInt.toNat).toInt = (sI σ20 (L 22) z15.toInt.toNat).toInt := by rw [(fz22.2.1 22 (by decide) (by decide) _).1]
  have tk51 : (sI σ21 (L 23) z15.toInt.toNat).toInt = (sI σ20 (L 23) z15.toInt.toNat).toInt := by rw [(fz22.2.1 23 (by decide) (by decide) _).1]
  have hG := pz22.1
  have dvz22 := pz22.2
  have hV := fun (o : Nat) (ho : o < 80) => (dvz22 o ho).trans ((by rw [hrxz15, ap_k (by omega) (by omega) (by omega)] : ap _ _ _ _ (vw L σ20 0) o = vw L σ20 0 o).trans (hV o ho))
  have hIp := hI
  refine s_X12_breakSecond hI a1 (-1) (by omega) (fun σ23 hI fz24 pz24 => ?_)
  have hfr := hfr.tr fz24 (by decide) (by decide)
  have tk52 : (sI σ23 h0 16).toInt = (sI σ21 h0 16).toInt := by rw [(fz24.1 16 (by decide)).1]
  have hV := fun (o : Nat) (ho : o < 80) => (congrFun (vw_ff fz24 (by decide) 0) o).trans (hV o ho)
  have hG := hG.fr fz24 (by decide) (by decide)
  exact kk σ23 hI hfr ⟨hG, hV⟩
/-- a path that was read well -/
def PTs (h0 : Nat) (L : Nat → Nat) (σ : HS) : Prop := ∀ o : Nat, (o : Int) < (sI σ h0 115).toInt → (1 ≤ (sI σ (L 79) o).toInt ∧ (sI σ (L 79) o).toInt ≤ 12) ∧ (sI σ (L 78) o).toInt + (sI σ (L 79) o).toInt ≤ 120
theorem PTs.fr {h0 : Nat} {L : Nat → Nat} {σ σ' : HS} {fs js : List Nat} (h : PTs h0 L σ) (f : Fr h0 L fs js σ σ') (h1 : 115 ∉ fs) (h2 : 78 ∉ js) (h3 : 79 ∉ js) : PTs h0 L σ' := by
  unfold PTs
  rw [(f.1 115 h1).1, sI_ff f (by decide) h2, sI_ff f (by decide) h3]
  exact h
section R82
variable {h0 : Nat} {L : Nat → Nat} {σ σ' : HS} {B : Int} {K N U D : Int} {n p : Nat}
theorem vw0 (o : Nat) : vw L σ 0 o = ((sI σ (L 1) o).toInt, (sI σ (L 2) o).toInt, (sI σ (L 3) o).toInt) := by
  unfold vw
  rw [Nat.zero_add]
theorem EV.m0 (hK : K = 0) (hN : N = n) (hn : n < 80) (h1 : (sI σ (L 1) n).toInt ≠ 1) (hU : U = p) (hp : p < 80) (h2 : (sI σ (L 1) p).toInt = 1) (h3 : (sI σ (L 3) p).toInt = 1) (h4 : (sI σ (L 10) n).toInt ≠ 1) : EV h0 L σ K N U := Or.inr (Or.inr (Or.inr (Or.inl ⟨hK, n, p, hN, hn, by rw [vw0]; exact h1, hU, hp, by rw [vw0]; exact h2, by rw [vw0]; exact h3, h4⟩)))
theorem EV.m4 (hK : K = 4) (hN : N = n) (hn : n < 80) (hU : U = p) (hp : p < 80) (h2 : (sI σ (L 1) p).toInt = 1) (h3 : (sI σ (L 3) p).toInt = 1) (h4 : Nb (vw L σ 0) n p) (h5 : 0 ≤ (sI σ (L 2) n).toInt) : EV h0 L σ K N U := Or.inr (Or.inr (Or.inr (Or.inr (Or.inl ⟨hK, n, p, hN, hn, hU, hp, by rw [vw0]; exact h2, by rw [vw0]; exact h3, h4, by rw [vw0]; exact h5⟩))))
theorem EV.m5 (hK : K = 5) (hN : N = n) (hn : n < 80) (h1 : ∀ x, x < 80 → (sI σ (L 1) x).toInt = 1 → (sI σ (L 2) x).toInt ≠ n) (h5 : 0 ≤ (sI σ (L 2) n).toInt) (h6 : ∀ o, o < 40 → (sJ σ (L 41) o).toInt ≠ 0 → (sI σ (L 43) o).toInt ≠ n) : EV h0 L σ K N U := Or.inr (Or.inr (Or.inr (Or.inr (Or.inr ⟨hK, n, hN, hn, fun x hx => by rw [vw0]; exact h1 x hx, by rw [vw0]; exact h5, h6⟩))))
theorem mk_at {V : Nat → Int × Int × Int} (h : vw L σ' 0 n = ap K N U D V n) (hK : K = 0) (hN : N = n) : (sI σ' (L 1) n).toInt = 1 ∧ (sI σ' (L 2) n).toInt = U := by
  subst hK
  rw [ap_0 hN.symm, vw0] at h
  exact ⟨congrArg (fun x => x.1) h, congrArg (fun x => x.2.1) h⟩
theorem GI.tg {v : Int32} (hG : GI h0 L B σ) (hM : MdI h0 L σ) (e : σ' = h_uI σ (L 10) n v) (hv : v.toInt = 1 → 0 ≤ (sI σ (L 2) n).toInt) : GI h0 L B σ' := by
  have f : Fr h0 L [] [10] σ σ' := Fr.rf.aI hM (by decide) e (by decide)
  refine ⟨hG.1.fr f (by decide) (by decide), ?_, hG.2.2.1.fr f (by decide), hG.2.2.2.1.fr f (by decide) (by decide), hG.2.2.2.2.fr f (by decide) (by decide) (by decide)⟩
  have q := hG.2.1
  unfold OG
  rw [vw_ff f (by decide), sJ_ff f (by decide) (show 41 ∉ [10] by decide), sI_ff f (by decide) (show 43 ∉ [10] by decide), sI_ff f (by decide) (show 50 ∉ [10] by decide)]
  refine ⟨q.1, fun m hm hs => ?_⟩
  rcases atI e m with ⟨a, b⟩ | ⟨a, b⟩
  · subst a
    rw [vw0]
    exact hv (by rw [← b]; exact hs)
  · exact q.2 m hm (by rw [← b]; exact hs)
end R82
set_option maxRecDepth 100000 in
set_option maxHeartbeats 4000000 in
theorem s_X12_makeNode {h0 : Nat} {L : Nat → Nat} {σ : HS} (hI : OKM h0 L σ) (a1 : Int32) (a2 : Int32) {B : Int} (hG : GI h0 L B σ) (hP : ∀ o : Nat, (o : Int) < (sI σ h0 115).toInt → (1 ≤ (sI σ (L 79) o).toInt ∧ (sI σ (L 79) o).toInt ≤ 12) ∧ (sI σ (L 78) o).toInt + (sI σ (L 79) o).toInt ≤ 120) (hz : (0 ≤ a1.toInt ∧ a1.toInt ≤ 1) ∧ 0 ≤ (sI σ h0 116).toInt ∧ 1 ≤ (sI σ h0 115).toInt ∧ (sI σ (L 1) (sI σ h0 116).toInt.toNat).toInt = 1 ∧ (sI σ (L 3) (sI σ h0 116).toInt.toNat).toInt = 1) (hF : ¬ ∀ o : Nat, o < 80 → (sI σ (L 1) o).toInt = 1) {post : Int32 → HS → Prop} (kk : ∀ (r : Int32) (σ' : HS), OKM h0 L σ' → Fr h0 L [16] [1, 2, 3, 4, 5, 6, 7, 8, 9, 10, 14, 15, 16, 17, 18, 19, 20, 21, 22, 23] σ σ' → (GI h0 L B σ' ∧ ((0 ≤ r.toInt ∧ r.toInt < 80) ∧ (sI σ' (L 1) r.toInt.toNat).toInt = 1 ∧ (sI σ' (L 2) r.toInt.toNat).toInt = (sI σ h0 116).toInt)) → post r σ') : F_X12_makeNode h0 L a1 a2 post σ := by
  unfold F_X12_makeNode
  have k_0 : (0 : Int32).toInt = 0 := rfl
  have k_1 : (1 : Int32).toInt = 1 := rfl
  have k_4 : (4 : Int32).toInt = 4 := rfl
  have rg_a1 := i_range a1
  have rg_a2 := i_range a2
  have hfr : Fr h0 L [16] [1, 2, 3, 4, 5, 6, 7, 8, 9, 10, 14, 15, 16, 17, 18, 19, 20, 21, 22, 23] σ σ := Fr.rf
  refine s_X12_freeNode hI   (fun z2 pz2 => ?_)
  have rg_z2 := i_range z2
  have hz2 : z2.toInt < 80 := by have q : z2.toInt ≠ 80 := fun e => hF (pz2.2.2 e); omega
  have hIp := hI
  have f16 := hI.fI 16 0 8 (by decide) rfl rfl rfl rfl
  have g16 := hG.1.1
  refine s_X12_record hI 0 z2 (by omega) (fun z4 σ3 hI fz4 pz4 => ?_)
  have hfr := hfr.tr fz4 (by decide) (by decide)
  have tk1 : (sI σ3 (L 1) (sI σ h0 116).toInt.toNat).toInt = (sI σ (L 1) (sI σ h0 116).toInt.toNat).toInt := by rw [(fz4.2.1 1 (by decide) (by decide) _).1]
  have tk2 : (sI σ3 (L 3) (sI σ h0 116).toInt.toNat).toInt = (sI σ (L 3) (sI σ h0 116).toInt.toNat).toInt := by rw [(fz4.2.1 3 (by decide) (by decide) _).1]
  have tk3 : (sI σ3 (L 1) z2.toInt.toNat).toInt = (sI σ (L 1) z2.toInt.toNat).toInt := by rw [(fz4.2.1 1 (by decide) (by decide) _).1]
  have tk4 : (sI σ3 (L 10) z2.toInt.toNat).toInt = (sI σ (L 10) z2.toInt.toNat).toInt := by rw [(fz4.2.1 10 (by decide) (by decide) _).1]
  have tk5 : (sI σ3 h0 16).toInt = (sI σ h0 16).toInt := by rw [(fz4.1 16 (by decide)).1]
  have rg_z4 := i_range z4
  have hG := pz4.2.gi hG fz4
  have rcz4 := (pz4.2 z4.toInt.toNat).2 (by omega)
  intro z5 ez5
  have vz5 := hI.fI 115 0 121 (by decide) rfl rfl rfl ez5
  have wz5 : z5.toInt = (sI σ h0 115).toInt := by rw [ez5, (hfr.1 115 (by decide)).1]
  intro z6 ez6
  try have hz6 := i_sub ez6 (by omega) (by omega)
  have rg_z6 := i_range z6
  intro z7 ez7
  have vz7 := hI.fI 116 (-1) 79 (by decide) rfl rfl rfl ez7
  have wz7 : z7.toInt = (sI σ h0 116).toInt := by rw [ez7, (hfr.1 116 (by decide)).1]
  refine ⟨by omega, ?_⟩
  intro σ8 eσ8
  have hMp := hI.2
  have hI := hI.pA 16 (-1) 79 (by decide) (by decide) rfl rfl (by omega) eσ8
  have hfr := hfr.aI hMp (by decide) eσ8 (by decide)
  have f1σ8 : Fr h0 L [] [16] σ3 σ8 := Fr.rf.aI hMp (by decide) eσ8 (by decide)
  have tk6 : (sI σ8 (L 1) (sI σ h0 116).toInt.toNat).toInt = (sI σ3 (L 1) (sI σ h0 116).toInt.toNat).toInt := by rw [(f1σ8.2.1 1 (by decide) (by decide) _).1]
  have tk7 : (sI σ8 (L 3) (sI σ h0 116).toInt.toNat).toInt = (sI σ3 (L 3) (sI σ h0 116).toInt.toNat).toInt := by rw [(f1σ8.2.1 3 (by decide) (by decide) _).1]
  have tk8 : (sI σ8 (L 1) z2.toInt.toNat).toInt = (sI σ3 (L 1) z2.toInt.toNat).toInt := by rw [(f1σ8.2.1 1 (by decide) (by decide) _).1]
  have tk9 : (sI σ8 (L 10) z2.toInt.toNat).toInt = (sI σ3 (L 10) z2.toInt.toNat).toInt := by rw [(f1σ8.2.1 10 (by decide) (by decide) _).1]
  have tk10 : (sI σ8 h0 16).toInt = (sI σ3 h0 16).toInt := by rw [(f1σ8.1 16 (by decide)).1]
  have tk11 : (sI σ8 (L 14) z4.toInt.toNat).toInt = (sI σ3 (L 14) z4.toInt.toNat).toInt := by rw [(f1σ8.2.1 14 (by decide) (by decide) _).1]
  have tk12 : (sI σ8 (L 15) z4.toInt.toNat).toInt = (sI σ3 (L 15) z4.toInt.toNat).toInt := by rw [(f1σ8.2.1 15 (by decide) (by decide) _).1]
  have tk13 := atI eσ8 z4.toInt.toNat
  have tk14 : (sI σ8 (L 17) z4.toInt.toNat).toInt = (sI σ3 (L 17) z4.toInt.toNat).toInt := by rw [(f1σ8.2.1 17 (by decide) (by decide) _).1]
  have tk15 : (sI σ8 (L 22) z4.toInt.toNat).toInt = (sI σ3 (L 22) z4.toInt.toNat).toInt := by rw [(f1σ8.2.1 22 (by decide) (by decide) _).1]
  have tk16 : (sI σ8 (L 23) z4.toInt.toNat).toInt = (sI σ3 (L 23) z4.toInt.toNat).toInt := by rw [(f1σ8.2.1 23 (by decide) (by decide) _).1]
  have hG := hG.ra hMp eσ8 (by decide) (by decide) (by omega)
  refine ⟨by omega, ?_⟩
  intro σ9 eσ9
  have hMp := hI.2
  have hI := hI.pA 17 0 1 (by decide) (by decide) rfl rfl (i_bool _) eσ9
  have hfr := hfr.aI hMp (by decide) eσ9 (by decide)
  have f1σ9 : Fr h0 L [] [17] σ8 σ9 := Fr.rf.aI hMp (by decide) eσ9 (by decide)
  have tk17 : (sI σ9 (L 1) (sI σ h0 116).toInt.toNat).toInt = (sI σ8 (L 1) (sI σ h0 116).toInt.toNat).toInt := by rw [(f1σ9.2.1 1 (by decide) (by decide) _).1]
  have tk18 : (sI σ9 (L 3) (sI σ h0 116).toInt.toNat).toInt = (sI σ8 (L 3) (sI σ h0 116).toInt.toNat).toInt := by rw [(f1σ9.2.1 3 (by decide) (by decide) _).1]
  have tk19 : (sI σ9 (L 1) z2.toInt.toNat).toInt = (sI σ8 (L 1) z2.toInt.toNat).toInt := by rw [(f1σ9.2.1 1 (by decide) (by decide) _).1]
  have tk20 : (sI σ9 (L 10) z2.toInt.toNat).toInt = (sI σ8 (L 10) z2.toInt.toNat).toInt := by rw [(f1σ9.2.1 10 (by decide) (by decide) _).1]
  have tk21 : (sI σ9 h0 16).toInt = (sI σ8 h0 16).toInt := by rw [(f1σ9.1 16 (by decide)).1]
  have tk22 : (sI σ9 (L 14) z4.toInt.toNat).toInt = (sI σ8 (L 14) z4.toInt.toNat).toInt := by rw [(f1σ9.2.1 14 (by decide) (by decide) _).1]
  have tk23 : (sI σ9 (L 15) z4.toInt.toNat).toInt = (sI σ8 (L 15) z4.toInt.toNat).toInt := by rw [(f1σ9.2.1 15 (by decide) (by decide) _).1]
  have tk24 : (sI σ9 (L 16) z4.toInt.toNat).toInt = (sI σ8 (L 16) z4.toInt.toNat).toInt := by rw [(f1σ9.2.1 16 (by decide) (by decide) _).1]
  have tk25 := atI eσ9 z4.toInt.toNat
  have tk26 : (sI σ9 (L 22) z4.toInt.toNat).toInt = (sI σ8 (L 22) z4.toInt.toNat).toInt := by rw [(f1σ9.2.1 22 (by decide) (by decide) _).1]
  have tk27 : (sI σ9 (L 23) z4.toInt.toNat).toInt = (sI σ8 (L 23) z4.toInt.toNat).toInt := by rw [(f1σ9.2.1 23 (by decide) (by decide) _).1]
  have hG := hG.ra hMp eσ9 (by decide) (by decide) (by omega)
  refine ⟨by omega, ?_⟩
  intro σ10 eσ10
  have hMp := hI.2
  have hI := hI.pA 20 (-2147483648) 2147483647 (by decide) (by decide) rfl rfl (by omega) eσ10
  have hfr := hfr.aI hMp (by decide) eσ10 (by decide)
  have f1σ10 : Fr h0 L [] [20] σ9 σ10 := Fr.rf.aI hMp (by decide) eσ10 (by decide)
  have tk28 : (sI σ10 (L 1) (sI σ h0 116).toInt.toNat).toInt = (sI σ9 (L 1) (sI σ h0 116).toInt.toNat).toInt := by rw [(f1σ10.2.1 1 (by decide) (by decide) _).1]
  have tk29 : (sI σ10 (L 3) (sI σ h0 116).toInt.toNat).toInt = (sI σ9 (L 3) (sI σ h0 116).toInt.toNat).toInt := by rw [(f1σ10.2.1 3 (by decide) (by decide) _).1]
  have tk30 : (sI σ10 (L 1) z2.toInt.toNat).toInt = (sI σ9 (L 1) z2.toInt.toNat).toInt := by rw [(f1σ10.2.1 1 (by decide) (by decide) _).1]
  have tk31 : (sI σ10 (L 10) z2.toInt.toNat).toInt = (sI σ9 (L 10) z2.toInt.toNat).toInt := by rw [(f1σ10.2.1 10 (by decide) (by decide) _).1]
  have tk32 : (sI σ10 h0 16).toInt = (sI σ9 h0 16).toInt := by rw [(f1σ10.1 16 (by decide)).1]
  have tk33 : (sI σ10 (L 14) z4.toInt.toNat).toInt = (sI σ9 (L 14) z4.toInt.toNat).toInt := by rw [(f1σ10.2.1 14 (by decide) (by decide) _).1]
  have tk34 : (sI σ10 (L 15) z4.toInt.toNat).toInt = (sI σ9 (L 15) z4.toInt.toNat).toInt := by rw [(f1σ10.2.1 15 (by decide) (by decide) _).1]
  have tk35 : (sI σ10 (L 16) z4.toInt.toNat).toInt = (sI σ9 (L 16) z4.toInt.toNat).toInt := by rw [(f1σ10.2.1 16 (by decide) (by decide) _).1]
  have tk36 : (sI σ10 (L 17) z4.toInt.toNat).toInt = (sI σ9 (L 17) z4.toInt.toNat).toInt := by rw [(f1σ10.2.1 17 (by decide) (by decide) _).1]
  have tk37 : (sI σ10 (L 22) z4.toInt.toNat).toInt = (sI σ9 (L 22) z4.toInt.toNat).toInt := by rw [(f1σ10.2.1 22 (by decide) (by decide) _).1]
  have tk38 : (sI σ10 (L 23) z4.toInt.toNat).toInt = (sI σ9 (L 23) z4.toInt.toNat).toInt := by rw [(f1σ10.2.1 23 (by decide) (by decide) _).1]
  have hG := hG.fr f1σ10 (by decide) (by decide)
  have hIp := hI
  have hp := hP z6.toInt.toNat (by omega)
  have b78 := congrArg Int32.toInt (hfr.2.1 78 (by decide) (by decide) z6.toInt.toNat).1
  have b79 := congrArg Int32.toInt (hfr.2.1 79 (by decide) (by decide) z6.toInt.toNat).1
  refine s_X12_nameIt hI z4 z6 (by omega) (fun σ11 hI fz12 pz12 => ?_)
  have hfr := hfr.tr fz12 (by decide) (by decide)
  have tk39 : (sI σ11 (L 1) (sI σ h0 116).toInt.toNat).toInt = (sI σ10 (L 1) (sI σ h0 116).toInt.toNat).toInt := by rw [(fz12.2.1 1 (by decide) (by decide) _).1]
  have tk40 : (sI σ11 (L 3) (sI σ h0 116).toInt.toNat).toInt = (sI σ10 (L 3) (sI σ h0 116).toInt.toNat).toInt := by rw [(fz12.2.1 3 (by decide) (by decide) _).1]
  have tk41 : (sI σ11 (L 1) z2.toInt.toNat).toInt = (sI σ10 (L 1) z2.toInt.toNat).toInt := by rw [(fz12.2.1 1 (by decide) (by decide) _).1]
  have tk42 : (sI σ11 (L 10) z2.toInt.toNat).toInt = (sI σ10 (L 10) z2.toInt.toNat).toInt := by rw [(fz12.2.1 10 (by decide) (by decide) _).1]
  have tk43 : (sI σ11 h0 16).toInt = (sI σ10 h0 16).toInt := by rw [(fz12.1 16 (by decide)).1]
  have tk44 : (sI σ11 (L 14) z4.toInt.toNat).toInt = (sI σ10 (L 14) z4.toInt.toNat).toInt := by rw [(fz12.2.1 14 (by decide) (by decide) _).1]
  have tk45 : (sI σ11 (L 15) z4.toInt.toNat).toInt = (sI σ10 (L 15) z4.toInt.toNat).toInt := by rw [(fz12.2.1 15 (by decide) (by decide) _).1]
  have tk46 : (sI σ11 (L 16) z4.toInt.toNat).toInt = (sI σ10 (L 16) z4.toInt.toNat).toInt := by rw [(fz12.2.1 16 (by decide) (by decide) _).1]
  have tk47 : (sI σ11 (L 17) z4.toInt.toNat).toInt = (sI σ10 (L 17) z4.toInt.toNat).toInt := by rw [(fz12.2.1 17 (by decide) (by decide) _).1]
  have tk48 : (sI σ11 (L 22) z4.toInt.toNat).toInt = (sI σ10 (L 22) z4.toInt.toNat).toInt := by rw [(fz12.2.1 22 (by decide) (by decide) _).1]
  have tk49 : (sI σ11 (L 23) z4.toInt.toNat).toInt = (sI σ10 (L 23) z4.toInt.toNat).toInt := by rw [(fz12.2.1 23 (by decide) (by decide) _).1]
  have hG := hG.fr fz12 (by decide) (by decide)
  refine lw_in (fun (x : Int32) (σ' : HS) => OKM h0 L σ' ∧ Fr h0 L [16] [1, 2, 3, 4, 5, 6, 7, 8, 9, 10, 14, 15, 16, 17, 18, 19, 20, 21, 22, 23] σ σ' ∧ ((0 ≤ x.toInt ∧ x.toInt ≤ 4) ∧ ((sI σ' h0 16).toInt = z4.toInt) ∧ (0 ≤ z4.toInt ∧ z4.toInt ≤ 7) ∧ ((sI σ' (L 14) z4.toInt.toNat).toInt = 0) ∧ ((sI σ' (L 15) z4.toInt.toNat).toInt = z2.toInt) ∧ ((sI σ' (L 16) z4.toInt.toNat).toInt = (sI σ h0 116).toInt) ∧ ((sI σ' (L 22) z4.toInt.toNat).toInt = 0) ∧ ((sI σ' (L 23) z4.toInt.toNat).toInt = 0) ∧ ((sI σ' (L 1) (sI σ h0 116).toInt.toNat).toInt = 1) ∧ ((sI σ' (L 3) (sI σ h0 116).toInt.toNat).toInt = 1) ∧ ((sI σ' (L 1) z2.toInt.toNat).toInt = 0)) ∧ (GI h0 L B σ')) (fun (x : Int32) (σ' : HS) => (4 - x.toInt).toNat) ⟨hI, hfr, (by (try dsimp only); omega), hG⟩ (fun x13 σ14 hJ K15 hK15 => ?_)
  obtain ⟨hI, hfr, hv, hG⟩ := hJ
  (try dsimp only at hv)
  have rg_x13 := i_range x13
  refine ⟨fun c1 => ?_, fun c1 => ?_⟩
  · refine ⟨by omega, ?_⟩
    intro σ17 eσ17
    have hMp := hI.2
    have hI := hI.pA 10 0 1 (by decide) (by decide) rfl rfl (i_bool _) eσ17
    have hfr := hfr.aI hMp (by decide) eσ17 (by decide)
    have f1σ17 : Fr h0 L [] [10] σ14 σ17 := Fr.rf.aI hMp (by decide) eσ17 (by decide)
    have tk50 : (sI σ17 (L 1) (sI σ h0 116).toInt.toNat).toInt = (sI σ14 (L 1) (sI σ h0 116).toInt.toNat).toInt := by rw [(f1σ17.2.1 1 (by decide) (by decide) _).1]
    have tk51 : (sI σ17 (L 3) (sI σ h0 116).toInt.toNat).toInt = (sI σ14 (L 3) (sI σ h0 116).toInt.toNat).toInt := by rw [(f1σ17.2.1 3 (by decide) (by decide) _).1]
    have tk52 : (sI σ17 (L 1) z2.toInt.toNat).toInt = (sI σ14 (L 1) z2.toInt.toNat).toInt := by rw [(f1σ17.2.1 1 (by decide) (by decide) _).1]
    have tk53 := atI eσ17 z2.toInt.toNat
    have tk54 : (sI σ17 h0 16).toInt = (sI σ14 h0 16).toInt := by rw [(f1σ17.1 16 (by decide)).1]
    have tk55 : (sI σ17 (L 14) z4.toInt.toNat).toInt = (sI σ14 (L 14) z4.toInt.toNat).toInt := by rw [(f1σ17.2.1 14 (by decide) (by decide) _).1]
    have tk56 : (sI σ17 (L 15) z4.toInt.toNat).toInt = (sI σ14 (L 15) z4.toInt.toNat).toInt := by rw [(f1σ17.2.1 15 (by decide) (by decide) _).1]
    have tk57 : (sI σ17 (L 16) z4.toInt.toNat).toInt = (sI σ14 (L 16) z4.toInt.toNat).toInt := by rw [(f1σ17.2.1 16 (by decide) (by decide) _).1]
    have tk58 : (sI σ17 (L 17) z4.toInt.toNat).toInt = (sI σ14 (L 17) z4.toInt.toNat).toInt := by rw [(f1σ17.2.1 17 (by decide) (by decide) _).1]
    have tk59 : (sI σ17 (L 22) z4.toInt.toNat).toInt = (sI σ14 (L 22) z4.toInt.toNat).toInt := by rw [(f1σ17.2.1 22 (by decide) (by decide) _).1]
    have tk60 : (sI σ17 (L 23) z4.toInt.toNat).toInt = (sI σ14 (L 23) z4.toInt.toNat).toInt := by rw [(f1σ17.2.1 23 (by decide) (by decide) _).1]
    have hG := hG.tg hMp eσ17 (fun h => absurd h (by decide))
    have hIp := hI
    have hrxz4 : (sI σ17 h0 16).toInt.toNat = z4.toInt.toNat := by omega
    refine s2_X12_done hI  hG (by rw [hrxz4]; omega) (by rw [hrxz4]; exact EV.m0 (n := z2.toInt.toNat) (p := (sI σ h0 116).toInt.toNat) (by omega) (by omega) (by omega) (by omega) (by omega) (by omega) (by omega) (by omega) (by have k_ : (vp_nar .boolean 0).toInt = 0 := (by decide); omega)) (fun σ18 hI fz19 pz19 => ?_)
    have hfr := hfr.tr fz19 (by decide) (by decide)
    have tk64 : (sI σ18 (L 10) z2.toInt.toNat).toInt = (sI σ17 (L 10) z2.toInt.toNat).toInt := by rw [(fz19.2.1 10 (by decide) (by decide) _).1]
    have tk66 : (sI σ18 (L 14) z4.toInt.toNat).toInt = (sI σ17 (L 14) z4.toInt.toNat).toInt := by rw [(fz19.2.1 14 (by decide) (by decide) _).1]
    have tk67 : (sI σ18 (L 15) z4.toInt.toNat).toInt = (sI σ17 (L 15) z4.toInt.toNat).toInt := by rw [(fz19.2.1 15 (by decide) (by decide) _).1]
    have tk68 : (sI σ18 (L 16) z4.toInt.toNat).toInt = (sI σ17 (L 16) z4.toInt.toNat).toInt := by rw [(fz19.2.1 16 (by decide) (by decide) _).1]
    have tk69 : (sI σ18 (L 17) z4.toInt.toNat).toInt = (sI σ17 (L 17) z4.toInt.toNat).toInt := by rw [(fz19.2.1 17 (by decide) (by decide) _).1]
    have tk70 : (sI σ18 (L 22) z4.toInt.toNat).toInt = (sI σ17 (L 22) z4.toInt.toNat).toInt := by rw [(fz19.2.1 22 (by decide) (by decide) _).1]
    have tk71 : (sI σ18 (L 23) z4.toInt.toNat).toInt = (sI σ17 (L 23) z4.toInt.toNat).toInt := by rw [(fz19.2.1 23 (by decide) (by decide) _).1]
    have hG := pz19.1
    have dvz19 := pz19.2
    exact kk z2 σ18 hI hfr ⟨hG, (by have q := mk_at (dvz19 z2.toInt.toNat (by omega)) (by rw [hrxz4]; omega) (by rw [hrxz4]; omega); rw [hrxz4] at q; omega)⟩
  · intro z20 ez20
    try have hz20 := i_mulk 4 rfl ez20 (by omega) (by omega)
    have rg_z20 := i_range z20
    intro z21 ez21
    try have hz21 := i_add ez21 (by omega) (by omega)
    have rg_z21 := i_range z21
    intro z22 ez22
    have wz22 : z22.toInt = (sJ σ14 h0 2).toInt := by rw [ez22]
    have vz22 := l_range z22
    refine ⟨by omega, ?_⟩
    intro σ23 eσ23
    have hMp := hI.2
    have hI := hI.pJ eσ23
    have hfr := hfr.aJ hMp (by decide) eσ23 (by decide)
    have f1σ23 : Fr h0 L [] [21] σ14 σ23 := Fr.rf.aJ hMp (by decide) eσ23 (by decide)
    have tk72 : (sI σ23 (L 1) (sI σ h0 116).toInt.toNat).toInt = (sI σ14 (L 1) (sI σ h0 116).toInt.toNat).toInt := by rw [(f1σ23.2.1 1 (by decide) (by decide) _).1]
    have tk73 : (sI σ23 (L 3) (sI σ h0 116).toInt.toNat).toInt = (sI σ14 (L 3) (sI σ h0 116).toInt.toNat).toInt := by rw [(f1σ23.2.1 3 (by decide) (by decide) _).1]
    have tk74 : (sI σ23 (L 1) z2.toInt.toNat).toInt = (sI σ14 (L 1) z2.toInt.toNat).toInt := by rw [(f1σ23.2.1 1 (by decide) (by decide) _).1]
    have tk75 : (sI σ23 (L 10) z2.toInt.toNat).toInt = (sI σ14 (L 10) z2.toInt.toNat).toInt := by rw [(f1σ23.2.1 10 (by decide) (by decide) _).1]
    have tk76 : (sI σ23 h0 16).toInt = (sI σ14 h0 16).toInt := by rw [(f1σ23.1 16 (by decide)).1]
    have tk77 : (sI σ23 (L 14) z4.toInt.toNat).toInt = (sI σ14 (L 14) z4.toInt.toNat).toInt := by rw [(f1σ23.2.1 14 (by decide) (by decide) _).1]
    have tk78 : (sI σ23 (L 15) z4.toInt.toNat).toInt = (sI σ14 (L 15) z4.toInt.toNat).toInt := by rw [(f1σ23.2.1 15 (by decide) (by decide) _).1]
    have tk79 : (sI σ23 (L 16) z4.toInt.toNat).toInt = (sI σ14 (L 16) z4.toInt.toNat).toInt := by rw [(f1σ23.2.1 16 (by decide) (by decide) _).1]
    have tk80 : (sI σ23 (L 17) z4.toInt.toNat).toInt = (sI σ14 (L 17) z4.toInt.toNat).toInt := by rw [(f1σ23.2.1 17 (by decide) (by decide) _).1]
    have tk81 : (sI σ23 (L 22) z4.toInt.toNat).toInt = (sI σ14 (L 22) z4.toInt.toNat).toInt := by rw [(f1σ23.2.1 22 (by decide) (by decide) _).1]
    have tk82 : (sI σ23 (L 23) z4.toInt.toNat).toInt = (sI σ14 (L 23) z4.toInt.toNat).toInt := by rw [(f1σ23.2.1 23 (by decide) (by decide) _).1]
    have hG := hG.fr f1σ23 (by decide) (by decide)
    intro z24 ez24
    try have hz24 := i_add ez24 (by omega) (by omega)
    have rg_z24 := i_range z24
    exact hK15 z24 σ23 ⟨hI, hfr, (by (try dsimp only); omega), hG⟩ (by (try dsimp only); omega)
set_option maxRecDepth 100000 in
set_option maxHeartbeats 4000000 in
theorem s_X12_setBasic {h0 : Nat} {L : Nat → Nat} {σ : HS} (hI : OKM h0 L σ) (a1 : Int32) (a2 : Int32) {B : Int} (hG : GI h0 L B σ) (hN : InM h0 L σ (sI σ h0 87).toInt) (hz : 0 ≤ a1.toInt ∧ a1.toInt < 80 ∧ 0 ≤ a2.toInt ∧ a2.toInt + 40 ≤ (sI σ h0 87).toInt) {post : Int64 → HS → Prop} (kk : ∀ (r : Int64) (σ' : HS), OKM h0 L σ' → Fr h0 L [16] [1, 2, 3, 4, 5, 6, 7, 8, 9, 14, 15, 16, 17, 18, 19, 20, 21, 22, 23] σ σ' → (GI h0 L B σ') → post r σ') : F_X12_setBasic h0 L a1 a2 post σ := by
  unfold F_X12_setBasic
  have k_0 : (0 : Int32).toInt = 0 := rfl
  have k_1 : (1 : Int32).toInt = 1 := rfl
  have k_3 : (3 : Int32).toInt = 3 := rfl
  have k_4 : (4 : Int32).toInt = 4 := rfl
  have k_8 : (8 : Int32).toInt = 8 := rfl
  have k_32 : (32 : Int32).toInt = 32 := rfl
  have k_39 : (39 : Int32).toInt = 39 := rfl
  have kl_0 : (0 : Int64).toInt = 0 := rfl
  have rg_a1 := i_range a1
  have rg_a2 := i_range a2
  have hfr : Fr h0 L [16] [1, 2, 3, 4, 5, 6, 7, 8, 9, 14, 15, 16, 17, 18, 19, 20, 21, 22, 23] σ σ := Fr.rf
  have h87 : (0 : Int) ≤ (sI σ h0 87).toInt ∧ (sI σ h0 87).toInt ≤ 4000 := hI.fI 87 0 4000 (by decide) rfl rfl rfl rfl
  have hIp := hI
  have f16 := hI.fI 16 0 8 (by decide) rfl rfl rfl rfl
  have g16 := hG.1.1
  refine s_X12_record hI 3 a1 (by omega) (fun z2 σ1 hI fz2 pz2 => ?_)
  have hfr := hfr.tr fz2 (by decide) (by decide)
  have tk1 : (sI σ1 h0 16).toInt = (sI σ h0 16).toInt := by rw [(fz2.1 16 (by decide)).1]
  have rg_z2 := i_range z2
  have hG := pz2.2.gi hG fz2
  have rcz2 := (pz2.2 z2.toInt.toNat).2 (by omega)
  refine lw_in (fun (x : Int32) (σ' : HS) => OKM h0 L σ' ∧ Fr h0 L [16] [1, 2, 3, 4, 5, 6, 7, 8, 9, 14, 15, 16, 17, 18, 19, 20, 21, 22, 23] σ σ' ∧ ((0 ≤ x.toInt ∧ x.toInt ≤ 4) ∧ ((sI σ' h0 16).toInt = z2.toInt) ∧ (0 ≤ z2.toInt ∧ z2.toInt ≤ 7) ∧ ((sI σ' (L 14) z2.toInt.toNat).toInt = 3) ∧ ((sI σ' (L 22) z2.toInt.toNat).toInt + (sI σ' (L 23) z2.toInt.toNat).toInt ≤ 4096)) ∧ (GI h0 L B σ')) (fun (x : Int32) (σ' : HS) => (4 - x.toInt).toNat) ⟨hI, hfr, (by (try dsimp only); omega), hG⟩ (fun x3 σ4 hJ K5 hK5 => ?_)
  obtain ⟨hI, hfr, hv, hG⟩ := hJ
  (try dsimp only at hv)
  have rg_x3 := i_range x3
  refine ⟨fun c1 => ?_, fun c1 => ?_⟩
  · intro z7 ez7
    try have hz7 := i_add ez7 (by omega) (by omega)
    have rg_z7 := i_range z7
    refine s_X12_number hI z7 4 (by omega) ((hN.fr hfr (by decide) (by decide)).le (by omega)) (fun z9 pz9 => ?_)
    have tz9 : z9.toInt = (NUM h0 L σ4 z7.toInt 4 : Int) ∧ z9.toInt < 4294967296 := num_t (n := 4) (K := 4294967296) pz9 rfl (by decide)
    refine jn_dup ?_
    refine ⟨fun c2 => ?_, fun c2 => ?_⟩
    · intro z18 ez18
      try have hz18 := l_toi ez18 (by omega) (by omega)
      have rg_z18 := i_range z18
      intro z19 ez19
      try have hz19 := i_and ez19 (by omega)
      have rg_z19 := i_range z19
      (try dsimp only)
      refine ⟨by omega, ?_⟩
      intro σ15 eσ15
      have hMp := hI.2
      have hI := hI.pA 20 (-2147483648) 2147483647 (by decide) (by decide) rfl rfl (by omega) eσ15
      have hfr := hfr.aI hMp (by decide) eσ15 (by decide)
      have f1σ15 : Fr h0 L [] [20] σ4 σ15 := Fr.rf.aI hMp (by decide) eσ15 (by decide)
      have tk2 : (sI σ15 h0 16).toInt = (sI σ4 h0 16).toInt := by rw [(f1σ15.1 16 (by decide)).1]
      have tk3 : (sI σ15 (L 14) z2.toInt.toNat).toInt = (sI σ4 (L 14) z2.toInt.toNat).toInt := by rw [(f1σ15.2.1 14 (by decide) (by decide) _).1]
      have tk4 : (sI σ15 (L 15) z2.toInt.toNat).toInt = (sI σ4 (L 15) z2.toInt.toNat).toInt := by rw [(f1σ15.2.1 15 (by decide) (by decide) _).1]
      have tk5 : (sI σ15 (L 16) z2.toInt.toNat).toInt = (sI σ4 (L 16) z2.toInt.toNat).toInt := by rw [(f1σ15.2.1 16 (by decide) (by decide) _).1]
      have tk6 : (sI σ15 (L 17) z2.toInt.toNat).toInt = (sI σ4 (L 17) z2.toInt.toNat).toInt := by rw [(f1σ15.2.1 17 (by decide) (by decide) _).1]
      have tk7 : (sI σ15 (L 22) z2.toInt.toNat).toInt = (sI σ4 (L 22) z2.toInt.toNat).toInt := by rw [(f1σ15.2.1 22 (by decide) (by decide) _).1]
      have tk8 : (sI σ15 (L 23) z2.toInt.toNat).toInt = (sI σ4 (L 23) z2.toInt.toNat).toInt := by rw [(f1σ15.2.1 23 (by decide) (by decide) _).1]
      have hG := hG.fr f1σ15 (by decide) (by decide)
      have hIp := hI
      have hrxz2 : (sI σ15 h0 16).toInt.toNat = z2.toInt.toNat := by omega
      refine s2_X12_done hI  hG (by rw [hrxz2]; omega) (by rw [hrxz2]; exact Or.inr (Or.inr (Or.inl (by omega)))) (fun σ16 hI fz17 pz17 => ?_)
      have hfr := hfr.tr fz17 (by decide) (by decide)
      have tk10 : (sI σ16 (L 14) z2.toInt.toNat).toInt = (sI σ15 (L 14) z2.toInt.toNat).toInt := by rw [(fz17.2.1 14 (by decide) (by decide) _).1]
      have tk11 : (sI σ16 (L 15) z2.toInt.toNat).toInt = (sI σ15 (L 15) z2.toInt.toNat).toInt := by rw [(fz17.2.1 15 (by decide) (by decide) _).1]
      have tk12 : (sI σ16 (L 16) z2.toInt.toNat).toInt = (sI σ15 (L 16) z2.toInt.toNat).toInt := by rw [(fz17.2.1 16 (by decide) (by decide) _).1]
      have tk13 : (sI σ16 (L 17) z2.toInt.toNat).toInt = (sI σ15 (L 17) z2.toInt.toNat).toInt := by rw [(fz17.2.1 17 (by decide) (by decide) _).1]
      have tk14 : (sI σ16 (L 22) z2.toInt.toNat).toInt = (sI σ15 (L 22) z2.toInt.toNat).toInt := by rw [(fz17.2.1 22 (by decide) (by decide) _).1]
      have tk15 : (sI σ16 (L 23) z2.toInt.toNat).toInt = (sI σ15 (L 23) z2.toInt.toNat).toInt := by rw [(fz17.2.1 23 (by decide) (by decide) _).1]
      have hG := pz17.1
      have dvz17 := pz17.2
      exact kk 0 σ16 hI hfr hG
    · refine ⟨by omega, ?_⟩
      intro z20 ez20
      have vz20 := hI.aI 6 160 (-2147483648) 2147483647 (by decide) (by decide) rfl rfl rfl (i := a1.toInt) (by omega) ez20
      have wz20 : z20.toInt = (sI σ4 (L 6) a1.toInt.toNat).toInt := by rw [ez20]
      (try dsimp only)
      refine ⟨by omega, ?_⟩
      intro σ15 eσ15
      have hMp := hI.2
      have hI := hI.pA 20 (-2147483648) 2147483647 (by decide) (by decide) rfl rfl (by omega) eσ15
      have hfr := hfr.aI hMp (by decide) eσ15 (by decide)
      have f1σ15 : Fr h0 L [] [20] σ4 σ15 := Fr.rf.aI hMp (by decide) eσ15 (by decide)
      have tk16 : (sI σ15 h0 16).toInt = (sI σ4 h0 16).toInt := by rw [(f1σ15.1 16 (by decide)).1]
      have tk17 : (sI σ15 (L 14) z2.toInt.toNat).toInt = (sI σ4 (L 14) z2.toInt.toNat).toInt := by rw [(f1σ15.2.1 14 (by decide) (by decide) _).1]
      have tk18 : (sI σ15 (L 15) z2.toInt.toNat).toInt = (sI σ4 (L 15) z2.toInt.toNat).toInt := by rw [(f1σ15.2.1 15 (by decide) (by decide) _).1]
      have tk19 : (sI σ15 (L 16) z2.toInt.toNat).toInt = (sI σ4 (L 16) z2.toInt.toNat).toInt := by rw [(f1σ15.2.1 16 (by decide) (by decide) _).1]
      have tk20 : (sI σ15 (L 17) z2.toInt.toNat).toInt = (sI σ4 (L 17) z2.toInt.toNat).toInt := by rw [(f1σ15.2.1 17 (by decide) (by decide) _).1]
      have tk21 : (sI σ15 (L 22) z2.toInt.toNat).toInt = (sI σ4 (L 22) z2.toInt.toNat).toInt := by rw [(f1σ15.2.1 22 (by decide) (by decide) _).1]
      have tk22 : (sI σ15 (L 23) z2.toInt.toNat).toInt = (sI σ4 (L 23) z2.toInt.toNat).toInt := by rw [(f1σ15.2.1 23 (by decide) (by decide) _).1]
      have hG := hG.fr f1σ15 (by decide) (by decide)
      have hIp := hI
      have hrxz2 : (sI σ15 h0 16).toInt.toNat = z2.toInt.toNat := by omega
      refine s2_X12_done hI  hG (by rw [hrxz2]; omega) (by rw [hrxz2]; exact Or.inr (Or.inr (Or.inl (by omega)))) (fun σ16 hI fz17 pz17 => ?_)
      have hfr := hfr.tr fz17 (by decide) (by decide)
      have tk24 : (sI σ16 (L 14) z2.toInt.toNat).toInt = (sI σ15 (L 14) z2.toInt.toNat).toInt := by rw [(fz17.2.1 14 (by decide) (by decide) _).1]
      have tk25 : (sI σ16 (L 15) z2.toInt.toNat).toInt = (sI σ15 (L 15) z2.toInt.toNat).toInt := by rw [(fz17.2.1 15 (by decide) (by decide) _).1]
      have tk26 : (sI σ16 (L 16) z2.toInt.toNat).toInt = (sI σ15 (L 16) z2.toInt.toNat).toInt := by rw [(fz17.2.1 16 (by decide) (by decide) _).1]
      have tk27 : (sI σ16 (L 17) z2.toInt.toNat).toInt = (sI σ15 (L 17) z2.toInt.toNat).toInt := by rw [(fz17.2.1 17 (by decide) (by decide) _).1]
      have tk28 : (sI σ16 (L 22) z2.toInt.toNat).toInt = (sI σ15 (L 22) z2.toInt.toNat).toInt := by rw [(fz17.2.1 22 (by decide) (by decide) _).1]
      have tk29 : (sI σ16 (L 23) z2.toInt.toNat).toInt = (sI σ15 (L 23) z2.toInt.toNat).toInt := by rw [(fz17.2.1 23 (by decide) (by decide) _).1]
      have hG := pz17.1
      have dvz17 := pz17.2
      exact kk 0 σ16 hI hfr hG
  · intro z21 ez21
    try have hz21 := i_mulk 8 rfl ez21 (by omega) (by omega)
    have rg_z21 := i_range z21
    intro z22 ez22
    try have hz22 := i_add ez22 (by omega) (by omega)
    have rg_z22 := i_range z22
    refine s_X12_number hI z22 8 (by omega) ((hN.fr hfr (by decide) (by decide)).le (by omega)) (fun z24 pz24 => ?_)
    intro z25 ez25
    try have hz25 := i_mulk 4 rfl ez25 (by omega) (by omega)
    have rg_z25 := i_range z25
    intro z26 ez26
    try have hz26 := i_add ez26 (by omega) (by omega)
    have rg_z26 := i_range z26
    refine jn_dup ?_
    refine ⟨fun c3 => ?_, fun c3 => ?_⟩
    · refine ⟨fun c4 => ?_, fun c4 => ?_⟩
      · intro z34 ez34
        try have hz34 := i_mulk 4 rfl ez34 (by omega) (by omega)
        have rg_z34 := i_range z34
        intro z35 ez35
        try have hz35 := i_add ez35 (by omega) (by omega)
        have rg_z35 := i_range z35
        refine ⟨by omega, ?_⟩
        intro z36 ez36
        have wz36 : z36.toInt = (sJ σ4 (L 7) z35.toInt.toNat).toInt := by rw [ez36]
        (try dsimp only)
        refine ⟨by omega, ?_⟩
        intro σ32 eσ32
        have hMp := hI.2
        have hI := hI.pJ eσ32
        have hfr := hfr.aJ hMp (by decide) eσ32 (by decide)
        have f1σ32 : Fr h0 L [] [21] σ4 σ32 := Fr.rf.aJ hMp (by decide) eσ32 (by decide)
        have tk30 : (sI σ32 h0 16).toInt = (sI σ4 h0 16).toInt := by rw [(f1σ32.1 16 (by decide)).1]
        have tk31 : (sI σ32 (L 14) z2.toInt.toNat).toInt = (sI σ4 (L 14) z2.toInt.toNat).toInt := by rw [(f1σ32.2.1 14 (by decide) (by decide) _).1]
        have tk32 : (sI σ32 (L 15) z2.toInt.toNat).toInt = (sI σ4 (L 15) z2.toInt.toNat).toInt := by rw [(f1σ32.2.1 15 (by decide) (by decide) _).1]
        have tk33 : (sI σ32 (L 16) z2.toInt.toNat).toInt = (sI σ4 (L 16) z2.toInt.toNat).toInt := by rw [(f1σ32.2.1 16 (by decide) (by decide) _).1]
        have tk34 : (sI σ32 (L 17) z2.toInt.toNat).toInt = (sI σ4 (L 17) z2.toInt.toNat).toInt := by rw [(f1σ32.2.1 17 (by decide) (by decide) _).1]
        have tk35 : (sI σ32 (L 22) z2.toInt.toNat).toInt = (sI σ4 (L 22) z2.toInt.toNat).toInt := by rw [(f1σ32.2.1 22 (by decide) (by decide) _).1]
        have tk36 : (sI σ32 (L 23) z2.toInt.toNat).toInt = (sI σ4 (L 23) z2.toInt.toNat).toInt := by rw [(f1σ32.2.1 23 (by decide) (by decide) _).1]
        have hG := hG.fr f1σ32 (by decide) (by decide)
        intro z33 ez33
        try have hz33 := i_add ez33 (by omega) (by omega)
        have rg_z33 := i_range z33
        exact hK5 z33 σ32 ⟨hI, hfr, (by (try dsimp only); omega), hG⟩ (by (try dsimp only); omega)
      · intro z37 ez37
        have wz37 : z37.toInt = (sJ σ4 h0 2).toInt := by rw [ez37]
        have vz37 := l_range z37
        (try dsimp only)
        refine ⟨by omega, ?_⟩
        intro σ32 eσ32
        have hMp := hI.2
        have hI := hI.pJ eσ32
        have hfr := hfr.aJ hMp (by decide) eσ32 (by decide)
        have f1σ32 : Fr h0 L [] [21] σ4 σ32 := Fr.rf.aJ hMp (by decide) eσ32 (by decide)
        have tk37 : (sI σ32 h0 16).toInt = (sI σ4 h0 16).toInt := by rw [(f1σ32.1 16 (by decide)).1]
        have tk38 : (sI σ32 (L 14) z2.toInt.toNat).toInt = (sI σ4 (L 14) z2.toInt.toNat).toInt := by rw [(f1σ32.2.1 14 (by decide) (by decide) _).1]
        have tk39 : (sI σ32 (L 15) z2.toInt.toNat).toInt = (sI σ4 (L 15) z2.toInt.toNat).toInt := by rw [(f1σ32.2.1 15 (by decide) (by decide) _).1]
        have tk40 : (sI σ32 (L 16) z2.toInt.toNat).toInt = (sI σ4 (L 16) z2.toInt.toNat).toInt := by rw [(f1σ32.2.1 16 (by decide) (by decide) _).1]
        have tk41 : (sI σ32 (L 17) z2.toInt.toNat).toInt = (sI σ4 (L 17) z2.toInt.toNat).toInt := by rw [(f1σ32.2.1 17 (by decide) (by decide) _).1]
        have tk42 : (sI σ32 (L 22) z2.toInt.toNat).toInt = (sI σ4 (L 22) z2.toInt.toNat).toInt := by rw [(f1σ32.2.1 22 (by decide) (by decide) _).1]
        have tk43 : (sI σ32 (L 23) z2.toInt.toNat).toInt = (sI σ4 (L 23) z2.toInt.toNat).toInt := by rw [(f1σ32.2.1 23 (by decide) (by decide) _).1]
        have hG := hG.fr f1σ32 (by decide) (by decide)
        intro z33 ez33
        try have hz33 := i_add ez33 (by omega) (by omega)
        have rg_z33 := i_range z33
        exact hK5 z33 σ32 ⟨hI, hfr, (by (try dsimp only); omega), hG⟩ (by (try dsimp only); omega)
    · (try dsimp only)
      refine ⟨by omega, ?_⟩
      intro σ32 eσ32
      have hMp := hI.2
      have hI := hI.pJ eσ32
      have hfr := hfr.aJ hMp (by decide) eσ32 (by decide)
      have f1σ32 : Fr h0 L [] [21] σ4 σ32 := Fr.rf.aJ hMp (by decide) eσ32 (by decide)
      have tk44 : (sI σ32 h0 16).toInt = (sI σ4 h0 16).toInt := by rw [(f1σ32.1 16 (by decide)).1]
      have tk45 : (sI σ32 (L 14) z2.toInt.toNat).toInt = (sI σ4 (L 14) z2.toInt.toNat).toInt := by rw [(f1σ32.2.1 14 (by decide) (by decide) _).1]
      have tk46 : (sI σ32 (L 15) z2.toInt.toNat).toInt = (sI σ4 (L 15) z2.toInt.toNat).toInt := by rw [(f1σ32.2.1 15 (by decide) (by decide) _).1]
      have tk47 : (sI σ32 (L 16) z2.toInt.toNat).toInt = (sI σ4 (L 16) z2.toInt.toNat).toInt := by rw [(f1σ32.2.1 16 (by decide) (by decide) _).1]
      have tk48 : (sI σ32 (L 17) z2.toInt.toNat).toInt = (sI σ4 (L 17) z2.toInt.toNat).toInt := by rw [(f1σ32.2.1 17 (by decide) (by decide) _).1]
      have tk49 : (sI σ32 (L 22) z2.toInt.toNat).toInt = (sI σ4 (L 22) z2.toInt.toNat).toInt := by rw [(f1σ32.2.1 22 (by decide) (by decide) _).1]
      have tk50 : (sI σ32 (L 23) z2.toInt.toNat).toInt = (sI σ4 (L 23) z2.toInt.toNat).toInt := by rw [(f1σ32.2.1 23 (by decide) (by decide) _).1]
      have hG := hG.fr f1σ32 (by decide) (by decide)
      intro z33 ez33
      try have hz33 := i_add ez33 (by omega) (by omega)
      have rg_z33 := i_range z33
      exact hK5 z33 σ32 ⟨hI, hfr, (by (try dsimp only); omega), hG⟩ (by (try dsimp only); omega)
set_option maxRecDepth 100000 in
set_option maxHeartbeats 4000000 in
theorem s_X12_setSize {h0 : Nat} {L : Nat → Nat} {σ : HS} (hI : OKM h0 L σ) (a1 : Int32) (a2 : Int32) {B : Int} (hG : GI h0 L B σ) (hN : InM h0 L σ (sI σ h0 87).toInt) (hz : 0 ≤ a1.toInt ∧ a1.toInt < 80 ∧ 0 ≤ a2.toInt ∧ a2.toInt + 8 ≤ (sI σ h0 87).toInt ∧ 0 ≤ (sI σ h0 100).toInt) {post : Int64 → HS → Prop} (kk : ∀ (r : Int64) (σ' : HS), OKM h0 L σ' → Fr h0 L [16] [1, 2, 3, 4, 5, 6, 7, 8, 9, 14, 15, 16, 17, 18, 19, 20, 21, 22, 23, 27, 28, 46, 76] σ σ' → (GI h0 L B σ') → post r σ') : F_X12_setSize h0 L a1 a2 post σ := by
  unfold F_X12_setSize
  have k_0 : (0 : Int32).toInt = 0 := rfl
  have k_1 : (1 : Int32).toInt = 1 := rfl
  have k_2 : (2 : Int32).toInt = 2 := rfl
  have k_3 : (3 : Int32).toInt = 3 := rfl
  have k_4 : (4 : Int32).toInt = 4 := rfl
  have k_8 : (8 : Int32).toInt = 8 := rfl
  have kl_0 : (0 : Int64).toInt = 0 := rfl
  have kl_4096 : (4096 : Int64).toInt = 4096 := rfl
  have kl_3221225556 : (3221225556 : Int64).toInt = 3221225556 := rfl
  have kl_3221225599 : (3221225599 : Int64).toInt = 3221225599 := rfl
  have kl_3221225658 : (3221225658 : Int64).toInt = 3221225658 := rfl
  have rg_a1 := i_range a1
  have rg_a2 := i_range a2
  have hfr : Fr h0 L [16] [1, 2, 3, 4, 5, 6, 7, 8, 9, 14, 15, 16, 17, 18, 19, 20, 21, 22, 23, 27, 28, 46, 76] σ σ := Fr.rf
  have h87 : (0 : Int) ≤ (sI σ h0 87).toInt ∧ (sI σ h0 87).toInt ≤ 4000 := hI.fI 87 0 4000 (by decide) rfl rfl rfl rfl
  refine s_X12_number hI a2 8 (by omega) ((hN.fr hfr (by decide) (by decide)).le (by omega)) (fun z2 pz2 => ?_)
  refine ⟨by omega, ?_⟩
  intro z3 ez3
  have vz3 := hI.aI 3 160 0 1 (by decide) (by decide) rfl rfl rfl (i := a1.toInt) (by omega) ez3
  have wz3 : z3.toInt = (sI σ (L 3) a1.toInt.toNat).toInt := by rw [ez3]
  refine ⟨fun c1 => ?_, fun c1 => ?_⟩
  · refine s3_X12_isLess hI 4096 z2  (fun z5 pz5 => ?_)
    have rg_z5 := i_range z5
    refine ⟨fun c2 => ?_, fun c2 => ?_⟩
    · refine ⟨by omega, ?_⟩
      intro z6 ez6
      have vz6 := hI.aI 8 160 0 4096 (by decide) (by decide) rfl rfl rfl (i := a1.toInt) (by omega) ez6
      have wz6 : z6.toInt = (sI σ (L 8) a1.toInt.toNat).toInt := by rw [ez6]
      intro z7 ez7
      have hz7 := i_tol ez7
      have rg_z7 := l_range z7
      refine jn_in (fun (x : Int32) (σ' : HS) => σ = σ' ∧ ((0 ≤ x.toInt ∧ x.toInt ≤ 4096))) (fun x8 σ9 hJ => ?_) (fun K10 hK10 => ?_)
      · obtain ⟨hsg, hv⟩ := hJ
        subst hsg
        (try dsimp only at hv)
        have rg_x8 := i_range x8
        refine ⟨by omega, ?_⟩
        intro z13 ez13
        have vz13 := hI.aI 8 160 0 4096 (by decide) (by decide) rfl rfl rfl (i := a1.toInt) (by omega) ez13
        have wz13 : z13.toInt = (sI σ (L 8) a1.toInt.toNat).toInt := by rw [ez13]
        intro z14 ez14
        have hz14 := i_tol ez14
        have rg_z14 := l_range z14
        refine jn_in (fun (x : Int32) (σ' : HS) => σ = σ' ∧ ((0 ≤ x.toInt ∧ x.toInt ≤ 4096))) (fun x15 σ16 hJ => ?_) (fun K17 hK17 => ?_)
        · obtain ⟨hsg, hv⟩ := hJ
          subst hsg
          (try dsimp only at hv)
          have rg_x15 := i_range x15
          refine lw_in (fun (x : Int32) (σ' : HS) => σ = σ' ∧ ((0 ≤ x.toInt ∧ x.toInt ≤ 81))) (fun (x : Int32) (σ' : HS) => (82 - x.toInt).toNat) ⟨rfl, (by (try dsimp only); omega)⟩ (fun x20 σ21 hJ K22 hK22 => ?_)
          obtain ⟨hsg, hv⟩ := hJ
          subst hsg
          (try dsimp only at hv)
          have rg_x20 := i_range x20
          intro z24 ez24
          have vz24 := hI.fI 63 0 80 (by decide) rfl rfl rfl ez24
          have wz24 : z24.toInt = (sI σ h0 63).toInt := by rw [ez24, (hfr.1 63 (by decide)).1]
          refine ⟨fun c3 => ?_, fun c3 => ?_⟩
          · have hIp := hI
            have f16 := hI.fI 16 0 8 (by decide) rfl rfl rfl rfl
            have g16 := hG.1.1
            refine s_X12_record hI 2 a1 (by omega) (fun z26 σ25 hI fz26 pz26 => ?_)
            have hfr := hfr.tr fz26 (by decide) (by decide)
            have tk1 : (sI σ25 h0 16).toInt = (sI σ h0 16).toInt := by rw [(fz26.1 16 (by decide)).1]
            have rg_z26 := i_range z26
            have hG := pz26.2.gi hG fz26
            have rcz26 := (pz26.2 z26.toInt.toNat).2 (by omega)
            intro z27 ez27
            try have hz27 := l_toi ez27 (by omega) (by omega)
            have rg_z27 := i_range z27
            refine ⟨by omega, ?_⟩
            intro σ28 eσ28
            have hMp := hI.2
            have hI := hI.pA 22 0 4096 (by decide) (by decide) rfl rfl (by omega) eσ28
            have hfr := hfr.aI hMp (by decide) eσ28 (by decide)
            have f1σ28 : Fr h0 L [] [22] σ25 σ28 := Fr.rf.aI hMp (by decide) eσ28 (by decide)
            have tk2 : (sI σ28 h0 16).toInt = (sI σ25 h0 16).toInt := by rw [(f1σ28.1 16 (by decide)).1]
            have tk3 : (sI σ28 (L 14) z26.toInt.toNat).toInt = (sI σ25 (L 14) z26.toInt.toNat).toInt := by rw [(f1σ28.2.1 14 (by decide) (by decide) _).1]
            have tk4 : (sI σ28 (L 15) z26.toInt.toNat).toInt = (sI σ25 (L 15) z26.toInt.toNat).toInt := by rw [(f1σ28.2.1 15 (by decide) (by decide) _).1]
            have tk5 : (sI σ28 (L 16) z26.toInt.toNat).toInt = (sI σ25 (L 16) z26.toInt.toNat).toInt := by rw [(f1σ28.2.1 16 (by decide) (by decide) _).1]
            have tk6 : (sI σ28 (L 17) z26.toInt.toNat).toInt = (sI σ25 (L 17) z26.toInt.toNat).toInt := by rw [(f1σ28.2.1 17 (by decide) (by decide) _).1]
            have tk7 := atI eσ28 z26.toInt.toNat
            have tk8 : (sI σ28 (L 23) z26.toInt.toNat).toInt = (sI σ25 (L 23) z26.toInt.toNat).toInt := by rw [(f1σ28.2.1 23 (by decide) (by decide) _).1]
            have hG := hG.ra hMp eσ28 (by decide) (by decide) (by omega)
            intro z29 ez29
            try have hz29 := i_mulk 4 rfl ez29 (by omega) (by omega)
            have rg_z29 := i_range z29
            intro z30 ez30
            try have hz30 := i_add ez30 (by omega) (by omega)
            have rg_z30 := i_range z30
            intro z31 ez31
            have wz31 : z31.toInt = (sJ σ28 h0 2).toInt := by rw [ez31]
            have vz31 := l_range z31
            refine ⟨by omega, ?_⟩
            intro σ32 eσ32
            have hMp := hI.2
            have hI := hI.pJ eσ32
            have hfr := hfr.aJ hMp (by decide) eσ32 (by decide)
            have f1σ32 : Fr h0 L [] [21] σ28 σ32 := Fr.rf.aJ hMp (by decide) eσ32 (by decide)
            have tk9 : (sI σ32 h0 16).toInt = (sI σ28 h0 16).toInt := by rw [(f1σ32.1 16 (by decide)).1]
            have tk10 : (sI σ32 (L 14) z26.toInt.toNat).toInt = (sI σ28 (L 14) z26.toInt.toNat).toInt := by rw [(f1σ32.2.1 14 (by decide) (by decide) _).1]
            have tk11 : (sI σ32 (L 15) z26.toInt.toNat).toInt = (sI σ28 (L 15) z26.toInt.toNat).toInt := by rw [(f1σ32.2.1 15 (by decide) (by decide) _).1]
            have tk12 : (sI σ32 (L 16) z26.toInt.toNat).toInt = (sI σ28 (L 16) z26.toInt.toNat).toInt := by rw [(f1σ32.2.1 16 (by decide) (by decide) _).1]
            have tk13 : (sI σ32 (L 17) z26.toInt.toNat).toInt = (sI σ28 (L 17) z26.toInt.toNat).toInt := by rw [(f1σ32.2.1 17 (by decide) (by decide) _).1]
            have tk14 : (sI σ32 (L 22) z26.toInt.toNat).toInt = (sI σ28 (L 22) z26.toInt.toNat).toInt := by rw [(f1σ32.2.1 22 (by decide) (by decide) _).1]
            have tk15 : (sI σ32 (L 23) z26.toInt.toNat).toInt = (sI σ28 (L 23) z26.toInt.toNat).toInt := by rw [(f1σ32.2.1 23 (by decide) (by decide) _).1]
            have hG := hG.fr f1σ32 (by decide) (by decide)
            intro z33 ez33
            try have hz33 := i_mulk 4 rfl ez33 (by omega) (by omega)
            have rg_z33 := i_range z33
            intro z34 ez34
            try have hz34 := i_add ez34 (by omega) (by omega)
            have rg_z34 := i_range z34
            intro z35 ez35
            have wz35 : z35.toInt = (sJ σ32 h0 2).toInt := by rw [ez35]
            have vz35 := l_range z35
            refine ⟨by omega, ?_⟩
            intro σ36 eσ36
            have hMp := hI.2
            have hI := hI.pJ eσ36
            have hfr := hfr.aJ hMp (by decide) eσ36 (by decide)
            have f1σ36 : Fr h0 L [] [21] σ32 σ36 := Fr.rf.aJ hMp (by decide) eσ36 (by decide)
            have tk16 : (sI σ36 h0 16).toInt = (sI σ32 h0 16).toInt := by rw [(f1σ36.1 16 (by decide)).1]
            have tk17 : (sI σ36 (L 14) z26.toInt.toNat).toInt = (sI σ32 (L 14) z26.toInt.toNat).toInt := by rw [(f1σ36.2.1 14 (by decide) (by decide) _).1]
            have tk18 : (sI σ36 (L 15) z26.toInt.toNat).toInt = (sI σ32 (L 15) z26.toInt.toNat).toInt := by rw [(f1σ36.2.1 15 (by decide) (by decide) _).1]
            have tk19 : (sI σ36 (L 16) z26.toInt.toNat).toInt = (sI σ32 (L 16) z26.toInt.toNat).toInt := by rw [(f1σ36.2.1 16 (by decide) (by decide) _).1]
            have tk20 : (sI σ36 (L 17) z26.toInt.toNat).toInt = (sI σ32 (L 17) z26.toInt.toNat).toInt := by rw [(f1σ36.2.1 17 (by decide) (by decide) _).1]
            have tk21 : (sI σ36 (L 22) z26.toInt.toNat).toInt = (sI σ32 (L 22) z26.toInt.toNat).toInt := by rw [(f1σ36.2.1 22 (by decide) (by decide) _).1]
            have tk22 : (sI σ36 (L 23) z26.toInt.toNat).toInt = (sI σ32 (L 23) z26.toInt.toNat).toInt := by rw [(f1σ36.2.1 23 (by decide) (by decide) _).1]
            have hG := hG.fr f1σ36 (by decide) (by decide)
            have hIp := hI
            have hrxz26 : (sI σ36 h0 16).toInt.toNat = z26.toInt.toNat := by omega
            refine s2_X12_done hI  hG (by rw [hrxz26]; omega) (by rw [hrxz26]; exact Or.inr (Or.inl (by omega))) (fun σ37 hI fz38 pz38 => ?_)
            have hfr := hfr.tr fz38 (by decide) (by decide)
            have tk24 : (sI σ37 (L 14) z26.toInt.toNat).toInt = (sI σ36 (L 14) z26.toInt.toNat).toInt := by rw [(fz38.2.1 14 (by decide) (by decide) _).1]
            have tk25 : (sI σ37 (L 15) z26.toInt.toNat).toInt = (sI σ36 (L 15) z26.toInt.toNat).toInt := by rw [(fz38.2.1 15 (by decide) (by decide) _).1]
            have tk26 : (sI σ37 (L 16) z26.toInt.toNat).toInt = (sI σ36 (L 16) z26.toInt.toNat).toInt := by rw [(fz38.2.1 16 (by decide) (by decide) _).1]
            have tk27 : (sI σ37 (L 17) z26.toInt.toNat).toInt = (sI σ36 (L 17) z26.toInt.toNat).toInt := by rw [(fz38.2.1 17 (by decide) (by decide) _).1]
            have tk28 : (sI σ37 (L 22) z26.toInt.toNat).toInt = (sI σ36 (L 22) z26.toInt.toNat).toInt := by rw [(fz38.2.1 22 (by decide) (by decide) _).1]
            have tk29 : (sI σ37 (L 23) z26.toInt.toNat).toInt = (sI σ36 (L 23) z26.toInt.toNat).toInt := by rw [(fz38.2.1 23 (by decide) (by decide) _).1]
            have hG := pz38.1
            have dvz38 := pz38.2
            intro z39 ez39
            have vz39 := hI.fI 100 (-1) 39 (by decide) rfl rfl rfl ez39
            have wz39 : z39.toInt = (sI σ h0 100).toInt := by rw [ez39, (hfr.1 100 (by decide)).1]
            have hIp := hI
            refine s_X12_breakSecond hI a1 z39 (by omega) (fun σ40 hI fz41 pz41 => ?_)
            have hfr := hfr.tr fz41 (by decide) (by decide)
            have tk30 : (sI σ40 h0 16).toInt = (sI σ37 h0 16).toInt := by rw [(fz41.1 16 (by decide)).1]
            have hG := hG.fr fz41 (by decide) (by decide)
            exact kk 0 σ40 hI hfr hG
          · refine ⟨by omega, ?_⟩
            intro z42 ez42
            have vz42 := hI.aI 57 80 0 79 (by decide) (by decide) rfl rfl rfl (i := x20.toInt) (by omega) ez42
            have wz42 : z42.toInt = (sI σ (L 57) x20.toInt.toNat).toInt := by rw [ez42, (hfr.2.1 57 (by decide) (by decide) _).1]
            refine jn_dup ?_
            refine ⟨fun c4 => ?_, fun c4 => ?_⟩
            · (try dsimp only)
              intro z48 ez48
              try have hz48 := i_add ez48 (by omega) (by omega)
              have rg_z48 := i_range z48
              exact hK22 z48 σ ⟨rfl, (by (try dsimp only); omega)⟩ (by (try dsimp only); omega)
            · refine ⟨by omega, ?_⟩
              intro z49 ez49
              have wz49 : z49.toInt = (sJ σ (L 56) x20.toInt.toNat).toInt := by rw [ez49]
              intro z50 ez50
              have vz50 := hI.fI 100 (-1) 39 (by decide) rfl rfl rfl ez50
              have wz50 : z50.toInt = (sI σ h0 100).toInt := by rw [ez50, (hfr.1 100 (by decide)).1]
              refine ⟨by omega, ?_⟩
              intro z51 ez51
              have wz51 : z51.toInt = (sJ σ (L 41) z50.toInt.toNat).toInt := by rw [ez51]
              refine ⟨fun c5 => ?_, fun c5 => ?_⟩
              · (try dsimp only)
                intro z48 ez48
                try have hz48 := i_add ez48 (by omega) (by omega)
                have rg_z48 := i_range z48
                exact hK22 z48 σ ⟨rfl, (by (try dsimp only); omega)⟩ (by (try dsimp only); omega)
              · intro z52 ez52
                have hz52 := i_tol ez52
                have rg_z52 := l_range z52
                intro z53 ez53
                try have hz53 := i_sub ez53 (by omega) (by omega)
                have rg_z53 := i_range z53
                intro z54 ez54
                have hz54 := i_tol ez54
                have rg_z54 := l_range z54
                refine ⟨by omega, ?_⟩
                intro z55 ez55
                have wz55 : z55.toInt = (sJ σ (L 58) x20.toInt.toNat).toInt := by rw [ez55]
                refine ⟨by omega, ?_⟩
                intro z56 ez56
                have wz56 : z56.toInt = (sJ σ (L 59) x20.toInt.toNat).toInt := by rw [ez56]
                refine s_X12_meet hI z52 z54 z55 z56  (fun z58 pz58 => ?_)
                have rg_z58 := i_range z58
                refine ⟨fun c6 => ?_, fun c6 => ?_⟩
                · (try dsimp only)
                  intro z48 ez48
                  try have hz48 := i_add ez48 (by omega) (by omega)
                  have rg_z48 := i_range z48
                  exact hK22 z48 σ ⟨rfl, (by (try dsimp only); omega)⟩ (by (try dsimp only); omega)
                · exact kk 3221225556 σ hI hfr hG
        · skip
          refine ⟨fun c7 => ?_, fun c7 => ?_⟩
          · refine ⟨by omega, ?_⟩
            intro z59 ez59
            have vz59 := hI.aI 8 160 0 4096 (by decide) (by decide) rfl rfl rfl (i := a1.toInt) (by omega) ez59
            have wz59 : z59.toInt = (sI σ (L 8) a1.toInt.toNat).toInt := by rw [ez59]
            exact hK17 z59 σ ⟨rfl, (by (try dsimp only); omega)⟩
          · intro z60 ez60
            try have hz60 := l_toi ez60 (by omega) (by omega)
            have rg_z60 := i_range z60
            exact hK17 z60 σ ⟨rfl, (by (try dsimp only); omega)⟩
      · skip
        refine ⟨fun c8 => ?_, fun c8 => ?_⟩
        · intro z61 ez61
          try have hz61 := l_toi ez61 (by omega) (by omega)
          have rg_z61 := i_range z61
          exact hK10 z61 σ ⟨rfl, (by (try dsimp only); omega)⟩
        · refine ⟨by omega, ?_⟩
          intro z62 ez62
          have vz62 := hI.aI 8 160 0 4096 (by decide) (by decide) rfl rfl rfl (i := a1.toInt) (by omega) ez62
          have wz62 : z62.toInt = (sI σ (L 8) a1.toInt.toNat).toInt := by rw [ez62]
          exact hK10 z62 σ ⟨rfl, (by (try dsimp only); omega)⟩
    · exact kk 3221225599 σ hI hfr hG
  · exact kk 3221225658 σ hI hfr hG
set_option maxRecDepth 100000 in
set_option maxHeartbeats 4000000 in
theorem s_X12_write {h0 : Nat} {L : Nat → Nat} {σ : HS} (hI : OKM h0 L σ)  {B : Int} (hG : GI h0 L B σ) (hN : InM h0 L σ (sI σ h0 87).toInt) (hz : 112 ≤ (sI σ h0 87).toInt ∧ 0 ≤ (sI σ h0 100).toInt ∧ NUM h0 L σ 68 4 ≤ 1024 ∧ (NUM h0 L σ 68 4 = 0 ∨ (NUM h0 L σ 66 2 : Int) + NUM h0 L σ 68 4 ≤ (sI σ h0 87).toInt)) {post : Int64 → HS → Prop} (kk : ∀ (r : Int64) (σ' : HS), OKM h0 L σ' → Fr h0 L [16, 91] [1, 2, 3, 4, 5, 6, 7, 8, 9, 14, 15, 16, 17, 18, 19, 20, 21, 22, 23, 24, 27, 28, 46, 76] σ σ' → (GI h0 L B σ') → post r σ') : F_X12_write h0 L  post σ := by
  unfold F_X12_write
  have k_0 : (0 : Int32).toInt = 0 := rfl
  have k_1 : (1 : Int32).toInt = 1 := rfl
  have k_2 : (2 : Int32).toInt = 2 := rfl
  have k_3 : (3 : Int32).toInt = 3 := rfl
  have k_4 : (4 : Int32).toInt = 4 := rfl
  have k_6 : (6 : Int32).toInt = 6 := rfl
  have k_8 : (8 : Int32).toInt = 8 := rfl
  have k_17 : (17 : Int32).toInt = 17 := rfl
  have k_64 : (64 : Int32).toInt = 64 := rfl
  have k_66 : (66 : Int32).toInt = 66 := rfl
  have k_68 : (68 : Int32).toInt = 68 := rfl
  have k_72 : (72 : Int32).toInt = 72 := rfl
  have k_1024 : (1024 : Int32).toInt = 1024 := rfl
  have kl_0 : (0 : Int64).toInt = 0 := rfl
  have kl_17 : (17 : Int64).toInt = 17 := rfl
  have kl_4096 : (4096 : Int64).toInt = 4096 := rfl
  have kl_3221225506 : (3221225506 : Int64).toInt = 3221225506 := rfl
  have kl_3221225556 : (3221225556 : Int64).toInt = 3221225556 := rfl
  have kl_3221225599 : (3221225599 : Int64).toInt = 3221225599 := rfl
  have kl_3221225658 : (3221225658 : Int64).toInt = 3221225658 := rfl
  have hfr : Fr h0 L [16, 91] [1, 2, 3, 4, 5, 6, 7, 8, 9, 14, 15, 16, 17, 18, 19, 20, 21, 22, 23, 24, 27, 28, 46, 76] σ σ := Fr.rf
  have h87 : (0 : Int) ≤ (sI σ h0 87).toInt ∧ (sI σ h0 87).toInt ≤ 4000 := hI.fI 87 0 4000 (by decide) rfl rfl rfl rfl
  refine s_X12_number2 hI 66 (by omega) ((hN.fr hfr (by decide) (by decide)).le (by omega)) (fun z2 pz2 => ?_)
  have tz2 : z2.toInt = (NUM h0 L σ 66 2 : Int) := pz2.1
  have rg_z2 := i_range z2
  refine s_X12_number hI 68 4 (by omega) ((hN.fr hfr (by decide) (by decide)).le (by omega)) (fun z4 pz4 => ?_)
  have tz4 : z4.toInt = (NUM h0 L σ 68 4 : Int) ∧ z4.toInt < 4294967296 := num_t (n := 4) (K := 4294967296) pz4 rfl (by decide)
  intro z5 ez5
  try have hz5 := l_toi ez5 (by omega) (by omega)
  have rg_z5 := i_range z5
  refine s_X12_number hI 72 8 (by omega) ((hN.fr hfr (by decide) (by decide)).le (by omega)) (fun z7 pz7 => ?_)
  intro z8 ez8
  have vz8 := hI.fI 100 (-1) 39 (by decide) rfl rfl rfl ez8
  have wz8 : z8.toInt = (sI σ h0 100).toInt := by rw [ez8, (hfr.1 100 (by decide)).1]
  refine ⟨by omega, ?_⟩
  intro z9 ez9
  have vz9 := hI.aI 43 40 0 79 (by decide) (by decide) rfl rfl rfl (i := z8.toInt) (by omega) ez9
  have wz9 : z9.toInt = (sI σ (L 43) z8.toInt.toNat).toInt := by rw [ez9, (hfr.2.1 43 (by decide) (by decide) _).1]
  refine ⟨by omega, ?_⟩
  intro z10 ez10
  have vz10 := hI.aI 3 160 0 1 (by decide) (by decide) rfl rfl rfl (i := z9.toInt) (by omega) ez10
  have wz10 : z10.toInt = (sI σ (L 3) z9.toInt.toNat).toInt := by rw [ez10]
  refine ⟨fun c1 => ?_, fun c1 => ?_⟩
  · intro z11 ez11
    have vz11 := hI.fI 100 (-1) 39 (by decide) rfl rfl rfl ez11
    have wz11 : z11.toInt = (sI σ h0 100).toInt := by rw [ez11, (hfr.1 100 (by decide)).1]
    refine ⟨by omega, ?_⟩
    intro z12 ez12
    have vz12 := hI.aI 44 40 (-2147483648) 2147483647 (by decide) (by decide) rfl rfl rfl (i := z11.toInt) (by omega) ez12
    have wz12 : z12.toInt = (sI σ (L 44) z11.toInt.toNat).toInt := by rw [ez12, (hfr.2.1 44 (by decide) (by decide) _).1]
    intro z13 ez13
    try have hz13 := i_and ez13 (by omega)
    have rg_z13 := i_range z13
    refine jn_dup ?_
    refine ⟨fun c2 => ?_, fun c2 => ?_⟩
    · (try dsimp only)
      exact kk 3221225506 σ hI hfr hG
    · intro z19 ez19
      try have hz19 := i_and ez19 (by omega)
      have rg_z19 := i_range z19
      refine jn_in (fun (x : Unit) (σ' : HS) => σ = σ' ∧ (True)) (fun x20 σ21 hJ => ?_) (fun K22 hK22 => ?_)
      · obtain ⟨hsg, hv⟩ := hJ
        subst hsg
        (try dsimp only at hv)
        refine lw_in (fun (x : Int32) (σ' : HS) => σ = σ' ∧ ((0 ≤ x.toInt ∧ x.toInt ≤ 81))) (fun (x : Int32) (σ' : HS) => (82 - x.toInt).toNat) ⟨rfl, (by (try dsimp only); omega)⟩ (fun x25 σ26 hJ K27 hK27 => ?_)
        obtain ⟨hsg, hv⟩ := hJ
        subst hsg
        (try dsimp only at hv)
        have rg_x25 := i_range x25
        intro z29 ez29
        have vz29 := hI.fI 63 0 80 (by decide) rfl rfl rfl ez29
        have wz29 : z29.toInt = (sI σ h0 63).toInt := by rw [ez29, (hfr.1 63 (by decide)).1]
        refine ⟨fun c3 => ?_, fun c3 => ?_⟩
        · refine s3_X12_isLess hI 4096 z7  (fun z31 pz31 => ?_)
          have rg_z31 := i_range z31
          refine jn_dup ?_
          refine ⟨fun c4 => ?_, fun c4 => ?_⟩
          · (try dsimp only)
            exact kk 3221225599 σ hI hfr hG
          · intro z37 ez37
            have hz37 := i_tol ez37
            have rg_z37 := l_range z37
            intro z38 ez38
            try have hz38 := l_add ez38 (by omega) (by omega)
            have rg_z38 := l_range z38
            refine ⟨fun c5 => ?_, fun c5 => ?_⟩
            · refine jn_in (fun (x : Unit) (σ' : HS) => OKM h0 L σ' ∧ Fr h0 L [16, 91] [1, 2, 3, 4, 5, 6, 7, 8, 9, 14, 15, 16, 17, 18, 19, 20, 21, 22, 23, 24, 27, 28, 46, 76] σ σ' ∧ (True) ∧ (GI h0 L B σ')) (fun x39 σ40 hJ => ?_) (fun K41 hK41 => ?_)
              · obtain ⟨hI, hfr, hv, hG⟩ := hJ
                (try dsimp only at hv)
                have hIp := hI
                refine s_X12_body hI 17 (by omega) (fun σ44 hI fz45 pz45 => ?_)
                have hfr := hfr.tr fz45 (by decide) (by decide)
                have tk1 : (sI σ44 h0 16).toInt = (sI σ40 h0 16).toInt := by rw [(fz45.1 16 (by decide)).1]
                have hG := hG.fr fz45 (by decide) (by decide)
                have hIp := hI
                refine s_X12_set hI 64 2 17 (by omega) (fun σ46 hI fz47 pz47 => ?_)
                have hfr := hfr.tr fz47 (by decide) (by decide)
                have tk2 : (sI σ46 h0 16).toInt = (sI σ44 h0 16).toInt := by rw [(fz47.1 16 (by decide)).1]
                have hG := hG.fr fz47 (by decide) (by decide)
                intro z48 ez48
                have hz48 := i_tol ez48
                have rg_z48 := l_range z48
                have hIp := hI
                refine s_X12_set hI 68 4 z48 (by omega) (fun σ49 hI fz50 pz50 => ?_)
                have hfr := hfr.tr fz50 (by decide) (by decide)
                have tk3 : (sI σ49 h0 16).toInt = (sI σ46 h0 16).toInt := by rw [(fz50.1 16 (by decide)).1]
                have hG := hG.fr fz50 (by decide) (by decide)
                exact kk 0 σ49 hI hfr hG
              · skip
                refine ⟨fun c6 => ?_, fun c6 => ?_⟩
                · exact hK41 () σ ⟨hI, hfr, trivial, hG⟩
                · have hIp := hI
                  have f16 := hI.fI 16 0 8 (by decide) rfl rfl rfl rfl
                  have g16 := hG.1.1
                  refine s_X12_record hI 1 z9 (by omega) (fun z52 σ51 hI fz52 pz52 => ?_)
                  have hfr := hfr.tr fz52 (by decide) (by decide)
                  have tk4 : (sI σ51 h0 16).toInt = (sI σ h0 16).toInt := by rw [(fz52.1 16 (by decide)).1]
                  have rg_z52 := i_range z52
                  have hG := pz52.2.gi hG fz52
                  have rcz52 := (pz52.2 z52.toInt.toNat).2 (by omega)
                  intro z53 ez53
                  try have hz53 := l_toi ez53 (by omega) (by omega)
                  have rg_z53 := i_range z53
                  refine ⟨by omega, ?_⟩
                  intro σ54 eσ54
                  have hMp := hI.2
                  have hI := hI.pA 22 0 4096 (by decide) (by decide) rfl rfl (by omega) eσ54
                  have hfr := hfr.aI hMp (by decide) eσ54 (by decide)
                  have f1σ54 : Fr h0 L [] [22] σ51 σ54 := Fr.rf.aI hMp (by decide) eσ54 (by decide)
                  have tk5 : (sI σ54 h0 16).toInt = (sI σ51 h0 16).toInt := by rw [(f1σ54.1 16 (by decide)).1]
                  have tk6 : (sI σ54 (L 14) z52.toInt.toNat).toInt = (sI σ51 (L 14) z52.toInt.toNat).toInt := by rw [(f1σ54.2.1 14 (by decide) (by decide) _).1]
                  have tk7 : (sI σ54 (L 15) z52.toInt.toNat).toInt = (sI σ51 (L 15) z52.toInt.toNat).toInt := by rw [(f1σ54.2.1 15 (by decide) (by decide) _).1]
                  have tk8 : (sI σ54 (L 16) z52.toInt.toNat).toInt = (sI σ51 (L 16) z52.toInt.toNat).toInt := by rw [(f1σ54.2.1 16 (by decide) (by decide) _).1]
                  have tk9 : (sI σ54 (L 17) z52.toInt.toNat).toInt = (sI σ51 (L 17) z52.toInt.toNat).toInt := by rw [(f1σ54.2.1 17 (by decide) (by decide) _).1]
                  have tk10 := atI eσ54 z52.toInt.toNat
                  have tk11 : (sI σ54 (L 23) z52.toInt.toNat).toInt = (sI σ51 (L 23) z52.toInt.toNat).toInt := by rw [(f1σ54.2.1 23 (by decide) (by decide) _).1]
                  have hG := hG.ra hMp eσ54 (by decide) (by decide) (by omega)
                  refine ⟨by omega, ?_⟩
                  intro σ55 eσ55
                  have hMp := hI.2
                  have hI := hI.pA 23 0 1024 (by decide) (by decide) rfl rfl (by omega) eσ55
                  have hfr := hfr.aI hMp (by decide) eσ55 (by decide)
                  have f1σ55 : Fr h0 L [] [23] σ54 σ55 := Fr.rf.aI hMp (by decide) eσ55 (by decide)
                  have tk12 : (sI σ55 h0 16).toInt = (sI σ54 h0 16).toInt := by rw [(f1σ55.1 16 (by decide)).1]
                  have tk13 : (sI σ55 (L 14) z52.toInt.toNat).toInt = (sI σ54 (L 14) z52.toInt.toNat).toInt := by rw [(f1σ55.2.1 14 (by decide) (by decide) _).1]
                  have tk14 : (sI σ55 (L 15) z52.toInt.toNat).toInt = (sI σ54 (L 15) z52.toInt.toNat).toInt := by rw [(f1σ55.2.1 15 (by decide) (by decide) _).1]
                  have tk15 : (sI σ55 (L 16) z52.toInt.toNat).toInt = (sI σ54 (L 16) z52.toInt.toNat).toInt := by rw [(f1σ55.2.1 16 (by decide) (by decide) _).1]
                  have tk16 : (sI σ55 (L 17) z52.toInt.toNat).toInt = (sI σ54 (L 17) z52.toInt.toNat).toInt := by rw [(f1σ55.2.1 17 (by decide) (by decide) _).1]
                  have tk17 : (sI σ55 (L 22) z52.toInt.toNat).toInt = (sI σ54 (L 22) z52.toInt.toNat).toInt := by rw [(f1σ55.2.1 22 (by decide) (by decide) _).1]
                  have tk18 := atI eσ55 z52.toInt.toNat
                  have hG := hG.ra hMp eσ55 (by decide) (by decide) (by omega)
                  refine lw_in (fun (x : Int32) (σ' : HS) => OKM h0 L σ' ∧ Fr h0 L [16, 91] [1, 2, 3, 4, 5, 6, 7, 8, 9, 14, 15, 16, 17, 18, 19, 20, 21, 22, 23, 24, 27, 28, 46, 76] σ σ' ∧ ((0 ≤ x.toInt) ∧ (0 ≤ x.toInt ∧ x.toInt ≤ z5.toInt) ∧ ((sI σ' h0 16).toInt = z52.toInt) ∧ (0 ≤ z52.toInt ∧ z52.toInt ≤ 7) ∧ ((sI σ' (L 14) z52.toInt.toNat).toInt = 1) ∧ ((sI σ' (L 22) z52.toInt.toNat).toInt + (sI σ' (L 23) z52.toInt.toNat).toInt ≤ 4096)) ∧ (GI h0 L B σ')) (fun (x : Int32) (σ' : HS) => (1025 - x.toInt).toNat) ⟨hI, hfr, (by (try dsimp only); omega), hG⟩ (fun x56 σ57 hJ K58 hK58 => ?_)
                  obtain ⟨hI, hfr, hv, hG⟩ := hJ
                  (try dsimp only at hv)
                  have rg_x56 := i_range x56
                  refine ⟨fun c7 => ?_, fun c7 => ?_⟩
                  · intro z60 ez60
                    try have hz60 := i_mulk 4 rfl ez60 (by omega) (by omega)
                    have rg_z60 := i_range z60
                    intro z61 ez61
                    try have hz61 := i_add ez61 (by omega) (by omega)
                    have rg_z61 := i_range z61
                    intro z62 ez62
                    have wz62 : z62.toInt = (sJ σ57 h0 2).toInt := by rw [ez62]
                    have vz62 := l_range z62
                    refine ⟨by omega, ?_⟩
                    intro σ63 eσ63
                    have hMp := hI.2
                    have hI := hI.pJ eσ63
                    have hfr := hfr.aJ hMp (by decide) eσ63 (by decide)
                    have f1σ63 : Fr h0 L [] [21] σ57 σ63 := Fr.rf.aJ hMp (by decide) eσ63 (by decide)
                    have tk19 : (sI σ63 h0 16).toInt = (sI σ57 h0 16).toInt := by rw [(f1σ63.1 16 (by decide)).1]
                    have tk20 : (sI σ63 (L 14) z52.toInt.toNat).toInt = (sI σ57 (L 14) z52.toInt.toNat).toInt := by rw [(f1σ63.2.1 14 (by decide) (by decide) _).1]
                    have tk21 : (sI σ63 (L 15) z52.toInt.toNat).toInt = (sI σ57 (L 15) z52.toInt.toNat).toInt := by rw [(f1σ63.2.1 15 (by decide) (by decide) _).1]
                    have tk22 : (sI σ63 (L 16) z52.toInt.toNat).toInt = (sI σ57 (L 16) z52.toInt.toNat).toInt := by rw [(f1σ63.2.1 16 (by decide) (by decide) _).1]
                    have tk23 : (sI σ63 (L 17) z52.toInt.toNat).toInt = (sI σ57 (L 17) z52.toInt.toNat).toInt := by rw [(f1σ63.2.1 17 (by decide) (by decide) _).1]
                    have tk24 : (sI σ63 (L 22) z52.toInt.toNat).toInt = (sI σ57 (L 22) z52.toInt.toNat).toInt := by rw [(f1σ63.2.1 22 (by decide) (by decide) _).1]
                    have tk25 : (sI σ63 (L 23) z52.toInt.toNat).toInt = (sI σ57 (L 23) z52.toInt.toNat).toInt := by rw [(f1σ63.2.1 23 (by decide) (by decide) _).1]
                    have hG := hG.fr f1σ63 (by decide) (by decide)
                    intro z64 ez64
                    try have hz64 := i_mulk 4 rfl ez64 (by omega) (by omega)
                    have rg_z64 := i_range z64
                    intro z65 ez65
                    try have hz65 := i_add ez65 (by omega) (by omega)
                    have rg_z65 := i_range z65
                    intro z66 ez66
                    have wz66 : z66.toInt = (sJ σ63 h0 2).toInt := by rw [ez66]
                    have vz66 := l_range z66
                    refine ⟨by omega, ?_⟩
                    intro σ67 eσ67
                    have hMp := hI.2
                    have hI := hI.pJ eσ67
                    have hfr := hfr.aJ hMp (by decide) eσ67 (by decide)
                    have f1σ67 : Fr h0 L [] [21] σ63 σ67 := Fr.rf.aJ hMp (by decide) eσ67 (by decide)
                    have tk26 : (sI σ67 h0 16).toInt = (sI σ63 h0 16).toInt := by rw [(f1σ67.1 16 (by decide)).1]
                    have tk27 : (sI σ67 (L 14) z52.toInt.toNat).toInt = (sI σ63 (L 14) z52.toInt.toNat).toInt := by rw [(f1σ67.2.1 14 (by decide) (by decide) _).1]
                    have tk28 : (sI σ67 (L 15) z52.toInt.toNat).toInt = (sI σ63 (L 15) z52.toInt.toNat).toInt := by rw [(f1σ67.2.1 15 (by decide) (by decide) _).1]
                    have tk29 : (sI σ67 (L 16) z52.toInt.toNat).toInt = (sI σ63 (L 16) z52.toInt.toNat).toInt := by rw [(f1σ67.2.1 16 (by decide) (by decide) _).1]
                    have tk30 : (sI σ67 (L 17) z52.toInt.toNat).toInt = (sI σ63 (L 17) z52.toInt.toNat).toInt := by rw [(f1σ67.2.1 17 (by decide) (by decide) _).1]
                    have tk31 : (sI σ67 (L 22) z52.toInt.toNat).toInt = (sI σ63 (L 22) z52.toInt.toNat).toInt := by rw [(f1σ67.2.1 22 (by decide) (by decide) _).1]
                    have tk32 : (sI σ67 (L 23) z52.toInt.toNat).toInt = (sI σ63 (L 23) z52.toInt.toNat).toInt := by rw [(f1σ67.2.1 23 (by decide) (by decide) _).1]
                    have hG := hG.fr f1σ67 (by decide) (by decide)
                    have hIp := hI
                    have hrxz52 : (sI σ67 h0 16).toInt.toNat = z52.toInt.toNat := by omega
                    refine s2_X12_done hI  hG (by rw [hrxz52]; omega) (by rw [hrxz52]; exact Or.inl (by omega)) (fun σ68 hI fz69 pz69 => ?_)
                    have hfr := hfr.tr fz69 (by decide) (by decide)
                    have tk34 : (sI σ68 (L 14) z52.toInt.toNat).toInt = (sI σ67 (L 14) z52.toInt.toNat).toInt := by rw [(fz69.2.1 14 (by decide) (by decide) _).1]
                    have tk35 : (sI σ68 (L 15) z52.toInt.toNat).toInt = (sI σ67 (L 15) z52.toInt.toNat).toInt := by rw [(fz69.2.1 15 (by decide) (by decide) _).1]
                    have tk36 : (sI σ68 (L 16) z52.toInt.toNat).toInt = (sI σ67 (L 16) z52.toInt.toNat).toInt := by rw [(fz69.2.1 16 (by decide) (by decide) _).1]
                    have tk37 : (sI σ68 (L 17) z52.toInt.toNat).toInt = (sI σ67 (L 17) z52.toInt.toNat).toInt := by rw [(fz69.2.1 17 (by decide) (by decide) _).1]
                    have tk38 : (sI σ68 (L 22) z52.toInt.toNat).toInt = (sI σ67 (L 22) z52.toInt.toNat).toInt := by rw [(fz69.2.1 22 (by decide) (by decide) _).1]
                    have tk39 : (sI σ68 (L 23) z52.toInt.toNat).toInt = (sI σ67 (L 23) z52.toInt.toNat).toInt := by rw [(fz69.2.1 23 (by decide) (by decide) _).1]
                    have hG := pz69.1
                    have dvz69 := pz69.2
                    intro z70 ez70
                    have vz70 := hI.fI 100 (-1) 39 (by decide) rfl rfl rfl ez70
                    have wz70 : z70.toInt = (sI σ h0 100).toInt := by rw [ez70, (hfr.1 100 (by decide)).1]
                    have hIp := hI
                    refine s_X12_breakSecond hI z9 z70 (by omega) (fun σ71 hI fz72 pz72 => ?_)
                    have hfr := hfr.tr fz72 (by decide) (by decide)
                    have tk40 : (sI σ71 h0 16).toInt = (sI σ68 h0 16).toInt := by rw [(fz72.1 16 (by decide)).1]
                    have hG := hG.fr fz72 (by decide) (by decide)
                    exact hK41 () σ71 ⟨hI, hfr, trivial, hG⟩
                  · intro z73 ez73
                    try have hz73 := i_mulk 1024 rfl ez73 (by omega) (by omega)
                    have rg_z73 := i_range z73
                    intro z74 ez74
                    try have hz74 := i_add ez74 (by omega) (by omega)
                    have rg_z74 := i_range z74
                    intro z75 ez75
                    try have hz75 := i_add ez75 (by omega) (by omega)
                    have rg_z75 := i_range z75
                    refine s_X12_number1 hI z75 (by omega) ((hN.fr hfr (by decide) (by decide)).le (by omega)) (fun z77 pz77 => ?_)
                    have rg_z77 := i_range z77
                    intro z78 ez78
                    have hz78 := i_b8 ez78
                    have rg_z78 := i_range z78
                    refine ⟨by omega, ?_⟩
                    intro σ79 eσ79
                    have hMp := hI.2
                    have hI := hI.pA 24 (-128) 127 (by decide) (by decide) rfl rfl (i_byte _) eσ79
                    have hfr := hfr.aI hMp (by decide) eσ79 (by decide)
                    have f1σ79 : Fr h0 L [] [24] σ57 σ79 := Fr.rf.aI hMp (by decide) eσ79 (by decide)
                    have tk41 : (sI σ79 h0 16).toInt = (sI σ57 h0 16).toInt := by rw [(f1σ79.1 16 (by decide)).1]
                    have tk42 : (sI σ79 (L 14) z52.toInt.toNat).toInt = (sI σ57 (L 14) z52.toInt.toNat).toInt := by rw [(f1σ79.2.1 14 (by decide) (by decide) _).1]
                    have tk43 : (sI σ79 (L 15) z52.toInt.toNat).toInt = (sI σ57 (L 15) z52.toInt.toNat).toInt := by rw [(f1σ79.2.1 15 (by decide) (by decide) _).1]
                    have tk44 : (sI σ79 (L 16) z52.toInt.toNat).toInt = (sI σ57 (L 16) z52.toInt.toNat).toInt := by rw [(f1σ79.2.1 16 (by decide) (by decide) _).1]
                    have tk45 : (sI σ79 (L 17) z52.toInt.toNat).toInt = (sI σ57 (L 17) z52.toInt.toNat).toInt := by rw [(f1σ79.2.1 17 (by decide) (by decide) _).1]
                    have tk46 : (sI σ79 (L 22) z52.toInt.toNat).toInt = (sI σ57 (L 22) z52.toInt.toNat).toInt := by rw [(f1σ79.2.1 22 (by decide) (by decide) _).1]
                    have tk47 : (sI σ79 (L 23) z52.toInt.toNat).toInt = (sI σ57 (L 23) z52.toInt.toNat).toInt := by rw [(f1σ79.2.1 23 (by decide) (by decide) _).1]
                    have hG := hG.fr f1σ79 (by decide) (by decide)
                    intro z80 ez80
                    try have hz80 := i_add ez80 (by omega) (by omega)
                    have rg_z80 := i_range z80
                    exact hK58 z80 σ79 ⟨hI, hfr, (by (try dsimp only); omega), hG⟩ (by (try dsimp only); omega)
            · (try dsimp only)
              exact kk 3221225599 σ hI hfr hG
        · refine ⟨by omega, ?_⟩
          intro z81 ez81
          have wz81 : z81.toInt = (sJ σ (L 56) x25.toInt.toNat).toInt := by rw [ez81]
          intro z82 ez82
          have vz82 := hI.fI 100 (-1) 39 (by decide) rfl rfl rfl ez82
          have wz82 : z82.toInt = (sI σ h0 100).toInt := by rw [ez82, (hfr.1 100 (by decide)).1]
          refine ⟨by omega, ?_⟩
          intro z83 ez83
          have wz83 : z83.toInt = (sJ σ (L 41) z82.toInt.toNat).toInt := by rw [ez83]
          refine jn_in (fun (x : Int32) (σ' : HS) => σ = σ' ∧ ((0 ≤ x.toInt ∧ x.toInt ≤ 1))) (fun x84 σ85 hJ => ?_) (fun K86 hK86 => ?_)
          · obtain ⟨hsg, hv⟩ := hJ
            subst hsg
            (try dsimp only at hv)
            have rg_x84 := i_range x84
            refine ⟨by omega, ?_⟩
            intro z89 ez89
            have vz89 := hI.aI 57 80 0 79 (by decide) (by decide) rfl rfl rfl (i := x25.toInt) (by omega) ez89
            have wz89 : z89.toInt = (sI σ (L 57) x25.toInt.toNat).toInt := by rw [ez89, (hfr.2.1 57 (by decide) (by decide) _).1]
            refine jn_dup ?_
            refine ⟨fun c8 => ?_, fun c8 => ?_⟩
            · (try dsimp only)
              intro z95 ez95
              try have hz95 := i_add ez95 (by omega) (by omega)
              have rg_z95 := i_range z95
              exact hK27 z95 σ ⟨rfl, (by (try dsimp only); omega)⟩ (by (try dsimp only); omega)
            · refine ⟨fun c9 => ?_, fun c9 => ?_⟩
              · (try dsimp only)
                intro z95 ez95
                try have hz95 := i_add ez95 (by omega) (by omega)
                have rg_z95 := i_range z95
                exact hK27 z95 σ ⟨rfl, (by (try dsimp only); omega)⟩ (by (try dsimp only); omega)
              · intro z96 ez96
                have hz96 := i_tol ez96
                have rg_z96 := l_range z96
                refine ⟨by omega, ?_⟩
                intro z97 ez97
                have wz97 : z97.toInt = (sJ σ (L 58) x25.toInt.toNat).toInt := by rw [ez97]
                refine ⟨by omega, ?_⟩
                intro z98 ez98
                have wz98 : z98.toInt = (sJ σ (L 59) x25.toInt.toNat).toInt := by rw [ez98]
                refine s_X12_meet hI z7 z96 z97 z98  (fun z100 pz100 => ?_)
                have rg_z100 := i_range z100
                refine ⟨fun c10 => ?_, fun c10 => ?_⟩
                · (try dsimp only)
                  intro z95 ez95
                  try have hz95 := i_add ez95 (by omega) (by omega)
                  have rg_z95 := i_range z95
                  exact hK27 z95 σ ⟨rfl, (by (try dsimp only); omega)⟩ (by (try dsimp only); omega)
                · exact kk 3221225556 σ hI hfr hG
          · skip
            refine jn_dup ?_
            refine ⟨fun c11 => ?_, fun c11 => ?_⟩
            · (try dsimp only)
              exact hK86 0 σ ⟨rfl, (by (try dsimp only); omega)⟩
            · refine ⟨by omega, ?_⟩
              intro z106 ez106
              have vz106 := hI.aI 60 80 0 1 (by decide) (by decide) rfl rfl rfl (i := x25.toInt) (by omega) ez106
              have wz106 : z106.toInt = (sI σ (L 60) x25.toInt.toNat).toInt := by rw [ez106, (hfr.2.1 60 (by decide) (by decide) _).1]
              refine ⟨fun c12 => ?_, fun c12 => ?_⟩
              · (try dsimp only)
                exact hK86 0 σ ⟨rfl, (by (try dsimp only); omega)⟩
              · exact hK86 1 σ ⟨rfl, (by (try dsimp only); omega)⟩
      · skip
        refine ⟨fun c13 => ?_, fun c13 => ?_⟩
        · exact hK22 () σ ⟨rfl, trivial⟩
        · refine ⟨by omega, ?_⟩
          intro z107 ez107
          have vz107 := hI.aI 8 160 0 4096 (by decide) (by decide) rfl rfl rfl (i := z9.toInt) (by omega) ez107
          have wz107 : z107.toInt = (sI σ (L 8) z9.toInt.toNat).toInt := by rw [ez107]
          intro z108 ez108
          have hz108 := i_tol ez108
          have rg_z108 := l_range z108
          refine ⟨fun c14 => ?_, fun c14 => ?_⟩
          · exact hK22 () σ ⟨rfl, trivial⟩
          · (try dsimp only)
            exact kk 3221225506 σ hI hfr hG
  · exact kk 3221225658 σ hI hfr hG

/-! the log of the reference -/
/-- what an entry of the log does to the nodes -/
def Ap (L : Nat → Nat) (σ σ' : HS) (k : Nat) (b : Int) : Prop := ∀ o : Nat, ((o : Int) ≠ (b + (sI σ (L 15) k).toInt) → (sI σ' (L 1) o).toInt = (sI σ (L 1) o).toInt ∧ (sI σ' (L 2) o).toInt = (sI σ (L 2) o).toInt ∧ (sI σ' (L 3) o).toInt = (sI σ (L 3) o).toInt) ∧ ((o : Int) = (b + (sI σ (L 15) k).toInt) → ((sI σ (L 14) k).toInt = 5 → (sI σ' (L 1) o).toInt = 0 ∧ (sI σ' (L 2) o).toInt = (sI σ (L 2) o).toInt ∧ (sI σ' (L 3) o).toInt = (sI σ (L 3) o).toInt) ∧ ((sI σ (L 14) k).toInt = 0 → (sI σ' (L 1) o).toInt = 1 ∧ (sI σ' (L 2) o).toInt = (sI σ (L 16) k).toInt ∧ (sI σ' (L 3) o).toInt = (sI σ (L 17) k).toInt) ∧ ((sI σ (L 14) k).toInt = 4 → (sI σ' (L 1) o).toInt = (sI σ (L 1) o).toInt ∧ (sI σ' (L 3) o).toInt = (sI σ (L 3) o).toInt ∧ (sI σ' (L 2) o).toInt = (sI σ (L 16) k).toInt) ∧ ((sI σ (L 14) k).toInt ≠ 5 → (sI σ (L 14) k).toInt ≠ 0 → (sI σ (L 14) k).toInt ≠ 4 → (sI σ' (L 1) o).toInt = (sI σ (L 1) o).toInt ∧ (sI σ' (L 2) o).toInt = (sI σ (L 2) o).toInt ∧ (sI σ' (L 3) o).toInt = (sI σ (L 3) o).toInt))
set_option maxRecDepth 100000 in
set_option maxHeartbeats 4000000 in
theorem s_X12_apply {h0 : Nat} {L : Nat → Nat} {σ : HS} (hI : OKM h0 L σ) (a1 : Int32) (a2 : Int32) (hz : 0 ≤ a1.toInt ∧ a1.toInt < 9 ∧ (a2.toInt = 0 ∨ a2.toInt = 80) ∧ (sI σ (L 22) a1.toInt.toNat).toInt + (sI σ (L 23) a1.toInt.toNat).toInt ≤ 4096) {post : HS → Prop} (kk : ∀ (σ' : HS), OKM h0 L σ' → Fr h0 L [] [1, 2, 3, 4, 5, 6, 7, 8, 9] σ σ' → (Ap L σ σ' a1.toInt.toNat a2.toInt) → post σ') : F_X12_apply h0 L a1 a2 post σ := by
  unfold F_X12_apply
  have k_0 : (0 : Int32).toInt = 0 := rfl
  have k_1 : (1 : Int32).toInt = 1 := rfl
  have k_2 : (2 : Int32).toInt = 2 := rfl
  have k_3 : (3 : Int32).toInt = 3 := rfl
  have k_4 : (4 : Int32).toInt = 4 := rfl
  have k_5 : (5 : Int32).toInt = 5 := rfl
  have k_12 : (12 : Int32).toInt = 12 := rfl
  have k_1024 : (1024 : Int32).toInt = 1024 := rfl
  have k_4096 : (4096 : Int32).toInt = 4096 := rfl
  have rg_a1 := i_range a1
  have rg_a2 := i_range a2
  have hfr : Fr h0 L [] [1, 2, 3, 4, 5, 6, 7, 8, 9] σ σ := Fr.rf
  refine ⟨by omega, ?_⟩
  intro z1 ez1
  have vz1 := hI.aI 15 9 0 79 (by decide) (by decide) rfl rfl rfl (i := a1.toInt) (by omega) ez1
  have wz1 : z1.toInt = (sI σ (L 15) a1.toInt.toNat).toInt := by rw [ez1, (hfr.2.1 15 (by decide) (by decide) _).1]
  intro z2 ez2
  try have hz2 := i_add ez2 (by omega) (by omega)
  have rg_z2 := i_range z2
  refine ⟨by omega, ?_⟩
  intro z3 ez3
  have vz3 := hI.aI 14 9 0 5 (by decide) (by decide) rfl rfl rfl (i := a1.toInt) (by omega) ez3
  have wz3 : z3.toInt = (sI σ (L 14) a1.toInt.toNat).toInt := by rw [ez3, (hfr.2.1 14 (by decide) (by decide) _).1]
  refine ⟨fun c1 => ?_, fun c1 => ?_⟩
  · refine ⟨by omega, ?_⟩
    intro z4 ez4
    have vz4 := hI.aI 14 9 0 5 (by decide) (by decide) rfl rfl rfl (i := a1.toInt) (by omega) ez4
    have wz4 : z4.toInt = (sI σ (L 14) a1.toInt.toNat).toInt := by rw [ez4, (hfr.2.1 14 (by decide) (by decide) _).1]
    refine jn_in (fun (x : Unit) (σ' : HS) => OKM h0 L σ' ∧ Fr h0 L [] [1, 2, 3, 4, 5, 6, 7, 8, 9] σ σ' ∧ (True) ∧ (∀ o : Nat, ((o : Int) ≠ (a2.toInt + (sI σ (L 15) a1.toInt.toNat).toInt) → (sI σ' (L 1) o).toInt = (sI σ (L 1) o).toInt ∧ (sI σ' (L 2) o).toInt = (sI σ (L 2) o).toInt ∧ (sI σ' (L 3) o).toInt = (sI σ (L 3) o).toInt) ∧ ((o : Int) = (a2.toInt + (sI σ (L 15) a1.toInt.toNat).toInt) → ((sI σ (L 14) a1.toInt.toNat).toInt = 5 → (sI σ' (L 1) o).toInt = 0 ∧ (sI σ' (L 2) o).toInt = (sI σ (L 2) o).toInt ∧ (sI σ' (L 3) o).toInt = (sI σ (L 3) o).toInt) ∧ ((sI σ (L 14) a1.toInt.toNat).toInt = 0 → (sI σ' (L 1) o).toInt = 1 ∧ (sI σ' (L 2) o).toInt = (sI σ (L 2) o).toInt ∧ (sI σ' (L 3) o).toInt = (sI σ (L 17) a1.toInt.toNat).toInt) ∧ ((sI σ (L 14) a1.toInt.toNat).toInt = 4 → (sI σ' (L 1) o).toInt = (sI σ (L 1) o).toInt ∧ (sI σ' (L 3) o).toInt = (sI σ (L 3) o).toInt ∧ (sI σ' (L 2) o).toInt = (sI σ (L 2) o).toInt) ∧ ((sI σ (L 14) a1.toInt.toNat).toInt ≠ 5 → (sI σ (L 14) a1.toInt.toNat).toInt ≠ 0 → (sI σ (L 14) a1.toInt.toNat).toInt ≠ 4 → (sI σ' (L 1) o).toInt = (sI σ (L 1) o).toInt ∧ (sI σ' (L 2) o).toInt = (sI σ (L 2) o).toInt ∧ (sI σ' (L 3) o).toInt = (sI σ (L 3) o).toInt)))) (fun x5 σ6 hJ => ?_) (fun K7 hK7 => ?_)
    · obtain ⟨hI, hfr, hv, hA⟩ := hJ
      (try dsimp only at hv)
      refine ⟨by omega, ?_⟩
      intro z10 ez10
      have vz10 := hI.aI 14 9 0 5 (by decide) (by decide) rfl rfl rfl (i := a1.toInt) (by omega) ez10
      have wz10 : z10.toInt = (sI σ (L 14) a1.toInt.toNat).toInt := by rw [ez10, (hfr.2.1 14 (by decide) (by decide) _).1]
      refine jn_in (fun (x : Unit) (σ' : HS) => OKM h0 L σ' ∧ Fr h0 L [] [1, 2, 3, 4, 5, 6, 7, 8, 9] σ σ' ∧ (True) ∧ (∀ o : Nat, ((o : Int) ≠ (a2.toInt + (sI σ (L 15) a1.toInt.toNat).toInt) → (sI σ' (L 1) o).toInt = (sI σ (L 1) o).toInt ∧ (sI σ' (L 2) o).toInt = (sI σ (L 2) o).toInt ∧ (sI σ' (L 3) o).toInt = (sI σ (L 3) o).toInt) ∧ ((o : Int) = (a2.toInt + (sI σ (L 15) a1.toInt.toNat).toInt) → ((sI σ (L 14) a1.toInt.toNat).toInt = 5 → (sI σ' (L 1) o).toInt = 0 ∧ (sI σ' (L 2) o).toInt = (sI σ (L 2) o).toInt ∧ (sI σ' (L 3) o).toInt = (sI σ (L 3) o).toInt) ∧ ((sI σ (L 14) a1.toInt.toNat).toInt = 0 → (sI σ' (L 1) o).toInt = 1 ∧ (sI σ' (L 2) o).toInt = (sI σ (L 16) a1.toInt.toNat).toInt ∧ (sI σ' (L 3) o).toInt = (sI σ (L 17) a1.toInt.toNat).toInt) ∧ ((sI σ (L 14) a1.toInt.toNat).toInt = 4 → (sI σ' (L 1) o).toInt = (sI σ (L 1) o).toInt ∧ (sI σ' (L 3) o).toInt = (sI σ (L 3) o).toInt ∧ (sI σ' (L 2) o).toInt = (sI σ (L 16) a1.toInt.toNat).toInt) ∧ ((sI σ (L 14) a1.toInt.toNat).toInt ≠ 5 → (sI σ (L 14) a1.toInt.toNat).toInt ≠ 0 → (sI σ (L 14) a1.toInt.toNat).toInt ≠ 4 → (sI σ' (L 1) o).toInt = (sI σ (L 1) o).toInt ∧ (sI σ' (L 2) o).toInt = (sI σ (L 2) o).toInt ∧ (sI σ' (L 3) o).toInt = (sI σ (L 3) o).toInt)))) (fun x11 σ12 hJ => ?_) (fun K13 hK13 => ?_)
      · obtain ⟨hI, hfr, hv, hA⟩ := hJ
        (try dsimp only at hv)
        refine ⟨by omega, ?_⟩
        intro z16 ez16
        have vz16 := hI.aI 14 9 0 5 (by decide) (by decide) rfl rfl rfl (i := a1.toInt) (by omega) ez16
        have wz16 : z16.toInt = (sI σ (L 14) a1.toInt.toNat).toInt := by rw [ez16, (hfr.2.1 14 (by decide) (by decide) _).1]
        refine jn_in (fun (x : Unit) (σ' : HS) => OKM h0 L σ' ∧ Fr h0 L [] [1, 2, 3, 4, 5, 6, 7, 8, 9] σ σ' ∧ (True) ∧ (∀ o : Nat, ((o : Int) ≠ (a2.toInt + (sI σ (L 15) a1.toInt.toNat).toInt) → (sI σ' (L 1) o).toInt = (sI σ (L 1) o).toInt ∧ (sI σ' (L 2) o).toInt = (sI σ (L 2) o).toInt ∧ (sI σ' (L 3) o).toInt = (sI σ (L 3) o).toInt) ∧ ((o : Int) = (a2.toInt + (sI σ (L 15) a1.toInt.toNat).toInt) → ((sI σ (L 14) a1.toInt.toNat).toInt = 5 → (sI σ' (L 1) o).toInt = 0 ∧ (sI σ' (L 2) o).toInt = (sI σ (L 2) o).toInt ∧ (sI σ' (L 3) o).toInt = (sI σ (L 3) o).toInt) ∧ ((sI σ (L 14) a1.toInt.toNat).toInt = 0 → (sI σ' (L 1) o).toInt = 1 ∧ (sI σ' (L 2) o).toInt = (sI σ (L 16) a1.toInt.toNat).toInt ∧ (sI σ' (L 3) o).toInt = (sI σ (L 17) a1.toInt.toNat).toInt) ∧ ((sI σ (L 14) a1.toInt.toNat).toInt = 4 → (sI σ' (L 1) o).toInt = (sI σ (L 1) o).toInt ∧ (sI σ' (L 3) o).toInt = (sI σ (L 3) o).toInt ∧ (sI σ' (L 2) o).toInt = (sI σ (L 16) a1.toInt.toNat).toInt) ∧ ((sI σ (L 14) a1.toInt.toNat).toInt ≠ 5 → (sI σ (L 14) a1.toInt.toNat).toInt ≠ 0 → (sI σ (L 14) a1.toInt.toNat).toInt ≠ 4 → (sI σ' (L 1) o).toInt = (sI σ (L 1) o).toInt ∧ (sI σ' (L 2) o).toInt = (sI σ (L 2) o).toInt ∧ (sI σ' (L 3) o).toInt = (sI σ (L 3) o).toInt)))) (fun x17 σ18 hJ => ?_) (fun K19 hK19 => ?_)
        · obtain ⟨hI, hfr, hv, hA⟩ := hJ
          (try dsimp only at hv)
          refine ⟨by omega, ?_⟩
          intro z22 ez22
          have vz22 := hI.aI 14 9 0 5 (by decide) (by decide) rfl rfl rfl (i := a1.toInt) (by omega) ez22
          have wz22 : z22.toInt = (sI σ (L 14) a1.toInt.toNat).toInt := by rw [ez22, (hfr.2.1 14 (by decide) (by decide) _).1]
          refine jn_in (fun (x : Unit) (σ' : HS) => OKM h0 L σ' ∧ Fr h0 L [] [1, 2, 3, 4, 5, 6, 7, 8, 9] σ σ' ∧ (True) ∧ (∀ o : Nat, ((o : Int) ≠ (a2.toInt + (sI σ (L 15) a1.toInt.toNat).toInt) → (sI σ' (L 1) o).toInt = (sI σ (L 1) o).toInt ∧ (sI σ' (L 2) o).toInt = (sI σ (L 2) o).toInt ∧ (sI σ' (L 3) o).toInt = (sI σ (L 3) o).toInt) ∧ ((o : Int) = (a2.toInt + (sI σ (L 15) a1.toInt.toNat).toInt) → ((sI σ (L 14) a1.toInt.toNat).toInt = 5 → (sI σ' (L 1) o).toInt = 0 ∧ (sI σ' (L 2) o).toInt = (sI σ (L 2) o).toInt ∧ (sI σ' (L 3) o).toInt = (sI σ (L 3) o).toInt) ∧ ((sI σ (L 14) a1.toInt.toNat).toInt = 0 → (sI σ' (L 1) o).toInt = 1 ∧ (sI σ' (L 2) o).toInt = (sI σ (L 16) a1.toInt.toNat).toInt ∧ (sI σ' (L 3) o).toInt = (sI σ (L 17) a1.toInt.toNat).toInt) ∧ ((sI σ (L 14) a1.toInt.toNat).toInt = 4 → (sI σ' (L 1) o).toInt = (sI σ (L 1) o).toInt ∧ (sI σ' (L 3) o).toInt = (sI σ (L 3) o).toInt ∧ (sI σ' (L 2) o).toInt = (sI σ (L 16) a1.toInt.toNat).toInt) ∧ ((sI σ (L 14) a1.toInt.toNat).toInt ≠ 5 → (sI σ (L 14) a1.toInt.toNat).toInt ≠ 0 → (sI σ (L 14) a1.toInt.toNat).toInt ≠ 4 → (sI σ' (L 1) o).toInt = (sI σ (L 1) o).toInt ∧ (sI σ' (L 2) o).toInt = (sI σ (L 2) o).toInt ∧ (sI σ' (L 3) o).toInt = (sI σ (L 3) o).toInt)))) (fun x23 σ24 hJ => ?_) (fun K25 hK25 => ?_)
          · obtain ⟨hI, hfr, hv, hA⟩ := hJ
            (try dsimp only at hv)
            refine ⟨by omega, ?_⟩
            intro z28 ez28
            have vz28 := hI.aI 14 9 0 5 (by decide) (by decide) rfl rfl rfl (i := a1.toInt) (by omega) ez28
            have wz28 : z28.toInt = (sI σ (L 14) a1.toInt.toNat).toInt := by rw [ez28, (hfr.2.1 14 (by decide) (by decide) _).1]
            refine jn_in (fun (x : Unit) (σ' : HS) => OKM h0 L σ' ∧ Fr h0 L [] [1, 2, 3, 4, 5, 6, 7, 8, 9] σ σ' ∧ (True) ∧ (∀ o : Nat, ((o : Int) ≠ (a2.toInt + (sI σ (L 15) a1.toInt.toNat).toInt) → (sI σ' (L 1) o).toInt = (sI σ (L 1) o).toInt ∧ (sI σ' (L 2) o).toInt = (sI σ (L 2) o).toInt ∧ (sI σ' (L 3) o).toInt = (sI σ (L 3) o).toInt) ∧ ((o : Int) = (a2.toInt + (sI σ (L 15) a1.toInt.toNat).toInt) → ((sI σ (L 14) a1.toInt.toNat).toInt = 5 → (sI σ' (L 1) o).toInt = 0 ∧ (sI σ' (L 2) o).toInt = (sI σ (L 2) o).toInt ∧ (sI σ' (L 3) o).toInt = (sI σ (L 3) o).toInt) ∧ ((sI σ (L 14) a1.toInt.toNat).toInt = 0 → (sI σ' (L 1) o).toInt = 1 ∧ (sI σ' (L 2) o).toInt = (sI σ (L 16) a1.toInt.toNat).toInt ∧ (sI σ' (L 3) o).toInt = (sI σ (L 17) a1.toInt.toNat).toInt) ∧ ((sI σ (L 14) a1.toInt.toNat).toInt = 4 → (sI σ' (L 1) o).toInt = (sI σ (L 1) o).toInt ∧ (sI σ' (L 3) o).toInt = (sI σ (L 3) o).toInt ∧ (sI σ' (L 2) o).toInt = (sI σ (L 16) a1.toInt.toNat).toInt) ∧ ((sI σ (L 14) a1.toInt.toNat).toInt ≠ 5 → (sI σ (L 14) a1.toInt.toNat).toInt ≠ 0 → (sI σ (L 14) a1.toInt.toNat).toInt ≠ 4 → (sI σ' (L 1) o).toInt = (sI σ (L 1) o).toInt ∧ (sI σ' (L 2) o).toInt = (sI σ (L 2) o).toInt ∧ (sI σ' (L 3) o).toInt = (sI σ (L 3) o).toInt)))) (fun x29 σ30 hJ => ?_) (fun K31 hK31 => ?_)
            · obtain ⟨hI, hfr, hv, hA⟩ := hJ
              (try dsimp only at hv)
              refine lw_in (fun (x : Int32) (σ' : HS) => OKM h0 L σ' ∧ Fr h0 L [] [1, 2, 3, 4, 5, 6, 7, 8, 9] σ σ' ∧ ((0 ≤ x.toInt ∧ x.toInt ≤ 4)) ∧ (∀ o : Nat, ((o : Int) ≠ (a2.toInt + (sI σ (L 15) a1.toInt.toNat).toInt) → (sI σ' (L 1) o).toInt = (sI σ (L 1) o).toInt ∧ (sI σ' (L 2) o).toInt = (sI σ (L 2) o).toInt ∧ (sI σ' (L 3) o).toInt = (sI σ (L 3) o).toInt) ∧ ((o : Int) = (a2.toInt + (sI σ (L 15) a1.toInt.toNat).toInt) → ((sI σ (L 14) a1.toInt.toNat).toInt = 5 → (sI σ' (L 1) o).toInt = 0 ∧ (sI σ' (L 2) o).toInt = (sI σ (L 2) o).toInt ∧ (sI σ' (L 3) o).toInt = (sI σ (L 3) o).toInt) ∧ ((sI σ (L 14) a1.toInt.toNat).toInt = 0 → (sI σ' (L 1) o).toInt = 1 ∧ (sI σ' (L 2) o).toInt = (sI σ (L 16) a1.toInt.toNat).toInt ∧ (sI σ' (L 3) o).toInt = (sI σ (L 17) a1.toInt.toNat).toInt) ∧ ((sI σ (L 14) a1.toInt.toNat).toInt = 4 → (sI σ' (L 1) o).toInt = (sI σ (L 1) o).toInt ∧ (sI σ' (L 3) o).toInt = (sI σ (L 3) o).toInt ∧ (sI σ' (L 2) o).toInt = (sI σ (L 16) a1.toInt.toNat).toInt) ∧ ((sI σ (L 14) a1.toInt.toNat).toInt ≠ 5 → (sI σ (L 14) a1.toInt.toNat).toInt ≠ 0 → (sI σ (L 14) a1.toInt.toNat).toInt ≠ 4 → (sI σ' (L 1) o).toInt = (sI σ (L 1) o).toInt ∧ (sI σ' (L 2) o).toInt = (sI σ (L 2) o).toInt ∧ (sI σ' (L 3) o).toInt = (sI σ (L 3) o).toInt)))) (fun (x : Int32) (σ' : HS) => (4 - x.toInt).toNat) ⟨hI, hfr, (by (try dsimp only); omega), (fun o => by (try have hA_ := hA o); omega)⟩ (fun x34 σ35 hJ K36 hK36 => ?_)
              obtain ⟨hI, hfr, hv, hA⟩ := hJ
              (try dsimp only at hv)
              have rg_x34 := i_range x34
              refine ⟨fun c2 => ?_, fun c2 => ?_⟩
              · exact kk σ35 hI hfr (fun o => by (try have hA_ := hA o); omega)
              · intro z38 ez38
                try have hz38 := i_mulk 4 rfl ez38 (by omega) (by omega)
                have rg_z38 := i_range z38
                intro z39 ez39
                try have hz39 := i_add ez39 (by omega) (by omega)
                have rg_z39 := i_range z39
                intro z40 ez40
                try have hz40 := i_mulk 4 rfl ez40 (by omega) (by omega)
                have rg_z40 := i_range z40
                intro z41 ez41
                try have hz41 := i_add ez41 (by omega) (by omega)
                have rg_z41 := i_range z41
                refine ⟨by omega, ?_⟩
                intro z42 ez42
                have wz42 : z42.toInt = (sJ σ35 (L 21) z41.toInt.toNat).toInt := by rw [ez42]
                refine ⟨by omega, ?_⟩
                intro σ43 eσ43
                have hMp := hI.2
                have hI := hI.pJ eσ43
                have hfr := hfr.aJ hMp (by decide) eσ43 (by decide)
                have f1σ43 : Fr h0 L [] [7] σ35 σ43 := Fr.rf.aJ hMp (by decide) eσ43 (by decide)
                intro z44 ez44
                try have hz44 := i_add ez44 (by omega) (by omega)
                have rg_z44 := i_range z44
                exact hK36 z44 σ43 ⟨hI, hfr, (by (try dsimp only); omega), (fun o => by have tt_ := congrArg Int32.toInt (f1σ43.2.1 1 (by decide) (by decide) o).1; have tt_ := congrArg Int32.toInt (f1σ43.2.1 2 (by decide) (by decide) o).1; have tt_ := congrArg Int32.toInt (f1σ43.2.1 3 (by decide) (by decide) o).1; (try have hA_ := hA o); omega)⟩ (by (try dsimp only); omega)
            · skip
              refine ⟨fun c3 => ?_, fun c3 => ?_⟩
              · exact hK31 () σ24 ⟨hI, hfr, trivial, (fun o => by (try have hA_ := hA o); omega)⟩
              · refine ⟨by omega, ?_⟩
                intro z45 ez45
                have vz45 := hI.aI 8 160 0 4096 (by decide) (by decide) rfl rfl rfl (i := z2.toInt) (by omega) ez45
                have wz45 : z45.toInt = (sI σ24 (L 8) z2.toInt.toNat).toInt := by rw [ez45]
                refine ⟨by omega, ?_⟩
                intro z46 ez46
                have vz46 := hI.aI 22 9 0 4096 (by decide) (by decide) rfl rfl rfl (i := a1.toInt) (by omega) ez46
                have wz46 : z46.toInt = (sI σ (L 22) a1.toInt.toNat).toInt := by rw [ez46, (hfr.2.1 22 (by decide) (by decide) _).1]
                refine s_X12_zero hI z2 z45 z46 (by omega) (fun σ47 hI fz48 pz48 => ?_)
                have hfr := hfr.tr fz48 (by decide) (by decide)
                refine ⟨by omega, ?_⟩
                intro z49 ez49
                have vz49 := hI.aI 22 9 0 4096 (by decide) (by decide) rfl rfl rfl (i := a1.toInt) (by omega) ez49
                have wz49 : z49.toInt = (sI σ (L 22) a1.toInt.toNat).toInt := by rw [ez49, (hfr.2.1 22 (by decide) (by decide) _).1]
                refine ⟨by omega, ?_⟩
                intro σ50 eσ50
                have hMp := hI.2
                have hI := hI.pA 8 0 4096 (by decide) (by decide) rfl rfl (by omega) eσ50
                have hfr := hfr.aI hMp (by decide) eσ50 (by decide)
                have f1σ50 : Fr h0 L [] [8] σ47 σ50 := Fr.rf.aI hMp (by decide) eσ50 (by decide)
                exact hK31 () σ50 ⟨hI, hfr, trivial, (fun o => by have tt_ := congrArg Int32.toInt (fz48.2.1 1 (by decide) (by decide) o).1; have tt_ := congrArg Int32.toInt (fz48.2.1 2 (by decide) (by decide) o).1; have tt_ := congrArg Int32.toInt (fz48.2.1 3 (by decide) (by decide) o).1; have tt_ := congrArg Int32.toInt (f1σ50.2.1 1 (by decide) (by decide) o).1; have tt_ := congrArg Int32.toInt (f1σ50.2.1 2 (by decide) (by decide) o).1; have tt_ := congrArg Int32.toInt (f1σ50.2.1 3 (by decide) (by decide) o).1; (try have hA_ := hA o); omega)⟩
          · skip
            refine ⟨fun c4 => ?_, fun c4 => ?_⟩
            · exact hK25 () σ18 ⟨hI, hfr, trivial, (fun o => by (try have hA_ := hA o); omega)⟩
            · refine ⟨by omega, ?_⟩
              intro z51 ez51
              have vz51 := hI.aI 8 160 0 4096 (by decide) (by decide) rfl rfl rfl (i := z2.toInt) (by omega) ez51
              have wz51 : z51.toInt = (sI σ18 (L 8) z2.toInt.toNat).toInt := by rw [ez51]
              refine ⟨by omega, ?_⟩
              intro z52 ez52
              have vz52 := hI.aI 22 9 0 4096 (by decide) (by decide) rfl rfl rfl (i := a1.toInt) (by omega) ez52
              have wz52 : z52.toInt = (sI σ (L 22) a1.toInt.toNat).toInt := by rw [ez52, (hfr.2.1 22 (by decide) (by decide) _).1]
              refine s_X12_zero hI z2 z51 z52 (by omega) (fun σ53 hI fz54 pz54 => ?_)
              have hfr := hfr.tr fz54 (by decide) (by decide)
              refine lw_in (fun (x : Int32) (σ' : HS) => OKM h0 L σ' ∧ Fr h0 L [] [1, 2, 3, 4, 5, 6, 7, 8, 9] σ σ' ∧ ((0 ≤ x.toInt ∧ x.toInt ≤ 1024)) ∧ (∀ o : Nat, ((o : Int) ≠ (a2.toInt + (sI σ (L 15) a1.toInt.toNat).toInt) → (sI σ' (L 1) o).toInt = (sI σ (L 1) o).toInt ∧ (sI σ' (L 2) o).toInt = (sI σ (L 2) o).toInt ∧ (sI σ' (L 3) o).toInt = (sI σ (L 3) o).toInt) ∧ ((o : Int) = (a2.toInt + (sI σ (L 15) a1.toInt.toNat).toInt) → ((sI σ (L 14) a1.toInt.toNat).toInt = 5 → (sI σ' (L 1) o).toInt = 0 ∧ (sI σ' (L 2) o).toInt = (sI σ (L 2) o).toInt ∧ (sI σ' (L 3) o).toInt = (sI σ (L 3) o).toInt) ∧ ((sI σ (L 14) a1.toInt.toNat).toInt = 0 → (sI σ' (L 1) o).toInt = 1 ∧ (sI σ' (L 2) o).toInt = (sI σ (L 16) a1.toInt.toNat).toInt ∧ (sI σ' (L 3) o).toInt = (sI σ (L 17) a1.toInt.toNat).toInt) ∧ ((sI σ (L 14) a1.toInt.toNat).toInt = 4 → (sI σ' (L 1) o).toInt = (sI σ (L 1) o).toInt ∧ (sI σ' (L 3) o).toInt = (sI σ (L 3) o).toInt ∧ (sI σ' (L 2) o).toInt = (sI σ (L 16) a1.toInt.toNat).toInt) ∧ ((sI σ (L 14) a1.toInt.toNat).toInt ≠ 5 → (sI σ (L 14) a1.toInt.toNat).toInt ≠ 0 → (sI σ (L 14) a1.toInt.toNat).toInt ≠ 4 → (sI σ' (L 1) o).toInt = (sI σ (L 1) o).toInt ∧ (sI σ' (L 2) o).toInt = (sI σ (L 2) o).toInt ∧ (sI σ' (L 3) o).toInt = (sI σ (L 3) o).toInt)))) (fun (x : Int32) (σ' : HS) => (1024 - x.toInt).toNat) ⟨hI, hfr, (by (try dsimp only); omega), (fun o => by have tt_ := congrArg Int32.toInt (fz54.2.1 1 (by decide) (by decide) o).1; have tt_ := congrArg Int32.toInt (fz54.2.1 2 (by decide) (by decide) o).1; have tt_ := congrArg Int32.toInt (fz54.2.1 3 (by decide) (by decide) o).1; (try have hA_ := hA o); omega)⟩ (fun x55 σ56 hJ K57 hK57 => ?_)
              obtain ⟨hI, hfr, hv, hA⟩ := hJ
              (try dsimp only at hv)
              have rg_x55 := i_range x55
              refine ⟨by omega, ?_⟩
              intro z59 ez59
              have vz59 := hI.aI 23 9 0 1024 (by decide) (by decide) rfl rfl rfl (i := a1.toInt) (by omega) ez59
              have wz59 : z59.toInt = (sI σ (L 23) a1.toInt.toNat).toInt := by rw [ez59, (hfr.2.1 23 (by decide) (by decide) _).1]
              refine ⟨fun c5 => ?_, fun c5 => ?_⟩
              · refine ⟨by omega, ?_⟩
                intro z60 ez60
                have vz60 := hI.aI 22 9 0 4096 (by decide) (by decide) rfl rfl rfl (i := a1.toInt) (by omega) ez60
                have wz60 : z60.toInt = (sI σ (L 22) a1.toInt.toNat).toInt := by rw [ez60, (hfr.2.1 22 (by decide) (by decide) _).1]
                refine ⟨by omega, ?_⟩
                intro z61 ez61
                have vz61 := hI.aI 23 9 0 1024 (by decide) (by decide) rfl rfl rfl (i := a1.toInt) (by omega) ez61
                have wz61 : z61.toInt = (sI σ (L 23) a1.toInt.toNat).toInt := by rw [ez61, (hfr.2.1 23 (by decide) (by decide) _).1]
                intro z62 ez62
                try have hz62 := i_add ez62 (by omega) (by omega)
                have rg_z62 := i_range z62
                refine ⟨by omega, ?_⟩
                intro z63 ez63
                have vz63 := hI.aI 8 160 0 4096 (by decide) (by decide) rfl rfl rfl (i := z2.toInt) (by omega) ez63
                have wz63 : z63.toInt = (sI σ56 (L 8) z2.toInt.toNat).toInt := by rw [ez63]
                refine jn_dup ?_
                refine ⟨fun c6 => ?_, fun c6 => ?_⟩
                · refine ⟨by omega, ?_⟩
                  intro z70 ez70
                  have vz70 := hI.aI 8 160 0 4096 (by decide) (by decide) rfl rfl rfl (i := z2.toInt) (by omega) ez70
                  have wz70 : z70.toInt = (sI σ56 (L 8) z2.toInt.toNat).toInt := by rw [ez70]
                  (try dsimp only)
                  refine ⟨by omega, ?_⟩
                  intro σ69 eσ69
                  have hMp := hI.2
                  have hI := hI.pA 8 0 4096 (by decide) (by decide) rfl rfl (by omega) eσ69
                  have hfr := hfr.aI hMp (by decide) eσ69 (by decide)
                  have f1σ69 : Fr h0 L [] [8] σ56 σ69 := Fr.rf.aI hMp (by decide) eσ69 (by decide)
                  exact hK25 () σ69 ⟨hI, hfr, trivial, (fun o => by have tt_ := congrArg Int32.toInt (f1σ69.2.1 1 (by decide) (by decide) o).1; have tt_ := congrArg Int32.toInt (f1σ69.2.1 2 (by decide) (by decide) o).1; have tt_ := congrArg Int32.toInt (f1σ69.2.1 3 (by decide) (by decide) o).1; (try have hA_ := hA o); omega)⟩
                · (try dsimp only)
                  refine ⟨by omega, ?_⟩
                  intro σ69 eσ69
                  have hMp := hI.2
                  have hI := hI.pA 8 0 4096 (by decide) (by decide) rfl rfl (by omega) eσ69
                  have hfr := hfr.aI hMp (by decide) eσ69 (by decide)
                  have f1σ69 : Fr h0 L [] [8] σ56 σ69 := Fr.rf.aI hMp (by decide) eσ69 (by decide)
                  exact hK25 () σ69 ⟨hI, hfr, trivial, (fun o => by have tt_ := congrArg Int32.toInt (f1σ69.2.1 1 (by decide) (by decide) o).1; have tt_ := congrArg Int32.toInt (f1σ69.2.1 2 (by decide) (by decide) o).1; have tt_ := congrArg Int32.toInt (f1σ69.2.1 3 (by decide) (by decide) o).1; (try have hA_ := hA o); omega)⟩
              · intro z71 ez71
                try have hz71 := i_mulk 4096 rfl ez71 (by omega) (by omega)
                have rg_z71 := i_range z71
                refine ⟨by omega, ?_⟩
                intro z72 ez72
                have vz72 := hI.aI 22 9 0 4096 (by decide) (by decide) rfl rfl rfl (i := a1.toInt) (by omega) ez72
                have wz72 : z72.toInt = (sI σ (L 22) a1.toInt.toNat).toInt := by rw [ez72, (hfr.2.1 22 (by decide) (by decide) _).1]
                intro z73 ez73
                try have hz73 := i_add ez73 (by omega) (by omega)
                have rg_z73 := i_range z73
                intro z74 ez74
                try have hz74 := i_add ez74 (by omega) (by omega)
                have rg_z74 := i_range z74
                intro z75 ez75
                try have hz75 := i_mulk 1024 rfl ez75 (by omega) (by omega)
                have rg_z75 := i_range z75
                intro z76 ez76
                try have hz76 := i_add ez76 (by omega) (by omega)
                have rg_z76 := i_range z76
                refine ⟨by omega, ?_⟩
                intro z77 ez77
                have vz77 := hI.aI 24 9216 (-128) 127 (by decide) (by decide) rfl rfl rfl (i := z76.toInt) (by omega) ez77
                have wz77 : z77.toInt = (sI σ (L 24) z76.toInt.toNat).toInt := by rw [ez77, (hfr.2.1 24 (by decide) (by decide) _).1]
                refine ⟨by omega, ?_⟩
                intro σ78 eσ78
                have hMp := hI.2
                have hI := hI.pA 9 (-128) 127 (by decide) (by decide) rfl rfl (i_byte _) eσ78
                have hfr := hfr.aI hMp (by decide) eσ78 (by decide)
                try have nrσ78 : (vp_nar .byte z77).toInt = z77.toInt := by rw [nar_byte (by omega)]
                have f1σ78 : Fr h0 L [] [9] σ56 σ78 := Fr.rf.aI hMp (by decide) eσ78 (by decide)
                intro z79 ez79
                try have hz79 := i_add ez79 (by omega) (by omega)
                have rg_z79 := i_range z79
                exact hK57 z79 σ78 ⟨hI, hfr, (by (try dsimp only); omega), (fun o => by have tt_ := congrArg Int32.toInt (f1σ78.2.1 1 (by decide) (by decide) o).1; have tt_ := congrArg Int32.toInt (f1σ78.2.1 2 (by decide) (by decide) o).1; have tt_ := congrArg Int32.toInt (f1σ78.2.1 3 (by decide) (by decide) o).1; (try have hA_ := hA o); omega)⟩ (by (try dsimp only); omega)
        · skip
          refine jn_dup ?_
          refine ⟨fun c7 => ?_, fun c7 => ?_⟩
          · (try dsimp only)
            refine ⟨by omega, ?_⟩
            intro z85 ez85
            have vz85 := hI.aI 20 9 (-2147483648) 2147483647 (by decide) (by decide) rfl rfl rfl (i := a1.toInt) (by omega) ez85
            have wz85 : z85.toInt = (sI σ (L 20) a1.toInt.toNat).toInt := by rw [ez85, (hfr.2.1 20 (by decide) (by decide) _).1]
            refine ⟨by omega, ?_⟩
            intro σ86 eσ86
            have hMp := hI.2
            have hI := hI.pA 6 (-2147483648) 2147483647 (by decide) (by decide) rfl rfl (by omega) eσ86
            have hfr := hfr.aI hMp (by decide) eσ86 (by decide)
            have f1σ86 : Fr h0 L [] [6] σ12 σ86 := Fr.rf.aI hMp (by decide) eσ86 (by decide)
            exact hK19 () σ86 ⟨hI, hfr, trivial, (fun o => by have tt_ := congrArg Int32.toInt (f1σ86.2.1 1 (by decide) (by decide) o).1; have tt_ := congrArg Int32.toInt (f1σ86.2.1 2 (by decide) (by decide) o).1; have tt_ := congrArg Int32.toInt (f1σ86.2.1 3 (by decide) (by decide) o).1; (try have hA_ := hA o); omega)⟩
          · refine ⟨by omega, ?_⟩
            intro z87 ez87
            have vz87 := hI.aI 14 9 0 5 (by decide) (by decide) rfl rfl rfl (i := a1.toInt) (by omega) ez87
            have wz87 : z87.toInt = (sI σ (L 14) a1.toInt.toNat).toInt := by rw [ez87, (hfr.2.1 14 (by decide) (by decide) _).1]
            refine ⟨fun c8 => ?_, fun c8 => ?_⟩
            · exact hK19 () σ12 ⟨hI, hfr, trivial, (fun o => by (try have hA_ := hA o); omega)⟩
            · (try dsimp only)
              refine ⟨by omega, ?_⟩
              intro z85 ez85
              have vz85 := hI.aI 20 9 (-2147483648) 2147483647 (by decide) (by decide) rfl rfl rfl (i := a1.toInt) (by omega) ez85
              have wz85 : z85.toInt = (sI σ (L 20) a1.toInt.toNat).toInt := by rw [ez85, (hfr.2.1 20 (by decide) (by decide) _).1]
              refine ⟨by omega, ?_⟩
              intro σ86 eσ86
              have hMp := hI.2
              have hI := hI.pA 6 (-2147483648) 2147483647 (by decide) (by decide) rfl rfl (by omega) eσ86
              have hfr := hfr.aI hMp (by decide) eσ86 (by decide)
              have f1σ86 : Fr h0 L [] [6] σ12 σ86 := Fr.rf.aI hMp (by decide) eσ86 (by decide)
              exact hK19 () σ86 ⟨hI, hfr, trivial, (fun o => by have tt_ := congrArg Int32.toInt (f1σ86.2.1 1 (by decide) (by decide) o).1; have tt_ := congrArg Int32.toInt (f1σ86.2.1 2 (by decide) (by decide) o).1; have tt_ := congrArg Int32.toInt (f1σ86.2.1 3 (by decide) (by decide) o).1; (try have hA_ := hA o); omega)⟩
      · skip
        refine jn_in (fun (x : Unit) (σ' : HS) => OKM h0 L σ' ∧ Fr h0 L [] [1, 2, 3, 4, 5, 6, 7, 8, 9] σ σ' ∧ (((sI σ (L 14) a1.toInt.toNat).toInt = 0 ∨ (sI σ (L 14) a1.toInt.toNat).toInt = 4)) ∧ (∀ o : Nat, ((o : Int) ≠ (a2.toInt + (sI σ (L 15) a1.toInt.toNat).toInt) → (sI σ' (L 1) o).toInt = (sI σ (L 1) o).toInt ∧ (sI σ' (L 2) o).toInt = (sI σ (L 2) o).toInt ∧ (sI σ' (L 3) o).toInt = (sI σ (L 3) o).toInt) ∧ ((o : Int) = (a2.toInt + (sI σ (L 15) a1.toInt.toNat).toInt) → ((sI σ (L 14) a1.toInt.toNat).toInt = 5 → (sI σ' (L 1) o).toInt = 0 ∧ (sI σ' (L 2) o).toInt = (sI σ (L 2) o).toInt ∧ (sI σ' (L 3) o).toInt = (sI σ (L 3) o).toInt) ∧ ((sI σ (L 14) a1.toInt.toNat).toInt = 0 → (sI σ' (L 1) o).toInt = 1 ∧ (sI σ' (L 2) o).toInt = (sI σ (L 2) o).toInt ∧ (sI σ' (L 3) o).toInt = (sI σ (L 17) a1.toInt.toNat).toInt) ∧ ((sI σ (L 14) a1.toInt.toNat).toInt = 4 → (sI σ' (L 1) o).toInt = (sI σ (L 1) o).toInt ∧ (sI σ' (L 3) o).toInt = (sI σ (L 3) o).toInt ∧ (sI σ' (L 2) o).toInt = (sI σ (L 2) o).toInt) ∧ ((sI σ (L 14) a1.toInt.toNat).toInt ≠ 5 → (sI σ (L 14) a1.toInt.toNat).toInt ≠ 0 → (sI σ (L 14) a1.toInt.toNat).toInt ≠ 4 → (sI σ' (L 1) o).toInt = (sI σ (L 1) o).toInt ∧ (sI σ' (L 2) o).toInt = (sI σ (L 2) o).toInt ∧ (sI σ' (L 3) o).toInt = (sI σ (L 3) o).toInt)))) (fun x88 σ89 hJ => ?_) (fun K90 hK90 => ?_)
        · obtain ⟨hI, hfr, hv, hA⟩ := hJ
          (try dsimp only at hv)
          refine ⟨by omega, ?_⟩
          intro z93 ez93
          have vz93 := hI.aI 16 9 (-1) 79 (by decide) (by decide) rfl rfl rfl (i := a1.toInt) (by omega) ez93
          have wz93 : z93.toInt = (sI σ (L 16) a1.toInt.toNat).toInt := by rw [ez93, (hfr.2.1 16 (by decide) (by decide) _).1]
          refine ⟨by omega, ?_⟩
          intro σ94 eσ94
          have hMp := hI.2
          have hI := hI.pA 2 (-1) 79 (by decide) (by decide) rfl rfl (by omega) eσ94
          have hfr := hfr.aI hMp (by decide) eσ94 (by decide)
          have f1σ94 : Fr h0 L [] [2] σ89 σ94 := Fr.rf.aI hMp (by decide) eσ94 (by decide)
          refine ⟨by omega, ?_⟩
          intro z95 ez95
          have vz95 := hI.aI 19 9 0 12 (by decide) (by decide) rfl rfl rfl (i := a1.toInt) (by omega) ez95
          have wz95 : z95.toInt = (sI σ (L 19) a1.toInt.toNat).toInt := by rw [ez95, (hfr.2.1 19 (by decide) (by decide) _).1]
          refine ⟨by omega, ?_⟩
          intro σ96 eσ96
          have hMp := hI.2
          have hI := hI.pA 5 0 12 (by decide) (by decide) rfl rfl (by omega) eσ96
          have hfr := hfr.aI hMp (by decide) eσ96 (by decide)
          have f1σ96 : Fr h0 L [] [5] σ94 σ96 := Fr.rf.aI hMp (by decide) eσ96 (by decide)
          refine lw_in (fun (x : Int32) (σ' : HS) => OKM h0 L σ' ∧ Fr h0 L [] [1, 2, 3, 4, 5, 6, 7, 8, 9] σ σ' ∧ ((0 ≤ x.toInt ∧ x.toInt ≤ 12)) ∧ (∀ o : Nat, ((o : Int) ≠ (a2.toInt + (sI σ (L 15) a1.toInt.toNat).toInt) → (sI σ' (L 1) o).toInt = (sI σ (L 1) o).toInt ∧ (sI σ' (L 2) o).toInt = (sI σ (L 2) o).toInt ∧ (sI σ' (L 3) o).toInt = (sI σ (L 3) o).toInt) ∧ ((o : Int) = (a2.toInt + (sI σ (L 15) a1.toInt.toNat).toInt) → ((sI σ (L 14) a1.toInt.toNat).toInt = 5 → (sI σ' (L 1) o).toInt = 0 ∧ (sI σ' (L 2) o).toInt = (sI σ (L 2) o).toInt ∧ (sI σ' (L 3) o).toInt = (sI σ (L 3) o).toInt) ∧ ((sI σ (L 14) a1.toInt.toNat).toInt = 0 → (sI σ' (L 1) o).toInt = 1 ∧ (sI σ' (L 2) o).toInt = (sI σ (L 16) a1.toInt.toNat).toInt ∧ (sI σ' (L 3) o).toInt = (sI σ (L 17) a1.toInt.toNat).toInt) ∧ ((sI σ (L 14) a1.toInt.toNat).toInt = 4 → (sI σ' (L 1) o).toInt = (sI σ (L 1) o).toInt ∧ (sI σ' (L 3) o).toInt = (sI σ (L 3) o).toInt ∧ (sI σ' (L 2) o).toInt = (sI σ (L 16) a1.toInt.toNat).toInt) ∧ ((sI σ (L 14) a1.toInt.toNat).toInt ≠ 5 → (sI σ (L 14) a1.toInt.toNat).toInt ≠ 0 → (sI σ (L 14) a1.toInt.toNat).toInt ≠ 4 → (sI σ' (L 1) o).toInt = (sI σ (L 1) o).toInt ∧ (sI σ' (L 2) o).toInt = (sI σ (L 2) o).toInt ∧ (sI σ' (L 3) o).toInt = (sI σ (L 3) o).toInt)))) (fun (x : Int32) (σ' : HS) => (12 - x.toInt).toNat) ⟨hI, hfr, (by (try dsimp only); omega), (fun o => by have tt_ := congrArg Int32.toInt (f1σ94.2.1 1 (by decide) (by decide) o).1; have tt_ := atI eσ94 o; have tt_ := congrArg Int32.toInt (f1σ94.2.1 3 (by decide) (by decide) o).1; have tt_ := congrArg Int32.toInt (f1σ96.2.1 1 (by decide) (by decide) o).1; have tt_ := congrArg Int32.toInt (f1σ96.2.1 2 (by decide) (by decide) o).1; have tt_ := congrArg Int32.toInt (f1σ96.2.1 3 (by decide) (by decide) o).1; (try have hA_ := hA o); omega)⟩ (fun x97 σ98 hJ K99 hK99 => ?_)
          obtain ⟨hI, hfr, hv, hA⟩ := hJ
          (try dsimp only at hv)
          have rg_x97 := i_range x97
          refine ⟨fun c9 => ?_, fun c9 => ?_⟩
          · exact hK13 () σ98 ⟨hI, hfr, trivial, (fun o => by (try have hA_ := hA o); omega)⟩
          · intro z101 ez101
            try have hz101 := i_mulk 12 rfl ez101 (by omega) (by omega)
            have rg_z101 := i_range z101
            intro z102 ez102
            try have hz102 := i_add ez102 (by omega) (by omega)
            have rg_z102 := i_range z102
            intro z103 ez103
            try have hz103 := i_mulk 12 rfl ez103 (by omega) (by omega)
            have rg_z103 := i_range z103
            intro z104 ez104
            try have hz104 := i_add ez104 (by omega) (by omega)
            have rg_z104 := i_range z104
            refine ⟨by omega, ?_⟩
            intro z105 ez105
            have vz105 := hI.aI 18 108 (-128) 127 (by decide) (by decide) rfl rfl rfl (i := z104.toInt) (by omega) ez105
            have wz105 : z105.toInt = (sI σ (L 18) z104.toInt.toNat).toInt := by rw [ez105, (hfr.2.1 18 (by decide) (by decide) _).1]
            refine ⟨by omega, ?_⟩
            intro σ106 eσ106
            have hMp := hI.2
            have hI := hI.pA 4 (-128) 127 (by decide) (by decide) rfl rfl (i_byte _) eσ106
            have hfr := hfr.aI hMp (by decide) eσ106 (by decide)
            try have nrσ106 : (vp_nar .byte z105).toInt = z105.toInt := by rw [nar_byte (by omega)]
            have f1σ106 : Fr h0 L [] [4] σ98 σ106 := Fr.rf.aI hMp (by decide) eσ106 (by decide)
            intro z107 ez107
            try have hz107 := i_add ez107 (by omega) (by omega)
            have rg_z107 := i_range z107
            exact hK99 z107 σ106 ⟨hI, hfr, (by (try dsimp only); omega), (fun o => by have tt_ := congrArg Int32.toInt (f1σ106.2.1 1 (by decide) (by decide) o).1; have tt_ := congrArg Int32.toInt (f1σ106.2.1 2 (by decide) (by decide) o).1; have tt_ := congrArg Int32.toInt (f1σ106.2.1 3 (by decide) (by decide) o).1; (try have hA_ := hA o); omega)⟩ (by (try dsimp only); omega)
        · skip
          refine ⟨fun c10 => ?_, fun c10 => ?_⟩
          · exact hK90 () σ6 ⟨hI, hfr, (by (try dsimp only); omega), (fun o => by (try have hA_ := hA o); omega)⟩
          · refine ⟨by omega, ?_⟩
            intro z108 ez108
            have vz108 := hI.aI 14 9 0 5 (by decide) (by decide) rfl rfl rfl (i := a1.toInt) (by omega) ez108
            have wz108 : z108.toInt = (sI σ (L 14) a1.toInt.toNat).toInt := by rw [ez108, (hfr.2.1 14 (by decide) (by decide) _).1]
            refine ⟨fun c11 => ?_, fun c11 => ?_⟩
            · exact hK13 () σ6 ⟨hI, hfr, trivial, (fun o => by (try have hA_ := hA o); omega)⟩
            · exact hK90 () σ6 ⟨hI, hfr, (by (try dsimp only); omega), (fun o => by (try have hA_ := hA o); omega)⟩
    · skip
      refine ⟨fun c12 => ?_, fun c12 => ?_⟩
      · exact hK7 () σ ⟨hI, hfr, trivial, (fun o => by (try have hA_ := hA o); omega)⟩
      · refine ⟨by omega, ?_⟩
        intro σ109 eσ109
        have hMp := hI.2
        have hI := hI.pA 1 0 1 (by decide) (by decide) rfl rfl (i_bool _) eσ109
        have hfr := hfr.aI hMp (by decide) eσ109 (by decide)
        try have nrσ109 : (vp_nar .boolean 1).toInt = (1 : Int32).toInt := by rw [nar_bool (by omega)]
        have f1σ109 : Fr h0 L [] [1] σ σ109 := Fr.rf.aI hMp (by decide) eσ109 (by decide)
        refine ⟨by omega, ?_⟩
        intro z110 ez110
        have vz110 := hI.aI 17 9 0 1 (by decide) (by decide) rfl rfl rfl (i := a1.toInt) (by omega) ez110
        have wz110 : z110.toInt = (sI σ (L 17) a1.toInt.toNat).toInt := by rw [ez110, (hfr.2.1 17 (by decide) (by decide) _).1]
        refine ⟨by omega, ?_⟩
        intro σ111 eσ111
        have hMp := hI.2
        have hI := hI.pA 3 0 1 (by decide) (by decide) rfl rfl (i_bool _) eσ111
        have hfr := hfr.aI hMp (by decide) eσ111 (by decide)
        try have nrσ111 : (vp_nar .boolean z110).toInt = z110.toInt := by rw [nar_bool (by omega)]
        have f1σ111 : Fr h0 L [] [3] σ109 σ111 := Fr.rf.aI hMp (by decide) eσ111 (by decide)
        refine ⟨by omega, ?_⟩
        intro σ112 eσ112
        have hMp := hI.2
        have hI := hI.pA 8 0 4096 (by decide) (by decide) rfl rfl (by omega) eσ112
        have hfr := hfr.aI hMp (by decide) eσ112 (by decide)
        have f1σ112 : Fr h0 L [] [8] σ111 σ112 := Fr.rf.aI hMp (by decide) eσ112 (by decide)
        exact hK7 () σ112 ⟨hI, hfr, trivial, (fun o => by have tt_ := atI eσ109 o; have tt_ := congrArg Int32.toInt (f1σ109.2.1 2 (by decide) (by decide) o).1; have tt_ := congrArg Int32.toInt (f1σ109.2.1 3 (by decide) (by decide) o).1; have tt_ := congrArg Int32.toInt (f1σ111.2.1 1 (by decide) (by decide) o).1; have tt_ := congrArg Int32.toInt (f1σ111.2.1 2 (by decide) (by decide) o).1; have tt_ := atI eσ111 o; have tt_ := congrArg Int32.toInt (f1σ112.2.1 1 (by decide) (by decide) o).1; have tt_ := congrArg Int32.toInt (f1σ112.2.1 2 (by decide) (by decide) o).1; have tt_ := congrArg Int32.toInt (f1σ112.2.1 3 (by decide) (by decide) o).1; (try have hA_ := hA o); omega)⟩
  · refine ⟨by omega, ?_⟩
    intro σ113 eσ113
    have hMp := hI.2
    have hI := hI.pA 1 0 1 (by decide) (by decide) rfl rfl (i_bool _) eσ113
    have hfr := hfr.aI hMp (by decide) eσ113 (by decide)
    try have nrσ113 : (vp_nar .boolean 0).toInt = (0 : Int32).toInt := by rw [nar_bool (by omega)]
    have f1σ113 : Fr h0 L [] [1] σ σ113 := Fr.rf.aI hMp (by decide) eσ113 (by decide)
    exact kk σ113 hI hfr (fun o => by have tt_ := atI eσ113 o; have tt_ := congrArg Int32.toInt (f1σ113.2.1 2 (by decide) (by decide) o).1; have tt_ := congrArg Int32.toInt (f1σ113.2.1 3 (by decide) (by decide) o).1; (try have hA_ := hA o); omega)
/-- an entry is laid at the log's end -/
def Rc (h0 : Nat) (L : Nat → Nat) (σ σ' : HS) (a1 a2 : Int32) : Prop := ∀ o : Nat, ((o : Int) ≠ (sI σ h0 16).toInt → (sI σ' (L 14) o).toInt = (sI σ (L 14) o).toInt ∧ (sI σ' (L 15) o).toInt = (sI σ (L 15) o).toInt ∧ (sI σ' (L 16) o).toInt = (sI σ (L 16) o).toInt ∧ (sI σ' (L 17) o).toInt = (sI σ (L 17) o).toInt ∧ (sI σ' (L 22) o).toInt = (sI σ (L 22) o).toInt ∧ (sI σ' (L 23) o).toInt = (sI σ (L 23) o).toInt) ∧ ((o : Int) = (sI σ h0 16).toInt → (sI σ' (L 14) o).toInt = a1.toInt ∧ (sI σ' (L 15) o).toInt = a2.toInt ∧ (sI σ' (L 16) o).toInt = (sI σ (L 2) a2.toInt.toNat).toInt ∧ (sI σ' (L 17) o).toInt = (sI σ (L 3) a2.toInt.toNat).toInt ∧ (sI σ' (L 22) o).toInt = 0 ∧ (sI σ' (L 23) o).toInt = 0)
set_option maxRecDepth 100000 in
set_option maxHeartbeats 4000000 in
theorem s_X12_record {h0 : Nat} {L : Nat → Nat} {σ : HS} (hI : OKM h0 L σ) (a1 : Int32) (a2 : Int32) (hz : 0 ≤ a1.toInt ∧ a1.toInt ≤ 5 ∧ 0 ≤ a2.toInt ∧ a2.toInt < 80) {post : Int32 → HS → Prop} (kk : ∀ (r : Int32) (σ' : HS), OKM h0 L σ' → Fr h0 L [] [14, 15, 16, 17, 18, 19, 20, 21, 22, 23] σ σ' → (r.toInt = (sI σ h0 16).toInt ∧ Rc h0 L σ σ' a1 a2) → post r σ') : F_X12_record h0 L a1 a2 post σ := by
  unfold F_X12_record
  have k_0 : (0 : Int32).toInt = 0 := rfl
  have k_1 : (1 : Int32).toInt = 1 := rfl
  have k_4 : (4 : Int32).toInt = 4 := rfl
  have k_12 : (12 : Int32).toInt = 12 := rfl
  have rg_a1 := i_range a1
  have rg_a2 := i_range a2
  have hfr : Fr h0 L [] [14, 15, 16, 17, 18, 19, 20, 21, 22, 23] σ σ := Fr.rf
  intro z1 ez1
  have vz1 := hI.fI 16 0 8 (by decide) rfl rfl rfl ez1
  have wz1 : z1.toInt = (sI σ h0 16).toInt := by rw [ez1, (hfr.1 16 (by decide)).1]
  refine ⟨by omega, ?_⟩
  intro σ2 eσ2
  have hMp := hI.2
  have hI := hI.pA 14 0 5 (by decide) (by decide) rfl rfl (by omega) eσ2
  have hfr := hfr.aI hMp (by decide) eσ2 (by decide)
  have f1σ2 : Fr h0 L [] [14] σ σ2 := Fr.rf.aI hMp (by decide) eσ2 (by decide)
  refine ⟨by omega, ?_⟩
  intro σ3 eσ3
  have hMp := hI.2
  have hI := hI.pA 15 0 79 (by decide) (by decide) rfl rfl (by omega) eσ3
  have hfr := hfr.aI hMp (by decide) eσ3 (by decide)
  have f1σ3 : Fr h0 L [] [15] σ2 σ3 := Fr.rf.aI hMp (by decide) eσ3 (by decide)
  refine ⟨by omega, ?_⟩
  intro z4 ez4
  have vz4 := hI.aI 2 160 (-1) 79 (by decide) (by decide) rfl rfl rfl (i := a2.toInt) (by omega) ez4
  have wz4 : z4.toInt = (sI σ (L 2) a2.toInt.toNat).toInt := by rw [ez4, (hfr.2.1 2 (by decide) (by decide) _).1]
  refine ⟨by omega, ?_⟩
  intro σ5 eσ5
  have hMp := hI.2
  have hI := hI.pA 16 (-1) 79 (by decide) (by decide) rfl rfl (by omega) eσ5
  have hfr := hfr.aI hMp (by decide) eσ5 (by decide)
  have f1σ5 : Fr h0 L [] [16] σ3 σ5 := Fr.rf.aI hMp (by decide) eσ5 (by decide)
  refine ⟨by omega, ?_⟩
  intro z6 ez6
  have vz6 := hI.aI 3 160 0 1 (by decide) (by decide) rfl rfl rfl (i := a2.toInt) (by omega) ez6
  have wz6 : z6.toInt = (sI σ (L 3) a2.toInt.toNat).toInt := by rw [ez6, (hfr.2.1 3 (by decide) (by decide) _).1]
  refine ⟨by omega, ?_⟩
  intro σ7 eσ7
  have hMp := hI.2
  have hI := hI.pA 17 0 1 (by decide) (by decide) rfl rfl (i_bool _) eσ7
  have hfr := hfr.aI hMp (by decide) eσ7 (by decide)
  try have nrσ7 : (vp_nar .boolean z6).toInt = z6.toInt := by rw [nar_bool (by omega)]
  have f1σ7 : Fr h0 L [] [17] σ5 σ7 := Fr.rf.aI hMp (by decide) eσ7 (by decide)
  refine ⟨by omega, ?_⟩
  intro z8 ez8
  have vz8 := hI.aI 5 160 0 12 (by decide) (by decide) rfl rfl rfl (i := a2.toInt) (by omega) ez8
  have wz8 : z8.toInt = (sI σ (L 5) a2.toInt.toNat).toInt := by rw [ez8, (hfr.2.1 5 (by decide) (by decide) _).1]
  refine ⟨by omega, ?_⟩
  intro σ9 eσ9
  have hMp := hI.2
  have hI := hI.pA 19 0 12 (by decide) (by decide) rfl rfl (by omega) eσ9
  have hfr := hfr.aI hMp (by decide) eσ9 (by decide)
  have f1σ9 : Fr h0 L [] [19] σ7 σ9 := Fr.rf.aI hMp (by decide) eσ9 (by decide)
  refine ⟨by omega, ?_⟩
  intro z10 ez10
  have vz10 := hI.aI 6 160 (-2147483648) 2147483647 (by decide) (by decide) rfl rfl rfl (i := a2.toInt) (by omega) ez10
  have wz10 : z10.toInt = (sI σ (L 6) a2.toInt.toNat).toInt := by rw [ez10, (hfr.2.1 6 (by decide) (by decide) _).1]
  refine ⟨by omega, ?_⟩
  intro σ11 eσ11
  have hMp := hI.2
  have hI := hI.pA 20 (-2147483648) 2147483647 (by decide) (by decide) rfl rfl (by omega) eσ11
  have hfr := hfr.aI hMp (by decide) eσ11 (by decide)
  have f1σ11 : Fr h0 L [] [20] σ9 σ11 := Fr.rf.aI hMp (by decide) eσ11 (by decide)
  refine ⟨by omega, ?_⟩
  intro σ12 eσ12
  have hMp := hI.2
  have hI := hI.pA 22 0 4096 (by decide) (by decide) rfl rfl (by omega) eσ12
  have hfr := hfr.aI hMp (by decide) eσ12 (by decide)
  have f1σ12 : Fr h0 L [] [22] σ11 σ12 := Fr.rf.aI hMp (by decide) eσ12 (by decide)
  refine ⟨by omega, ?_⟩
  intro σ13 eσ13
  have hMp := hI.2
  have hI := hI.pA 23 0 1024 (by decide) (by decide) rfl rfl (by omega) eσ13
  have hfr := hfr.aI hMp (by decide) eσ13 (by decide)
  have f1σ13 : Fr h0 L [] [23] σ12 σ13 := Fr.rf.aI hMp (by decide) eσ13 (by decide)
  refine lw_in (fun (x : Int32) (σ' : HS) => OKM h0 L σ' ∧ Fr h0 L [] [14, 15, 16, 17, 18, 19, 20, 21, 22, 23] σ σ' ∧ ((0 ≤ x.toInt ∧ x.toInt ≤ 12)) ∧ (∀ o : Nat, ((o : Int) ≠ (sI σ h0 16).toInt → (sI σ' (L 14) o).toInt = (sI σ (L 14) o).toInt ∧ (sI σ' (L 15) o).toInt = (sI σ (L 15) o).toInt ∧ (sI σ' (L 16) o).toInt = (sI σ (L 16) o).toInt ∧ (sI σ' (L 17) o).toInt = (sI σ (L 17) o).toInt ∧ (sI σ' (L 22) o).toInt = (sI σ (L 22) o).toInt ∧ (sI σ' (L 23) o).toInt = (sI σ (L 23) o).toInt) ∧ ((o : Int) = (sI σ h0 16).toInt → (sI σ' (L 14) o).toInt = a1.toInt ∧ (sI σ' (L 15) o).toInt = a2.toInt ∧ (sI σ' (L 16) o).toInt = (sI σ (L 2) a2.toInt.toNat).toInt ∧ (sI σ' (L 17) o).toInt = (sI σ (L 3) a2.toInt.toNat).toInt ∧ (sI σ' (L 22) o).toInt = 0 ∧ (sI σ' (L 23) o).toInt = 0))) (fun (x : Int32) (σ' : HS) => (12 - x.toInt).toNat) ⟨hI, hfr, (by (try dsimp only); omega), (fun o => by have tt_ := atI eσ2 o; have tt_ := congrArg Int32.toInt (f1σ2.2.1 15 (by decide) (by decide) o).1; have tt_ := congrArg Int32.toInt (f1σ2.2.1 16 (by decide) (by decide) o).1; have tt_ := congrArg Int32.toInt (f1σ2.2.1 17 (by decide) (by decide) o).1; have tt_ := congrArg Int32.toInt (f1σ2.2.1 22 (by decide) (by decide) o).1; have tt_ := congrArg Int32.toInt (f1σ2.2.1 23 (by decide) (by decide) o).1; have tt_ := congrArg Int32.toInt (f1σ3.2.1 14 (by decide) (by decide) o).1; have tt_ := atI eσ3 o; have tt_ := congrArg Int32.toInt (f1σ3.2.1 16 (by decide) (by decide) o).1; have tt_ := congrArg Int32.toInt (f1σ3.2.1 17 (by decide) (by decide) o).1; have tt_ := congrArg Int32.toInt (f1σ3.2.1 22 (by decide) (by decide) o).1; have tt_ := congrArg Int32.toInt (f1σ3.2.1 23 (by decide) (by decide) o).1; have tt_ := congrArg Int32.toInt (f1σ5.2.1 14 (by decide) (by decide) o).1; have tt_ := congrArg Int32.toInt (f1σ5.2.1 15 (by decide) (by decide) o).1; have tt_ := atI eσ5 o; have tt_ := congrArg Int32.toInt (f1σ5.2.1 17 (by decide) (by decide) o).1; have tt_ := congrArg Int32.toInt (f1σ5.2.1 22 (by decide) (by decide) o).1; have tt_ := congrArg Int32.toInt (f1σ5.2.1 23 (by decide) (by decide) o).1; have tt_ := congrArg Int32.toInt (f1σ7.2.1 14 (by decide) (by decide) o).1; have tt_ := congrArg Int32.toInt (f1σ7.2.1 15 (by decide) (by decide) o).1; have tt_ := congrArg Int32.toInt (f1σ7.2.1 16 (by decide) (by decide) o).1; have tt_ := atI eσ7 o; have tt_ := congrArg Int32.toInt (f1σ7.2.1 22 (by decide) (by decide) o).1; have tt_ := congrArg Int32.toInt (f1σ7.2.1 23 (by decide) (by decide) o).1; have tt_ := congrArg Int32.toInt (f1σ9.2.1 14 (by decide) (by decide) o).1; have tt_ := congrArg Int32.toInt (f1σ9.2.1 15 (by decide) (by decide) o).1; have tt_ := congrArg Int32.toInt (f1σ9.2.1 16 (by decide) (by decide) o).1; have tt_ := congrArg Int32.toInt (f1σ9.2.1 17 (by decide) (by decide) o).1; have tt_ := congrArg Int32.toInt (f1σ9.2.1 22 (by decide) (by decide) o).1; have tt_ := congrArg Int32.toInt (f1σ9.2.1 23 (by decide) (by decide) o).1; have tt_ := congrArg Int32.toInt (f1σ11.2.1 14 (by decide) (by decide) o).1; have tt_ := congrArg Int32.toInt (f1σ11.2.1 15 (by decide) (by decide) o).1; have tt_ := congrArg Int32.toInt (f1σ11.2.1 16 (by decide) (by decide) o).1; have tt_ := congrArg Int32.toInt (f1σ11.2.1 17 (by decide) (by decide) o).1; have tt_ := congrArg Int32.toInt (f1σ11.2.1 22 (by decide) (by decide) o).1; have tt_ := congrArg Int32.toInt (f1σ11.2.1 23 (by decide) (by decide) o).1; have tt_ := congrArg Int32.toInt (f1σ12.2.1 14 (by decide) (by decide) o).1; have tt_ := congrArg Int32.toInt (f1σ12.2.1 15 (by decide) (by decide) o).1; have tt_ := congrArg Int32.toInt (f1σ12.2.1 16 (by decide) (by decide) o).1; have tt_ := congrArg Int32.toInt (f1σ12.2.1 17 (by decide) (by decide) o).1; have tt_ := atI eσ12 o; have tt_ := congrArg Int32.toInt (f1σ12.2.1 23 (by decide) (by decide) o).1; have tt_ := congrArg Int32.toInt (f1σ13.2.1 14 (by decide) (by decide) o).1; have tt_ := congrArg Int32.toInt (f1σ13.2.1 15 (by decide) (by decide) o).1; have tt_ := congrArg Int32.toInt (f1σ13.2.1 16 (by decide) (by decide) o).1; have tt_ := congrArg Int32.toInt (f1σ13.2.1 17 (by decide) (by decide) o).1; have tt_ := congrArg Int32.toInt (f1σ13.2.1 22 (by decide) (by decide) o).1; have tt_ := atI eσ13 o; (try have hA_ := hA o); omega)⟩ (fun x14 σ15 hJ K16 hK16 => ?_)
  obtain ⟨hI, hfr, hv, hA⟩ := hJ
  (try dsimp only at hv)
  have rg_x14 := i_range x14
  refine ⟨fun c1 => ?_, fun c1 => ?_⟩
  · refine lw_in (fun (x : Int32) (σ' : HS) => OKM h0 L σ' ∧ Fr h0 L [] [14, 15, 16, 17, 18, 19, 20, 21, 22, 23] σ σ' ∧ ((0 ≤ x.toInt ∧ x.toInt ≤ 4)) ∧ (∀ o : Nat, ((o : Int) ≠ (sI σ h0 16).toInt → (sI σ' (L 14) o).toInt = (sI σ (L 14) o).toInt ∧ (sI σ' (L 15) o).toInt = (sI σ (L 15) o).toInt ∧ (sI σ' (L 16) o).toInt = (sI σ (L 16) o).toInt ∧ (sI σ' (L 17) o).toInt = (sI σ (L 17) o).toInt ∧ (sI σ' (L 22) o).toInt = (sI σ (L 22) o).toInt ∧ (sI σ' (L 23) o).toInt = (sI σ (L 23) o).toInt) ∧ ((o : Int) = (sI σ h0 16).toInt → (sI σ' (L 14) o).toInt = a1.toInt ∧ (sI σ' (L 15) o).toInt = a2.toInt ∧ (sI σ' (L 16) o).toInt = (sI σ (L 2) a2.toInt.toNat).toInt ∧ (sI σ' (L 17) o).toInt = (sI σ (L 3) a2.toInt.toNat).toInt ∧ (sI σ' (L 22) o).toInt = 0 ∧ (sI σ' (L 23) o).toInt = 0))) (fun (x : Int32) (σ' : HS) => (4 - x.toInt).toNat) ⟨hI, hfr, (by (try dsimp only); omega), (fun o => by (try have hA_ := hA o); omega)⟩ (fun x18 σ19 hJ K20 hK20 => ?_)
    obtain ⟨hI, hfr, hv, hA⟩ := hJ
    (try dsimp only at hv)
    have rg_x18 := i_range x18
    refine ⟨fun c2 => ?_, fun c2 => ?_⟩
    · exact kk z1 σ19 hI hfr ⟨(by (try dsimp only); omega), (fun o => by (try have hA_ := hA o); omega)⟩
    · intro z22 ez22
      try have hz22 := i_mulk 4 rfl ez22 (by omega) (by omega)
      have rg_z22 := i_range z22
      intro z23 ez23
      try have hz23 := i_add ez23 (by omega) (by omega)
      have rg_z23 := i_range z23
      intro z24 ez24
      try have hz24 := i_mulk 4 rfl ez24 (by omega) (by omega)
      have rg_z24 := i_range z24
      intro z25 ez25
      try have hz25 := i_add ez25 (by omega) (by omega)
      have rg_z25 := i_range z25
      refine ⟨by omega, ?_⟩
      intro z26 ez26
      have wz26 : z26.toInt = (sJ σ19 (L 7) z25.toInt.toNat).toInt := by rw [ez26]
      refine ⟨by omega, ?_⟩
      intro σ27 eσ27
      have hMp := hI.2
      have hI := hI.pJ eσ27
      have hfr := hfr.aJ hMp (by decide) eσ27 (by decide)
      have f1σ27 : Fr h0 L [] [21] σ19 σ27 := Fr.rf.aJ hMp (by decide) eσ27 (by decide)
      intro z28 ez28
      try have hz28 := i_add ez28 (by omega) (by omega)
      have rg_z28 := i_range z28
      exact hK20 z28 σ27 ⟨hI, hfr, (by (try dsimp only); omega), (fun o => by have tt_ := congrArg Int32.toInt (f1σ27.2.1 14 (by decide) (by decide) o).1; have tt_ := congrArg Int32.toInt (f1σ27.2.1 15 (by decide) (by decide) o).1; have tt_ := congrArg Int32.toInt (f1σ27.2.1 16 (by decide) (by decide) o).1; have tt_ := congrArg Int32.toInt (f1σ27.2.1 17 (by decide) (by decide) o).1; have tt_ := congrArg Int32.toInt (f1σ27.2.1 22 (by decide) (by decide) o).1; have tt_ := congrArg Int32.toInt (f1σ27.2.1 23 (by decide) (by decide) o).1; (try have hA_ := hA o); omega)⟩ (by (try dsimp only); omega)
  · intro z29 ez29
    try have hz29 := i_mulk 12 rfl ez29 (by omega) (by omega)
    have rg_z29 := i_range z29
    intro z30 ez30
    try have hz30 := i_add ez30 (by omega) (by omega)
    have rg_z30 := i_range z30
    intro z31 ez31
    try have hz31 := i_mulk 12 rfl ez31 (by omega) (by omega)
    have rg_z31 := i_range z31
    intro z32 ez32
    try have hz32 := i_add ez32 (by omega) (by omega)
    have rg_z32 := i_range z32
    refine ⟨by omega, ?_⟩
    intro z33 ez33
    have vz33 := hI.aI 4 1920 (-128) 127 (by decide) (by decide) rfl rfl rfl (i := z32.toInt) (by omega) ez33
    have wz33 : z33.toInt = (sI σ (L 4) z32.toInt.toNat).toInt := by rw [ez33, (hfr.2.1 4 (by decide) (by decide) _).1]
    refine ⟨by omega, ?_⟩
    intro σ34 eσ34
    have hMp := hI.2
    have hI := hI.pA 18 (-128) 127 (by decide) (by decide) rfl rfl (i_byte _) eσ34
    have hfr := hfr.aI hMp (by decide) eσ34 (by decide)
    try have nrσ34 : (vp_nar .byte z33).toInt = z33.toInt := by rw [nar_byte (by omega)]
    have f1σ34 : Fr h0 L [] [18] σ15 σ34 := Fr.rf.aI hMp (by decide) eσ34 (by decide)
    intro z35 ez35
    try have hz35 := i_add ez35 (by omega) (by omega)
    have rg_z35 := i_range z35
    exact hK16 z35 σ34 ⟨hI, hfr, (by (try dsimp only); omega), (fun o => by have tt_ := congrArg Int32.toInt (f1σ34.2.1 14 (by decide) (by decide) o).1; have tt_ := congrArg Int32.toInt (f1σ34.2.1 15 (by decide) (by decide) o).1; have tt_ := congrArg Int32.toInt (f1σ34.2.1 16 (by decide) (by decide) o).1; have tt_ := congrArg Int32.toInt (f1σ34.2.1 17 (by decide) (by decide) o).1; have tt_ := congrArg Int32.toInt (f1σ34.2.1 22 (by decide) (by decide) o).1; have tt_ := congrArg Int32.toInt (f1σ34.2.1 23 (by decide) (by decide) o).1; (try have hA_ := hA o); omega)⟩ (by (try dsimp only); omega)

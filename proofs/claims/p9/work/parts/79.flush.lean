/-! flush -/
set_option maxRecDepth 100000 in
set_option maxHeartbeats 4000000 in
theorem s_X12_flush {h0 : Nat} {L : Nat → Nat} {σ : HS} (hI : OKM h0 L σ)  (hR : ∀ o : Nat, (o : Int) < (sI σ h0 16).toInt → (sI σ (L 22) o).toInt + (sI σ (L 23) o).toInt ≤ 4096) (hz : 0 ≤ (sI σ h0 100).toInt) {post : Int64 → HS → Prop} (kk : ∀ (r : Int64) (σ' : HS), OKM h0 L σ' → Fr h0 L [16, 91] [1, 2, 3, 4, 5, 6, 7, 8, 9, 76] σ σ' → (((sI σ' h0 16).toInt = 0 ∧ Cm L σ σ' (sI σ h0 16).toInt.toNat) ∨ ((sI σ' h0 16).toInt = (sI σ h0 16).toInt ∧ ∀ b o, vw L σ' b o = vw L σ b o)) → post r σ') : F_X12_flush h0 L  post σ := by
  unfold F_X12_flush
  have k_0 : (0 : Int32).toInt = 0 := rfl
  have k_4 : (4 : Int32).toInt = 4 := rfl
  have k_6 : (6 : Int32).toInt = 6 := rfl
  have kl_3221225506 : (3221225506 : Int64).toInt = 3221225506 := rfl
  have hfr : Fr h0 L [16, 91] [1, 2, 3, 4, 5, 6, 7, 8, 9, 76] σ σ := Fr.rf
  intro z1 ez1
  have vz1 := hI.fI 100 (-1) 39 (by decide) rfl rfl rfl ez1
  have wz1 : z1.toInt = (sI σ h0 100).toInt := by rw [ez1]
  refine ⟨by omega, ?_⟩
  intro z2 ez2
  have vz2 := hI.aI 44 40 (-2147483648) 2147483647 (by decide) (by decide) rfl rfl rfl (i := z1.toInt) (by omega) ez2
  have wz2 : z2.toInt = (sI σ (L 44) z1.toInt.toNat).toInt := by rw [ez2]
  intro z3 ez3
  try have hz3 := i_and ez3 (by omega)
  have rg_z3 := i_range z3
  refine ⟨fun c1 => ?_, fun c1 => ?_⟩
  · refine s_X12_allCome hI  (fun o ho => hR o (by omega)) (fun σ4 hI fz5 pz5 => ?_)
    have hfr := hfr.tr fz5 (by decide) (by decide)
    refine s_X12_small hI 4 (by omega) (fun z7 σ6 hI fz7 pz7 => ?_)
    have hfr := hfr.tr fz7 (by decide) (by decide)
    have tk2 : (sI σ6 h0 16).toInt = (sI σ4 h0 16).toInt := by rw [(fz7.1 16 (by decide)).1]
    exact kk z7 σ6 hI hfr (Or.inl ⟨by omega, fun o ho => by rw [vw_fr fz7 (by decide) (by decide) (by decide), vw_fr fz7 (by decide) (by decide) (by decide)]; exact pz5.2 o ho⟩)
  · exact kk 3221225506 σ hI hfr (Or.inr ⟨rfl, fun _ _ => rfl⟩)

/-! a share is made -/
section R92
variable {h0 : Nat} {L : Nat → Nat} {σ0 σ σ' σ2 : HS} {r k : Nat} {x : Int} {fs js : List Nat}
/-- the new root's row: of the live nodes, then of the disk's -/
def SHs (L : Nat → Nat) (σ0 σ : HS) (r : Nat) (x : Int) : Prop := ∀ o : Nat, o < 80 → ((o = r ∧ 0 < x → vw L σ 0 o = (1, -1, 1)) ∧ (¬ (o = r ∧ 0 < x) → vw L σ 0 o = vw L σ0 0 o) ∧ (o = r ∧ 80 < x → vw L σ 80 o = (1, -1, 1)) ∧ (¬ (o = r ∧ 80 < x) → vw L σ 80 o = vw L σ0 80 o))
theorem SHs.rf : SHs L σ σ r 0 := fun o ho => ⟨fun h => by omega, fun _ => rfl, fun h => by omega, fun _ => rfl⟩
theorem SHs.fr (h : SHs L σ0 σ r x) (f : Fr h0 L fs js σ σ') (hj : nof js [1, 2, 3] = true) : SHs L σ0 σ' r x := fun o ho => by
  rw [congrFun (vw_ff f hj 0) o, congrFun (vw_ff f hj 80) o]
  exact h o ho
theorem SHs.st (h : SHs L σ0 σ r x) (hx : x = 0 ∨ x = 80) (hr : r < 80) (hk : (k : Int) = x + r) (n : ∀ b o : Nat, (b + o = k → vw L σ' b o = (1, -1, 1)) ∧ (b + o ≠ k → vw L σ' b o = vw L σ b o)) : SHs L σ0 σ' r (x + 80) := fun o ho => by
  have n0 := n 0 o
  have n8 := n 80 o
  have q := h o ho
  refine ⟨fun c => ?_, fun c => ?_, fun c => ?_, fun c => ?_⟩
  · rcases hx with e | e
    · exact n0.1 (by omega)
    · rw [n0.2 (by omega)]
      exact q.1 (by omega)
  · rw [n0.2 (by omega)]
    exact q.2.1 (by omega)
  · exact n8.1 (by omega)
  · rw [n8.2 (by omega)]
    exact q.2.2.2 (by omega)
theorem SHs.fin (h : SHs L σ0 σ r x) (hx : x = 160) (o : Nat) (ho : o < 80) : (o = r → vw L σ 0 o = (1, -1, 1) ∧ vw L σ 80 o = (1, -1, 1)) ∧ (o ≠ r → vw L σ 0 o = vw L σ0 0 o ∧ vw L σ 80 o = vw L σ0 80 o) := by
  have q := h o ho
  exact ⟨fun c => ⟨q.1 (by omega), q.2.2.1 (by omega)⟩, fun c => ⟨q.2.1 (by omega), q.2.2.2 (by omega)⟩⟩
end R92
set_option maxRecDepth 100000 in
set_option maxHeartbeats 4000000 in
theorem s_X12_share {h0 : Nat} {L : Nat → Nat} {σ : HS} (hI : OKM h0 L σ) (a1 : Int32) {B : Int} (hG : GI h0 L B σ)  {post : Int32 → HS → Prop} (kk : ∀ (r : Int32) (σ' : HS), OKM h0 L σ' → Fr h0 L [1, 16] [1, 2, 3, 4, 5, 6, 7, 8, 9, 10, 11, 12, 13] σ σ' → (GI h0 L B σ' ∧ (0 ≤ r.toInt ∧ r.toInt ≤ 1)) → post r σ') : F_X12_share h0 L a1 post σ := by
  unfold F_X12_share
  have k_m1 : ((-1) : Int32).toInt = (-1) := rfl
  have k_0 : (0 : Int32).toInt = 0 := rfl
  have k_1 : (1 : Int32).toInt = 1 := rfl
  have k_3 : (3 : Int32).toInt = 3 := rfl
  have k_4 : (4 : Int32).toInt = 4 := rfl
  have k_12 : (12 : Int32).toInt = 12 := rfl
  have k_33 : (33 : Int32).toInt = 33 := rfl
  have k_80 : (80 : Int32).toInt = 80 := rfl
  have k_92 : (92 : Int32).toInt = 92 := rfl
  have k_126 : (126 : Int32).toInt = 126 := rfl
  have rg_a1 := i_range a1
  have hfr : Fr h0 L [1, 16] [1, 2, 3, 4, 5, 6, 7, 8, 9, 10, 11, 12, 13] σ σ := Fr.rf
  intro z1 ez1
  have vz1 := hI.fI 1 0 8000 (by decide) rfl rfl rfl ez1
  have wz1 : z1.toInt = (sI σ h0 1).toInt := by rw [ez1]
  intro σ2 eσ2
  have hMp := hI.2
  have hI := hI.pF 1 0 8000 rfl rfl (by omega) eσ2
  have hfr := hfr.fI hMp eσ2 (by decide) rfl
  have uσ2 : (sI σ2 h0 1).toInt = (0 : Int32).toInt := by rw [eσ2]; exact congrArg Int32.toInt u2_same
  have f1σ2 : Fr h0 L [1] [] σ σ2 := Fr.rf.fI hMp eσ2 (by decide) rfl
  have tk1 : (sI σ2 h0 16).toInt = (sI σ h0 16).toInt := by rw [(f1σ2.1 16 (by decide)).1]
  have hG := hG.fr f1σ2 (by decide) (by decide)
  refine jn_dup ?_
  refine ⟨fun c1 => ?_, fun c1 => ?_⟩
  · (try dsimp only)
    refine ⟨by omega, ?_⟩
    exact kk 0 σ2 hI hfr ⟨hG, by omega⟩
  · refine ⟨fun c2 => ?_, fun c2 => ?_⟩
    · (try dsimp only)
      refine ⟨by omega, ?_⟩
      exact kk 0 σ2 hI hfr ⟨hG, by omega⟩
    · refine ⟨by omega, ?_⟩
      intro z8 ez8
      have vz8 := hI.aI 11 4 (-1) 79 (by decide) (by decide) rfl rfl rfl (i := a1.toInt) (by omega) ez8
      have wz8 : z8.toInt = (sI σ2 (L 11) a1.toInt.toNat).toInt := by rw [ez8]
      refine ⟨fun c3 => ?_, fun c3 => ?_⟩
      · (try dsimp only)
        refine ⟨by omega, ?_⟩
        exact kk 0 σ2 hI hfr ⟨hG, by omega⟩
      · refine ⟨fun c4 => ?_, fun c4 => ?_⟩
        · (try dsimp only)
          refine ⟨by omega, ?_⟩
          exact kk 0 σ2 hI hfr ⟨hG, by omega⟩
        · refine ⟨fun c5 => ?_, fun c5 => ?_⟩
          · refine lw_in (fun (x : Int32 × Int32) (σ' : HS) => σ2 = σ' ∧ ((0 ≤ x.1.toInt ∧ x.1.toInt ≤ 12) ∧ (0 ≤ x.2.toInt ∧ x.2.toInt ≤ 1))) (fun (x : Int32 × Int32) (σ' : HS) => (13 - x.1.toInt).toNat) ⟨rfl, (by (try dsimp only); omega)⟩ (fun x9 σ10 hJ K11 hK11 => ?_)
            obtain ⟨hsg, hv⟩ := hJ
            subst hsg
            (try dsimp only at hv)
            have rg_x9_1 := i_range x9.1
            have rg_x9_2 := i_range x9.2
            refine ⟨fun c6 => ?_, fun c6 => ?_⟩
            · refine lw_in (fun (x : Int32 × Int32) (σ' : HS) => σ2 = σ' ∧ ((0 ≤ x.1.toInt ∧ x.1.toInt ≤ 4) ∧ (0 ≤ x.2.toInt ∧ x.2.toInt ≤ 1))) (fun (x : Int32 × Int32) (σ' : HS) => (5 - x.1.toInt).toNat) ⟨rfl, (by (try dsimp only); omega)⟩ (fun x13 σ14 hJ K15 hK15 => ?_)
              obtain ⟨hsg, hv⟩ := hJ
              subst hsg
              (try dsimp only at hv)
              have rg_x13_1 := i_range x13.1
              have rg_x13_2 := i_range x13.2
              refine jn_in (fun (x : Unit) (σ' : HS) => σ2 = σ' ∧ (True)) (fun x17 σ18 hJ => ?_) (fun K19 hK19 => ?_)
              · obtain ⟨hsg, hv⟩ := hJ
                subst hsg
                (try dsimp only at hv)
                refine jn_dup ?_
                refine ⟨fun c7 => ?_, fun c7 => ?_⟩
                · (try dsimp only)
                  refine ⟨by omega, ?_⟩
                  exact kk 0 σ2 hI hfr ⟨hG, by omega⟩
                · refine s_X12_nodes hI 0 (by omega) (fun z28 pz28 => ?_)
                  have rg_z28 := i_range z28
                  refine ⟨fun c8 => ?_, fun c8 => ?_⟩
                  · have hIp := hI
                    refine s_X12_allCome hI  hG.allCome (fun σ29 hI fz30 pz30 => ?_)
                    have hfr := hfr.tr fz30 (by decide) (by decide)
                    have hG := hG.come hIp fz30 pz30.1 pz30.2
                    have hG29 := hG
                    have hI29 := hI
                    refine s_X12_freeNode hI   (fun z32 pz32 => ?_)
                    have rg_z32 := i_range z32
                    have lt32 : z32.toInt < 80 := by have q : z32.toInt ≠ 80 := fun e => (fun q => by have q2 := pz28.2 (by omega) q; omega) (fun o ho => (congrArg (fun x => x.1) ((vw0 o).symm.trans (((pz30.2 o ho).2).symm.trans (vw0 o)))).trans (pz32.2.2 e o ho)); omega
                    have dd32 : (vw L σ29 0 z32.toInt.toNat).1 ≠ 1 := by rw [vw0]; show (sI σ29 (L 1) z32.toInt.toNat).toInt ≠ 1; have q := pz32.2.1 lt32; omega
                    refine lw_in (fun (x : Int32) (σ' : HS) => OKM h0 L σ' ∧ Fr h0 L [1, 16] [1, 2, 3, 4, 5, 6, 7, 8, 9, 10, 11, 12, 13] σ σ' ∧ ((0 ≤ x.toInt ∧ x.toInt ≤ 160) ∧ (x.toInt = 0 ∨ x.toInt = 80 ∨ x.toInt = 160)) ∧ (SHs L σ29 σ' z32.toInt.toNat x.toInt) ∧ (Fr h0 L [] [1, 2, 3, 5, 6, 7, 8] σ29 σ')) (fun (x : Int32) (σ' : HS) => (161 - x.toInt).toNat) ⟨hI, hfr, (by (try dsimp only); omega), SHs.rf, Fr.rf⟩ (fun x33 σ34 hJ K35 hK35 => ?_)
                    obtain ⟨hI, hfr, hv, hS, hF0⟩ := hJ
                    (try dsimp only at hv)
                    have rg_x33 := i_range x33
                    refine ⟨fun c9 => ?_, fun c9 => ?_⟩
                    · refine ⟨by omega, ?_⟩
                      intro σ37 eσ37
                      have hMp := hI.2
                      have hI := hI.pA 10 0 1 (by decide) (by decide) rfl rfl (i_bool _) eσ37
                      have hfr := hfr.aI hMp (by decide) eσ37 (by decide)
                      have f1σ37 : Fr h0 L [] [10] σ34 σ37 := Fr.rf.aI hMp (by decide) eσ37 (by decide)
                      have tk3 : (sI σ37 h0 16).toInt = (sI σ34 h0 16).toInt := by rw [(f1σ37.1 16 (by decide)).1]
                      refine ⟨by omega, ?_⟩
                      intro σ38 eσ38
                      have hMp := hI.2
                      have hI := hI.pA 11 (-1) 79 (by decide) (by decide) rfl rfl (by omega) eσ38
                      have hfr := hfr.aI hMp (by decide) eσ38 (by decide)
                      have f1σ38 : Fr h0 L [] [11] σ37 σ38 := Fr.rf.aI hMp (by decide) eσ38 (by decide)
                      have tk4 : (sI σ38 h0 16).toInt = (sI σ37 h0 16).toInt := by rw [(f1σ38.1 16 (by decide)).1]
                      refine ⟨by omega, ?_⟩
                      intro σ39 eσ39
                      have hMp := hI.2
                      have hI := hI.pA 13 0 12 (by decide) (by decide) rfl rfl (by omega) eσ39
                      have hfr := hfr.aI hMp (by decide) eσ39 (by decide)
                      have f1σ39 : Fr h0 L [] [13] σ38 σ39 := Fr.rf.aI hMp (by decide) eσ39 (by decide)
                      have tk5 : (sI σ39 h0 16).toInt = (sI σ38 h0 16).toInt := by rw [(f1σ39.1 16 (by decide)).1]
                      refine lw_in (fun (x : Int32) (σ' : HS) => OKM h0 L σ' ∧ Fr h0 L [1, 16] [1, 2, 3, 4, 5, 6, 7, 8, 9, 10, 11, 12, 13] σ σ' ∧ ((0 ≤ x.toInt ∧ x.toInt ≤ 12)) ∧ (SHs L σ29 σ' z32.toInt.toNat x33.toInt) ∧ (Fr h0 L [] [1, 2, 3, 5, 6, 7, 8, 10, 11, 12, 13] σ29 σ') ∧ (∀ o : Nat, (o = z32.toInt.toNat → (sI σ' (L 10) o).toInt ≠ 1) ∧ (o ≠ z32.toInt.toNat → (sI σ' (L 10) o).toInt = (sI σ29 (L 10) o).toInt)) ∧ (∀ s : Nat, (s = a1.toInt.toNat → rts L σ' s = z32.toInt.toNat) ∧ (s ≠ a1.toInt.toNat → rts L σ' s = rts L σ29 s))) (fun (x : Int32) (σ' : HS) => (13 - x.toInt).toNat) ⟨hI, hfr, (by (try dsimp only); omega), (hS.fr (show Fr h0 L [] [10, 11, 13] σ34 σ39 from ((Fr.rf.tr f1σ37 (by decide) (by decide)).tr f1σ38 (by decide) (by decide)).tr f1σ39 (by decide) (by decide)) (by decide)), ((((Fr.rf.tr hF0 (by decide) (by decide)).tr f1σ37 (by decide) (by decide)).tr f1σ38 (by decide) (by decide)).tr f1σ39 (by decide) (by decide)), (fun o => by rw [(f1σ39.2.1 10 (by decide) (by decide) o).1, (f1σ38.2.1 10 (by decide) (by decide) o).1]; rcases atI eσ37 o with ⟨a, b⟩ | ⟨a, b⟩; (rw [b]; exact ⟨fun _ => by decide, fun h => absurd a h⟩); (rw [b, (hF0.2.1 10 (by decide) (by decide) o).1]; exact ⟨fun h => absurd h a, fun _ => rfl⟩)), (fun s => by rw [rts_ff f1σ39 (by decide)]; unfold rts; rcases atI eσ38 s with ⟨a, b⟩ | ⟨a, b⟩; (rw [b]; exact ⟨fun _ => by omega, fun h => absurd a h⟩); (rw [b, (f1σ37.2.1 11 (by decide) (by decide) s).1, (hF0.2.1 11 (by decide) (by decide) s).1]; exact ⟨fun h => absurd h a, fun _ => rfl⟩))⟩ (fun x40 σ41 hJ K42 hK42 => ?_)
                      obtain ⟨hI, hfr, hv, hS, hF, h10, h11⟩ := hJ
                      (try dsimp only at hv)
                      have rg_x40 := i_range x40
                      refine ⟨fun c10 => ?_, fun c10 => ?_⟩
                      · refine ⟨by omega, ?_⟩
                        exact kk 1 σ41 hI hfr ⟨hG29.share (r := z32.toInt.toNat) (i := a1.toInt.toNat) hI29 pz30.1 hF (by decide) (by decide) (by omega) dd32 (fun o ho => hS.fin (by omega) o ho) h10 h11, by omega⟩
                      · intro z44 ez44
                        try have hz44 := i_mulk 12 rfl ez44 (by omega) (by omega)
                        have rg_z44 := i_range z44
                        intro z45 ez45
                        try have hz45 := i_add ez45 (by omega) (by omega)
                        have rg_z45 := i_range z45
                        refine ⟨by omega, ?_⟩
                        intro z46 ez46
                        have vz46 := hI.aI 0 8000 (-128) 127 (by decide) (by decide) rfl rfl rfl (i := x40.toInt) (by omega) ez46
                        have wz46 : z46.toInt = (sI σ41 (L 0) x40.toInt.toNat).toInt := by rw [ez46]
                        refine ⟨by omega, ?_⟩
                        intro σ47 eσ47
                        have hMp := hI.2
                        have hI := hI.pA 12 (-128) 127 (by decide) (by decide) rfl rfl (i_byte _) eσ47
                        have hfr := hfr.aI hMp (by decide) eσ47 (by decide)
                        have f1σ47 : Fr h0 L [] [12] σ41 σ47 := Fr.rf.aI hMp (by decide) eσ47 (by decide)
                        have tk6 : (sI σ47 h0 16).toInt = (sI σ41 h0 16).toInt := by rw [(f1σ47.1 16 (by decide)).1]
                        intro z48 ez48
                        try have hz48 := i_add ez48 (by omega) (by omega)
                        have rg_z48 := i_range z48
                        exact hK42 z48 σ47 ⟨hI, hfr, (by (try dsimp only); omega), (hS.fr f1σ47 (by decide)), (hF.tr f1σ47 (by decide) (by decide)), (fun o => by rw [(f1σ47.2.1 10 (by decide) (by decide) o).1]; exact h10 o), (fun s => by rw [rts_ff f1σ47 (by decide)]; exact h11 s)⟩ (by (try dsimp only); omega)
                    · intro z49 ez49
                      try have hz49 := i_add ez49 (by omega) (by omega)
                      have rg_z49 := i_range z49
                      refine ⟨by omega, ?_⟩
                      intro σ50 eσ50
                      have hMp := hI.2
                      have hI := hI.pA 1 0 1 (by decide) (by decide) rfl rfl (i_bool _) eσ50
                      have hfr := hfr.aI hMp (by decide) eσ50 (by decide)
                      have f1σ50 : Fr h0 L [] [1] σ34 σ50 := Fr.rf.aI hMp (by decide) eσ50 (by decide)
                      have tk7 : (sI σ50 h0 16).toInt = (sI σ34 h0 16).toInt := by rw [(f1σ50.1 16 (by decide)).1]
                      have hM34 := hMp
                      intro z51 ez51
                      try have hz51 := i_add ez51 (by omega) (by omega)
                      have rg_z51 := i_range z51
                      refine ⟨by omega, ?_⟩
                      intro σ52 eσ52
                      have hMp := hI.2
                      have hI := hI.pA 2 (-1) 79 (by decide) (by decide) rfl rfl (by omega) eσ52
                      have hfr := hfr.aI hMp (by decide) eσ52 (by decide)
                      have f1σ52 : Fr h0 L [] [2] σ50 σ52 := Fr.rf.aI hMp (by decide) eσ52 (by decide)
                      have tk8 : (sI σ52 h0 16).toInt = (sI σ50 h0 16).toInt := by rw [(f1σ52.1 16 (by decide)).1]
                      intro z53 ez53
                      try have hz53 := i_add ez53 (by omega) (by omega)
                      have rg_z53 := i_range z53
                      refine ⟨by omega, ?_⟩
                      intro σ54 eσ54
                      have hMp := hI.2
                      have hI := hI.pA 3 0 1 (by decide) (by decide) rfl rfl (i_bool _) eσ54
                      have hfr := hfr.aI hMp (by decide) eσ54 (by decide)
                      have f1σ54 : Fr h0 L [] [3] σ52 σ54 := Fr.rf.aI hMp (by decide) eσ54 (by decide)
                      have tk9 : (sI σ54 h0 16).toInt = (sI σ52 h0 16).toInt := by rw [(f1σ54.1 16 (by decide)).1]
                      have e52 : σ52 = h_uI σ50 (L 2) z49.toInt.toNat (-1) := by rw [eσ52, show z51.toInt.toNat = z49.toInt.toNat by omega]
                      have e54 : σ54 = h_uI σ52 (L 3) z49.toInt.toNat (vp_nar .boolean 1) := by rw [eσ54, show z53.toInt.toNat = z49.toInt.toNat by omega]
                      intro z55 ez55
                      try have hz55 := i_add ez55 (by omega) (by omega)
                      have rg_z55 := i_range z55
                      refine ⟨by omega, ?_⟩
                      intro σ56 eσ56
                      have hMp := hI.2
                      have hI := hI.pA 5 0 12 (by decide) (by decide) rfl rfl (by omega) eσ56
                      have hfr := hfr.aI hMp (by decide) eσ56 (by decide)
                      have f1σ56 : Fr h0 L [] [5] σ54 σ56 := Fr.rf.aI hMp (by decide) eσ56 (by decide)
                      have tk10 : (sI σ56 h0 16).toInt = (sI σ54 h0 16).toInt := by rw [(f1σ56.1 16 (by decide)).1]
                      intro z57 ez57
                      try have hz57 := i_add ez57 (by omega) (by omega)
                      have rg_z57 := i_range z57
                      refine ⟨by omega, ?_⟩
                      intro σ58 eσ58
                      have hMp := hI.2
                      have hI := hI.pA 6 (-2147483648) 2147483647 (by decide) (by decide) rfl rfl (by omega) eσ58
                      have hfr := hfr.aI hMp (by decide) eσ58 (by decide)
                      have f1σ58 : Fr h0 L [] [6] σ56 σ58 := Fr.rf.aI hMp (by decide) eσ58 (by decide)
                      have tk11 : (sI σ58 h0 16).toInt = (sI σ56 h0 16).toInt := by rw [(f1σ58.1 16 (by decide)).1]
                      intro z59 ez59
                      try have hz59 := i_add ez59 (by omega) (by omega)
                      have rg_z59 := i_range z59
                      refine ⟨by omega, ?_⟩
                      intro σ60 eσ60
                      have hMp := hI.2
                      have hI := hI.pA 8 0 4096 (by decide) (by decide) rfl rfl (by omega) eσ60
                      have hfr := hfr.aI hMp (by decide) eσ60 (by decide)
                      have f1σ60 : Fr h0 L [] [8] σ58 σ60 := Fr.rf.aI hMp (by decide) eσ60 (by decide)
                      have tk12 : (sI σ60 h0 16).toInt = (sI σ58 h0 16).toInt := by rw [(f1σ60.1 16 (by decide)).1]
                      refine lw_in (fun (x : Int32) (σ' : HS) => OKM h0 L σ' ∧ Fr h0 L [1, 16] [1, 2, 3, 4, 5, 6, 7, 8, 9, 10, 11, 12, 13] σ σ' ∧ ((0 ≤ x.toInt ∧ x.toInt ≤ 4)) ∧ (SHs L σ29 σ' z32.toInt.toNat (x33.toInt + 80)) ∧ (Fr h0 L [] [1, 2, 3, 5, 6, 7, 8] σ29 σ')) (fun (x : Int32) (σ' : HS) => (5 - x.toInt).toNat) ⟨hI, hfr, (by (try dsimp only); omega), (SHs.fr (hS.st (k := z49.toInt.toNat) (by omega) (by omega) (by omega) (fun b o => node_st hM34 eσ50 e52 e54 b o)) (show Fr h0 L [] [5, 6, 8] σ54 σ60 from ((Fr.rf.tr f1σ56 (by decide) (by decide)).tr f1σ58 (by decide) (by decide)).tr f1σ60 (by decide) (by decide)) (by decide)), ((((((hF0.tr f1σ50 (by decide) (by decide)).tr f1σ52 (by decide) (by decide)).tr f1σ54 (by decide) (by decide)).tr f1σ56 (by decide) (by decide)).tr f1σ58 (by decide) (by decide)).tr f1σ60 (by decide) (by decide))⟩ (fun x61 σ62 hJ K63 hK63 => ?_)
                      obtain ⟨hI, hfr, hv, hS2, hF0⟩ := hJ
                      (try dsimp only at hv)
                      have rg_x61 := i_range x61
                      refine ⟨fun c11 => ?_, fun c11 => ?_⟩
                      · intro z65 ez65
                        try have hz65 := i_add ez65 (by omega) (by omega)
                        have rg_z65 := i_range z65
                        exact hK35 z65 σ62 ⟨hI, hfr, (by (try dsimp only); omega), (by rw [show z65.toInt = x33.toInt + 80 by omega]; exact hS2), (by first | exact hF0 | exact hF0.tr f1σ70 (by decide) (by decide))⟩ (by (try dsimp only); omega)
                      · intro z66 ez66
                        try have hz66 := i_add ez66 (by omega) (by omega)
                        have rg_z66 := i_range z66
                        intro z67 ez67
                        try have hz67 := i_mulk 4 rfl ez67 (by omega) (by omega)
                        have rg_z67 := i_range z67
                        intro z68 ez68
                        try have hz68 := i_add ez68 (by omega) (by omega)
                        have rg_z68 := i_range z68
                        intro z69 ez69
                        have wz69 : z69.toInt = (sJ σ62 h0 2).toInt := by rw [ez69]
                        have vz69 := l_range z69
                        refine ⟨by omega, ?_⟩
                        intro σ70 eσ70
                        have hMp := hI.2
                        have hI := hI.pJ eσ70
                        have hfr := hfr.aJ hMp (by decide) eσ70 (by decide)
                        have f1σ70 : Fr h0 L [] [7] σ62 σ70 := Fr.rf.aJ hMp (by decide) eσ70 (by decide)
                        have tk13 : (sI σ70 h0 16).toInt = (sI σ62 h0 16).toInt := by rw [(f1σ70.1 16 (by decide)).1]
                        intro z71 ez71
                        try have hz71 := i_add ez71 (by omega) (by omega)
                        have rg_z71 := i_range z71
                        exact hK63 z71 σ70 ⟨hI, hfr, (by (try dsimp only); omega), (hS2.fr f1σ70 (by decide)), (by first | exact hF0 | exact hF0.tr f1σ70 (by decide) (by decide))⟩ (by (try dsimp only); omega)
                  · (try dsimp only)
                    refine ⟨by omega, ?_⟩
                    exact kk 0 σ2 hI hfr ⟨hG, by omega⟩
              · skip
                refine ⟨fun c12 => ?_, fun c12 => ?_⟩
                · exact hK19 () σ2 ⟨rfl, trivial⟩
                · refine ⟨fun c13 => ?_, fun c13 => ?_⟩
                  · exact hK19 () σ2 ⟨rfl, trivial⟩
                  · refine ⟨by omega, ?_⟩
                    intro z72 ez72
                    have vz72 := hI.aI 11 4 (-1) 79 (by decide) (by decide) rfl rfl rfl (i := x13.1.toInt) (by omega) ez72
                    have wz72 : z72.toInt = (sI σ2 (L 11) x13.1.toInt.toNat).toInt := by rw [ez72]
                    refine jn_in (fun (x : Int32) (σ' : HS) => σ2 = σ' ∧ ((0 ≤ x.toInt ∧ x.toInt ≤ 1))) (fun x73 σ74 hJ => ?_) (fun K75 hK75 => ?_)
                    · obtain ⟨hsg, hv⟩ := hJ
                      subst hsg
                      (try dsimp only at hv)
                      have rg_x73 := i_range x73
                      refine lw_in (fun (x : Int32 × Int32) (σ' : HS) => σ2 = σ' ∧ ((0 ≤ x.1.toInt ∧ x.1.toInt ≤ 12) ∧ (0 ≤ x.2.toInt ∧ x.2.toInt ≤ 1))) (fun (x : Int32 × Int32) (σ' : HS) => (13 - x.1.toInt).toNat) ⟨rfl, (by (try dsimp only); omega)⟩ (fun x78 σ79 hJ K80 hK80 => ?_)
                      obtain ⟨hsg, hv⟩ := hJ
                      subst hsg
                      (try dsimp only at hv)
                      have rg_x78_1 := i_range x78.1
                      have rg_x78_2 := i_range x78.2
                      refine jn_dup ?_
                      refine ⟨fun c14 => ?_, fun c14 => ?_⟩
                      · (try dsimp only)
                        refine jn_dup ?_
                        refine ⟨fun c15 => ?_, fun c15 => ?_⟩
                        · (try dsimp only)
                          intro z92 ez92
                          try have hz92 := i_add ez92 (by omega) (by omega)
                          have rg_z92 := i_range z92
                          exact hK15 (z92, 0) σ2 ⟨rfl, (by (try dsimp only); omega)⟩ (by (try dsimp only); omega)
                        · (try dsimp only)
                          intro z92 ez92
                          try have hz92 := i_add ez92 (by omega) (by omega)
                          have rg_z92 := i_range z92
                          exact hK15 (z92, 1) σ2 ⟨rfl, (by (try dsimp only); omega)⟩ (by (try dsimp only); omega)
                      · refine ⟨fun c16 => ?_, fun c16 => ?_⟩
                        · (try dsimp only)
                          refine jn_dup ?_
                          refine ⟨fun c17 => ?_, fun c17 => ?_⟩
                          · (try dsimp only)
                            intro z92 ez92
                            try have hz92 := i_add ez92 (by omega) (by omega)
                            have rg_z92 := i_range z92
                            exact hK15 (z92, 0) σ2 ⟨rfl, (by (try dsimp only); omega)⟩ (by (try dsimp only); omega)
                          · (try dsimp only)
                            intro z92 ez92
                            try have hz92 := i_add ez92 (by omega) (by omega)
                            have rg_z92 := i_range z92
                            exact hK15 (z92, 1) σ2 ⟨rfl, (by (try dsimp only); omega)⟩ (by (try dsimp only); omega)
                        · intro z93 ez93
                          try have hz93 := i_mulk 12 rfl ez93 (by omega) (by omega)
                          have rg_z93 := i_range z93
                          intro z94 ez94
                          try have hz94 := i_add ez94 (by omega) (by omega)
                          have rg_z94 := i_range z94
                          refine ⟨by omega, ?_⟩
                          intro z95 ez95
                          have vz95 := hI.aI 12 48 (-128) 127 (by decide) (by decide) rfl rfl rfl (i := z94.toInt) (by omega) ez95
                          have wz95 : z95.toInt = (sI σ2 (L 12) z94.toInt.toNat).toInt := by rw [ez95]
                          refine s_X12_folded hI z95  (fun z97 pz97 => ?_)
                          have rg_z97 := i_range z97
                          refine ⟨by omega, ?_⟩
                          intro z98 ez98
                          have vz98 := hI.aI 0 8000 (-128) 127 (by decide) (by decide) rfl rfl rfl (i := x78.1.toInt) (by omega) ez98
                          have wz98 : z98.toInt = (sI σ2 (L 0) x78.1.toInt.toNat).toInt := by rw [ez98]
                          refine s_X12_folded hI z98  (fun z100 pz100 => ?_)
                          have rg_z100 := i_range z100
                          refine jn_dup ?_
                          refine ⟨fun c18 => ?_, fun c18 => ?_⟩
                          · (try dsimp only)
                            intro z106 ez106
                            try have hz106 := i_add ez106 (by omega) (by omega)
                            have rg_z106 := i_range z106
                            exact hK80 (z106, 0) σ2 ⟨rfl, (by (try dsimp only); omega)⟩ (by (try dsimp only); omega)
                          · (try dsimp only)
                            intro z106 ez106
                            try have hz106 := i_add ez106 (by omega) (by omega)
                            have rg_z106 := i_range z106
                            exact hK80 (z106, 1) σ2 ⟨rfl, (by (try dsimp only); omega)⟩ (by (try dsimp only); omega)
                    · skip
                      refine jn_dup ?_
                      refine ⟨fun c19 => ?_, fun c19 => ?_⟩
                      · (try dsimp only)
                        exact hK75 0 σ2 ⟨rfl, (by (try dsimp only); omega)⟩
                      · refine ⟨by omega, ?_⟩
                        intro z112 ez112
                        have vz112 := hI.aI 13 4 0 12 (by decide) (by decide) rfl rfl rfl (i := x13.1.toInt) (by omega) ez112
                        have wz112 : z112.toInt = (sI σ2 (L 13) x13.1.toInt.toNat).toInt := by rw [ez112]
                        refine ⟨fun c20 => ?_, fun c20 => ?_⟩
                        · (try dsimp only)
                          exact hK75 0 σ2 ⟨rfl, (by (try dsimp only); omega)⟩
                        · exact hK75 1 σ2 ⟨rfl, (by (try dsimp only); omega)⟩
            · refine jn_dup ?_
              refine jn_dup ?_
              refine ⟨fun c21 => ?_, fun c21 => ?_⟩
              · (try dsimp only)
                (try dsimp only)
                intro z118 ez118
                try have hz118 := i_add ez118 (by omega) (by omega)
                have rg_z118 := i_range z118
                exact hK11 (z118, 0) σ2 ⟨rfl, (by (try dsimp only); omega)⟩ (by (try dsimp only); omega)
              · refine ⟨by omega, ?_⟩
                intro z124 ez124
                have vz124 := hI.aI 0 8000 (-128) 127 (by decide) (by decide) rfl rfl rfl (i := x9.1.toInt) (by omega) ez124
                have wz124 : z124.toInt = (sI σ2 (L 0) x9.1.toInt.toNat).toInt := by rw [ez124]
                refine ⟨fun c22 => ?_, fun c22 => ?_⟩
                · (try dsimp only)
                  (try dsimp only)
                  intro z118 ez118
                  try have hz118 := i_add ez118 (by omega) (by omega)
                  have rg_z118 := i_range z118
                  exact hK11 (z118, 0) σ2 ⟨rfl, (by (try dsimp only); omega)⟩ (by (try dsimp only); omega)
                · refine ⟨by omega, ?_⟩
                  intro z125 ez125
                  have vz125 := hI.aI 0 8000 (-128) 127 (by decide) (by decide) rfl rfl rfl (i := x9.1.toInt) (by omega) ez125
                  have wz125 : z125.toInt = (sI σ2 (L 0) x9.1.toInt.toNat).toInt := by rw [ez125]
                  refine ⟨fun c23 => ?_, fun c23 => ?_⟩
                  · (try dsimp only)
                    (try dsimp only)
                    intro z118 ez118
                    try have hz118 := i_add ez118 (by omega) (by omega)
                    have rg_z118 := i_range z118
                    exact hK11 (z118, 0) σ2 ⟨rfl, (by (try dsimp only); omega)⟩ (by (try dsimp only); omega)
                  · refine ⟨by omega, ?_⟩
                    intro z126 ez126
                    have vz126 := hI.aI 0 8000 (-128) 127 (by decide) (by decide) rfl rfl rfl (i := x9.1.toInt) (by omega) ez126
                    have wz126 : z126.toInt = (sI σ2 (L 0) x9.1.toInt.toNat).toInt := by rw [ez126]
                    refine ⟨fun c24 => ?_, fun c24 => ?_⟩
                    · (try dsimp only)
                      (try dsimp only)
                      intro z118 ez118
                      try have hz118 := i_add ez118 (by omega) (by omega)
                      have rg_z118 := i_range z118
                      exact hK11 (z118, 0) σ2 ⟨rfl, (by (try dsimp only); omega)⟩ (by (try dsimp only); omega)
                    · (try dsimp only)
                      intro z118 ez118
                      try have hz118 := i_add ez118 (by omega) (by omega)
                      have rg_z118 := i_range z118
                      exact hK11 (z118, 1) σ2 ⟨rfl, (by (try dsimp only); omega)⟩ (by (try dsimp only); omega)
          · (try dsimp only)
            refine ⟨by omega, ?_⟩
            exact kk 0 σ2 hI hfr ⟨hG, by omega⟩

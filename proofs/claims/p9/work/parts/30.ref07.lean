/-! the reference, lifted: 7 -/
def F_X12_fileOf (h0 : Nat) (L : Nat → Nat) (a0 : Int32) (post : Int32 → HS → Prop) (σ : HS) : Prop := jn (fun (K3 : Unit → HS → Prop) => jn (fun (K8 : Unit → HS → Prop) => jn (fun (K13 : Unit → HS → Prop) => ((a0.toInt < 6 ∨ 18 < a0.toInt) → K3 () σ) ∧ ((a0.toInt = 6) → K13 () σ) ∧ ((a0.toInt = 7) → K13 () σ) ∧ ((a0.toInt = 8) → K8 () σ) ∧ ((a0.toInt = 9) → K8 () σ) ∧ ((a0.toInt = 10) → K13 () σ) ∧ ((a0.toInt = 11) → K3 () σ) ∧ ((a0.toInt = 12) → K3 () σ) ∧ ((a0.toInt = 13) → K3 () σ) ∧ ((a0.toInt = 14) → K13 () σ) ∧ ((a0.toInt = 15) → K3 () σ) ∧ ((a0.toInt = 16) → post 88 σ) ∧ ((a0.toInt = 17) → K8 () σ) ∧ ((a0.toInt = 18) → K13 () σ)) (fun (x11 : Unit) (σ12 : HS) => post 72 σ12)) (fun (x6 : Unit) (σ7 : HS) => post 80 σ7)) (fun (x1 : Unit) (σ2 : HS) => post 0 σ2)
theorem dX12_fileOf_0 : decode cX12_fileOf 0 = .ok (.iload_n 0, 1) := by decide +kernel
theorem dX12_fileOf_1 : decode cX12_fileOf 1 = .ok (.tableswitch 76 6 18 #[67, 67, 70, 70, 67, 76, 76, 76, 67, 76, 73, 70, 67], 67) := by decide +kernel
theorem dX12_fileOf_68 : decode cX12_fileOf 68 = .ok (.bipush 72, 2) := by decide +kernel
theorem dX12_fileOf_70 : decode cX12_fileOf 70 = .ok (.ireturn, 1) := by decide +kernel
theorem dX12_fileOf_71 : decode cX12_fileOf 71 = .ok (.bipush 80, 2) := by decide +kernel
theorem dX12_fileOf_73 : decode cX12_fileOf 73 = .ok (.ireturn, 1) := by decide +kernel
theorem dX12_fileOf_74 : decode cX12_fileOf 74 = .ok (.bipush 88, 2) := by decide +kernel
theorem dX12_fileOf_76 : decode cX12_fileOf 76 = .ok (.ireturn, 1) := by decide +kernel
theorem dX12_fileOf_77 : decode cX12_fileOf 77 = .ok (.iconst 0, 1) := by decide +kernel
theorem dX12_fileOf_78 : decode cX12_fileOf 78 = .ok (.ireturn, 1) := by decide +kernel
set_option maxRecDepth 100000 in
set_option maxHeartbeats 4000000 in
theorem c_X12_fileOf (l : Launch) (D : va_G) (t : Nat → ClassId) (h0 : Nat) (L : Nat → Nat) (σ : HS) (hM : MdI h0 L σ) (a0 : Int32) (post : Int32 → HS → Prop) (hw : F_X12_fileOf h0 L a0 post σ) (sz : Nat) : RMi l D t yX12_fileOf cX12_fileOf 1 (some .int) ({ frames := 0, cells := 0, slots := 0, locals := 0 }) h0 L σ sz [.int a0] post := by
  refine h_go (τ := τT) okT (by decide) (Nat.le_of_ble_eq_true rfl) ?_
  intro p e s m below meth c ls A hF hr hlk hAe hH0 hA hl
  unfold hB
  rw [hAe]
  clear hAe
  have hF : FX p m c cX12_fileOf 1 s _ RX12 D t := hF
  have hx := hF.1.1
  have hb := hF.1.2.1
  have hH : RT D t A s.heap h0 L σ s.heap [] := ⟨hH0, hM⟩
  have hl : lv_has ls 1 [(0, .int a0)] := hl
  unfold F_X12_fileOf at hw
  refine lv_iload_n hx hb dX12_fileOf_0 rfl (lv_at hl 0 rfl) ?_
  obtain ⟨K3, hK4, hw⟩ := jn_open hw
  refine w_join (K := K3) 77 (fun (x1 : Unit) => []) (fun (x1 : Unit) => []) hl hH (fun x1 σ2 ls H locs hl hw hH => ?_) (fun jn5 => ?_)
  · have hw := hK4 x1 σ2 hw
    have hl : lv_has ls 1 [] := hl
    refine lv_iconst (v := 0) hx hb dX12_fileOf_77 (by decide) ?_
    exact w_reti hF hH hr hlk rfl dX12_fileOf_78 hw
  · skip
    obtain ⟨K8, hK9, hw⟩ := jn_open hw
    refine w_join (K := K8) 71 (fun (x6 : Unit) => []) (fun (x6 : Unit) => []) hl hH (fun x6 σ7 ls H locs hl hw hH => ?_) (fun jn10 => ?_)
    · have hw := hK9 x6 σ7 hw
      have hl : lv_has ls 1 [] := hl
      refine lv_bipush (v := 80) hx hb dX12_fileOf_71 (by decide) ?_
      exact w_reti hF hH hr hlk rfl dX12_fileOf_73 hw
    · skip
      obtain ⟨K13, hK14, hw⟩ := jn_open hw
      refine w_join (K := K13) 68 (fun (x11 : Unit) => []) (fun (x11 : Unit) => []) hl hH (fun x11 σ12 ls H locs hl hw hH => ?_) (fun jn15 => ?_)
      · have hw := hK14 x11 σ12 hw
        have hl : lv_has ls 1 [] := hl
        refine lv_bipush (v := 72) hx hb dX12_fileOf_68 (by decide) ?_
        exact w_reti hF hH hr hlk rfl dX12_fileOf_70 hw
      · skip
        by_cases ho : a0.toInt < 6 ∨ 18 < a0.toInt
        · have hw := hw.1 ho
          refine lv_tableOut (tgt := 77) hx hb dX12_fileOf_1 ho rfl ?_
          have hl : lv_has ls 1 [] := lv_sub hl [] rfl
          exact jn5 () σ ls _ _ hl hw hH
        · rcases (show a0.toInt = 6 ∨ a0.toInt = 7 ∨ a0.toInt = 8 ∨ a0.toInt = 9 ∨ a0.toInt = 10 ∨ a0.toInt = 11 ∨ a0.toInt = 12 ∨ a0.toInt = 13 ∨ a0.toInt = 14 ∨ a0.toInt = 15 ∨ a0.toInt = 16 ∨ a0.toInt = 17 ∨ a0.toInt = 18 by omega) with zt | zt | zt | zt | zt | zt | zt | zt | zt | zt | zt | zt | zt
          · have hw := hw.2.1 zt
            have hoff : (#[67, 67, 70, 70, 67, 76, 76, 76, 67, 76, 73, 70, 67] : Array Int)[(a0.toInt - 6).toNat]? = some 67 := by rw [zt]; rfl
            refine lv_tableIn (off := 67) (tgt := 68) hx hb dX12_fileOf_1 (fun q => ho (Or.inl q)) (fun q => ho (Or.inr q)) hoff rfl ?_
            have hl : lv_has ls 1 [] := lv_sub hl [] rfl
            exact jn15 () σ ls _ _ hl hw hH
          · have hw := hw.2.2.1 zt
            have hoff : (#[67, 67, 70, 70, 67, 76, 76, 76, 67, 76, 73, 70, 67] : Array Int)[(a0.toInt - 6).toNat]? = some 67 := by rw [zt]; rfl
            refine lv_tableIn (off := 67) (tgt := 68) hx hb dX12_fileOf_1 (fun q => ho (Or.inl q)) (fun q => ho (Or.inr q)) hoff rfl ?_
            have hl : lv_has ls 1 [] := lv_sub hl [] rfl
            exact jn15 () σ ls _ _ hl hw hH
          · have hw := hw.2.2.2.1 zt
            have hoff : (#[67, 67, 70, 70, 67, 76, 76, 76, 67, 76, 73, 70, 67] : Array Int)[(a0.toInt - 6).toNat]? = some 70 := by rw [zt]; rfl
            refine lv_tableIn (off := 70) (tgt := 71) hx hb dX12_fileOf_1 (fun q => ho (Or.inl q)) (fun q => ho (Or.inr q)) hoff rfl ?_
            have hl : lv_has ls 1 [] := lv_sub hl [] rfl
            exact jn10 () σ ls _ _ hl hw hH
          · have hw := hw.2.2.2.2.1 zt
            have hoff : (#[67, 67, 70, 70, 67, 76, 76, 76, 67, 76, 73, 70, 67] : Array Int)[(a0.toInt - 6).toNat]? = some 70 := by rw [zt]; rfl
            refine lv_tableIn (off := 70) (tgt := 71) hx hb dX12_fileOf_1 (fun q => ho (Or.inl q)) (fun q => ho (Or.inr q)) hoff rfl ?_
            have hl : lv_has ls 1 [] := lv_sub hl [] rfl
            exact jn10 () σ ls _ _ hl hw hH
          · have hw := hw.2.2.2.2.2.1 zt
            have hoff : (#[67, 67, 70, 70, 67, 76, 76, 76, 67, 76, 73, 70, 67] : Array Int)[(a0.toInt - 6).toNat]? = some 67 := by rw [zt]; rfl
            refine lv_tableIn (off := 67) (tgt := 68) hx hb dX12_fileOf_1 (fun q => ho (Or.inl q)) (fun q => ho (Or.inr q)) hoff rfl ?_
            have hl : lv_has ls 1 [] := lv_sub hl [] rfl
            exact jn15 () σ ls _ _ hl hw hH
          · have hw := hw.2.2.2.2.2.2.1 zt
            have hoff : (#[67, 67, 70, 70, 67, 76, 76, 76, 67, 76, 73, 70, 67] : Array Int)[(a0.toInt - 6).toNat]? = some 76 := by rw [zt]; rfl
            refine lv_tableIn (off := 76) (tgt := 77) hx hb dX12_fileOf_1 (fun q => ho (Or.inl q)) (fun q => ho (Or.inr q)) hoff rfl ?_
            have hl : lv_has ls 1 [] := lv_sub hl [] rfl
            exact jn5 () σ ls _ _ hl hw hH
          · have hw := hw.2.2.2.2.2.2.2.1 zt
            have hoff : (#[67, 67, 70, 70, 67, 76, 76, 76, 67, 76, 73, 70, 67] : Array Int)[(a0.toInt - 6).toNat]? = some 76 := by rw [zt]; rfl
            refine lv_tableIn (off := 76) (tgt := 77) hx hb dX12_fileOf_1 (fun q => ho (Or.inl q)) (fun q => ho (Or.inr q)) hoff rfl ?_
            have hl : lv_has ls 1 [] := lv_sub hl [] rfl
            exact jn5 () σ ls _ _ hl hw hH
          · have hw := hw.2.2.2.2.2.2.2.2.1 zt
            have hoff : (#[67, 67, 70, 70, 67, 76, 76, 76, 67, 76, 73, 70, 67] : Array Int)[(a0.toInt - 6).toNat]? = some 76 := by rw [zt]; rfl
            refine lv_tableIn (off := 76) (tgt := 77) hx hb dX12_fileOf_1 (fun q => ho (Or.inl q)) (fun q => ho (Or.inr q)) hoff rfl ?_
            have hl : lv_has ls 1 [] := lv_sub hl [] rfl
            exact jn5 () σ ls _ _ hl hw hH
          · have hw := hw.2.2.2.2.2.2.2.2.2.1 zt
            have hoff : (#[67, 67, 70, 70, 67, 76, 76, 76, 67, 76, 73, 70, 67] : Array Int)[(a0.toInt - 6).toNat]? = some 67 := by rw [zt]; rfl
            refine lv_tableIn (off := 67) (tgt := 68) hx hb dX12_fileOf_1 (fun q => ho (Or.inl q)) (fun q => ho (Or.inr q)) hoff rfl ?_
            have hl : lv_has ls 1 [] := lv_sub hl [] rfl
            exact jn15 () σ ls _ _ hl hw hH
          · have hw := hw.2.2.2.2.2.2.2.2.2.2.1 zt
            have hoff : (#[67, 67, 70, 70, 67, 76, 76, 76, 67, 76, 73, 70, 67] : Array Int)[(a0.toInt - 6).toNat]? = some 76 := by rw [zt]; rfl
            refine lv_tableIn (off := 76) (tgt := 77) hx hb dX12_fileOf_1 (fun q => ho (Or.inl q)) (fun q => ho (Or.inr q)) hoff rfl ?_
            have hl : lv_has ls 1 [] := lv_sub hl [] rfl
            exact jn5 () σ ls _ _ hl hw hH
          · have hw := hw.2.2.2.2.2.2.2.2.2.2.2.1 zt
            have hoff : (#[67, 67, 70, 70, 67, 76, 76, 76, 67, 76, 73, 70, 67] : Array Int)[(a0.toInt - 6).toNat]? = some 73 := by rw [zt]; rfl
            refine lv_tableIn (off := 73) (tgt := 74) hx hb dX12_fileOf_1 (fun q => ho (Or.inl q)) (fun q => ho (Or.inr q)) hoff rfl ?_
            refine lv_bipush (v := 88) hx hb dX12_fileOf_74 (by decide) ?_
            exact w_reti hF hH hr hlk rfl dX12_fileOf_76 hw
          · have hw := hw.2.2.2.2.2.2.2.2.2.2.2.2.1 zt
            have hoff : (#[67, 67, 70, 70, 67, 76, 76, 76, 67, 76, 73, 70, 67] : Array Int)[(a0.toInt - 6).toNat]? = some 70 := by rw [zt]; rfl
            refine lv_tableIn (off := 70) (tgt := 71) hx hb dX12_fileOf_1 (fun q => ho (Or.inl q)) (fun q => ho (Or.inr q)) hoff rfl ?_
            have hl : lv_has ls 1 [] := lv_sub hl [] rfl
            exact jn10 () σ ls _ _ hl hw hH
          · have hw := hw.2.2.2.2.2.2.2.2.2.2.2.2.2 zt
            have hoff : (#[67, 67, 70, 70, 67, 76, 76, 76, 67, 76, 73, 70, 67] : Array Int)[(a0.toInt - 6).toNat]? = some 67 := by rw [zt]; rfl
            refine lv_tableIn (off := 67) (tgt := 68) hx hb dX12_fileOf_1 (fun q => ho (Or.inl q)) (fun q => ho (Or.inr q)) hoff rfl ?_
            have hl : lv_has ls 1 [] := lv_sub hl [] rfl
            exact jn15 () σ ls _ _ hl hw hH
def F_X12_findSession (h0 : Nat) (L : Nat → Nat) (a1 : Int64) (post : Int32 → HS → Prop) (σ : HS) : Prop := lw (fun (K3 : Int32 → HS → Prop) (x1 : Int32) (σ2 : HS) => (((8 : Int32).toInt ≤ x1.toInt) → post (-1) σ2) ∧ ((x1.toInt < (8 : Int32).toInt) → jn (fun (K7 : Unit → HS → Prop) => ((a1.toInt = (0 : Int64).toInt) → K7 () σ2) ∧ ((¬ a1.toInt = (0 : Int64).toInt) → (0 ≤ x1.toInt ∧ x1.toInt < 8) ∧ ∀ z11 : Int64, z11 = sJ σ2 (L 34) x1.toInt.toNat → ((¬ z11.toInt = a1.toInt) → K7 () σ2) ∧ ((z11.toInt = a1.toInt) → (0 ≤ x1.toInt ∧ x1.toInt < 8) ∧ ∀ z12 : Int32, z12 = sI σ2 (L 35) x1.toInt.toNat → ∀ z13 : Int32, z13 = sI σ2 h0 88 → ((¬ z12.toInt = z13.toInt) → K7 () σ2) ∧ ((z12.toInt = z13.toInt) → post x1 σ2)))) (fun (x5 : Unit) (σ6 : HS) => ∀ z10 : Int32, z10 = x1 + 1 → K3 z10 σ6))) 0 σ
theorem dX12_findSession_0 : decode cX12_findSession 0 = .ok (.iconst 0, 1) := by decide +kernel
theorem dX12_findSession_1 : decode cX12_findSession 1 = .ok (.istore_n 3, 1) := by decide +kernel
theorem dX12_findSession_2 : decode cX12_findSession 2 = .ok (.iload_n 3, 1) := by decide +kernel
theorem dX12_findSession_3 : decode cX12_findSession 3 = .ok (.bipush 8, 2) := by decide +kernel
theorem dX12_findSession_5 : decode cX12_findSession 5 = .ok (.if_icmp .ge 41, 3) := by decide +kernel
theorem dX12_findSession_8 : decode cX12_findSession 8 = .ok (.lload_n 1, 1) := by decide +kernel
theorem dX12_findSession_9 : decode cX12_findSession 9 = .ok (.lconst 0, 1) := by decide +kernel
theorem dX12_findSession_10 : decode cX12_findSession 10 = .ok (.lcmp, 1) := by decide +kernel
theorem dX12_findSession_11 : decode cX12_findSession 11 = .ok (.ifCond .eq 29, 3) := by decide +kernel
theorem dX12_findSession_14 : decode cX12_findSession 14 = .ok (.aload_n 0, 1) := by decide +kernel
theorem dX12_findSession_15 : decode cX12_findSession 15 = .ok (.getfield 118, 3) := by decide +kernel
theorem dX12_findSession_18 : decode cX12_findSession 18 = .ok (.iload_n 3, 1) := by decide +kernel
theorem dX12_findSession_19 : decode cX12_findSession 19 = .ok (.laload, 1) := by decide +kernel
theorem dX12_findSession_20 : decode cX12_findSession 20 = .ok (.lload_n 1, 1) := by decide +kernel
theorem dX12_findSession_21 : decode cX12_findSession 21 = .ok (.lcmp, 1) := by decide +kernel
theorem dX12_findSession_22 : decode cX12_findSession 22 = .ok (.ifCond .ne 18, 3) := by decide +kernel
theorem dX12_findSession_25 : decode cX12_findSession 25 = .ok (.aload_n 0, 1) := by decide +kernel
theorem dX12_findSession_26 : decode cX12_findSession 26 = .ok (.getfield 121, 3) := by decide +kernel
theorem dX12_findSession_29 : decode cX12_findSession 29 = .ok (.iload_n 3, 1) := by decide +kernel
theorem dX12_findSession_30 : decode cX12_findSession 30 = .ok (.iaload, 1) := by decide +kernel
theorem dX12_findSession_31 : decode cX12_findSession 31 = .ok (.aload_n 0, 1) := by decide +kernel
theorem dX12_findSession_32 : decode cX12_findSession 32 = .ok (.getfield 382, 3) := by decide +kernel
theorem dX12_findSession_35 : decode cX12_findSession 35 = .ok (.if_icmp .ne 5, 3) := by decide +kernel
theorem dX12_findSession_38 : decode cX12_findSession 38 = .ok (.iload_n 3, 1) := by decide +kernel
theorem dX12_findSession_39 : decode cX12_findSession 39 = .ok (.ireturn, 1) := by decide +kernel
theorem dX12_findSession_40 : decode cX12_findSession 40 = .ok (.iinc 3 1, 3) := by decide +kernel
theorem dX12_findSession_43 : decode cX12_findSession 43 = .ok (.goto (-41), 3) := by decide +kernel
theorem dX12_findSession_46 : decode cX12_findSession 46 = .ok (.iconst (-1), 1) := by decide +kernel
theorem dX12_findSession_47 : decode cX12_findSession 47 = .ok (.ireturn, 1) := by decide +kernel
set_option maxRecDepth 100000 in
set_option maxHeartbeats 4000000 in
theorem c_X12_findSession (l : Launch) (D : va_G) (t : Nat → ClassId) (h0 : Nat) (L : Nat → Nat) (σ : HS) (hM : MdI h0 L σ) (a1 : Int64) (post : Int32 → HS → Prop) (hw : F_X12_findSession h0 L a1 post σ) (sz : Nat) : RMi l D t yX12_findSession cX12_findSession 4 (some .int) ({ frames := 0, cells := 0, slots := 0, locals := 0 }) h0 L σ sz [.ref h0, .long a1] post := by
  refine h_go (τ := τT) okT (by decide) (Nat.le_of_ble_eq_true rfl) ?_
  intro p e s m below meth c ls A hF hr hlk hAe hH0 hA hl
  unfold hB
  rw [hAe]
  clear hAe
  have hF : FX p m c cX12_findSession 4 s _ RX12 D t := hF
  have hx := hF.1.1
  have hb := hF.1.2.1
  have hH : RT D t A s.heap h0 L σ s.heap [] := ⟨hH0, hM⟩
  have hl : lv_has ls 4 [(0, .ref h0), (1, .long a1)] := hl
  unfold F_X12_findSession at hw
  refine lv_iconst (v := 0) hx hb dX12_findSession_0 (by decide) ?_
  refine lv_istore_n (lv' := [(3, .int 0), (0, .ref h0), (1, .long a1)]) hx hb dX12_findSession_1 rfl hl (by decide) rfl (fun ls hl => ?_)
  have hl : lv_has ls 4 [(3, .int 0), (1, .long a1), (0, .ref h0)] := lv_sub hl [0, 2, 1] rfl
  refine w_loop (β := Int32) (fun x1 => [(3, .int x1), (1, .long a1), (0, .ref h0)]) 0 hl hw hH (fun K3 x1 σ2 ls H locs hl hw hH ih4 => ?_)
  have hl : lv_has ls 4 [(3, .int x1), (1, .long a1), (0, .ref h0)] := hl
  refine lv_iload_n hx hb dX12_findSession_2 rfl (lv_at hl 0 rfl) ?_
  refine lv_bipush (v := 8) hx hb dX12_findSession_3 (by decide) ?_
  refine w_icmp_ge (tgt := 46) hF dX12_findSession_5 rfl hw (fun hw => ?_) (fun hw => ?_)
  · refine lv_iconst (v := (-1)) hx hb dX12_findSession_46 (by decide) ?_
    exact w_reti hF hH hr hlk rfl dX12_findSession_47 hw
  · refine lv_lload_n hx hb dX12_findSession_8 rfl (lv_at hl 1 rfl) ?_
    refine lv_lconst (v := 0) hx hb dX12_findSession_9 (by decide) ?_
    obtain ⟨K7, hK8, hw⟩ := jn_open hw
    refine w_join (K := K7) 40 (fun (x5 : Unit) => [(3, .int x1), (1, .long a1), (0, .ref h0)]) (fun (x5 : Unit) => []) hl hH (fun x5 σ6 ls H locs hl hw hH => ?_) (fun jn9 => ?_)
    · have hw := hK8 x5 σ6 hw
      have hl : lv_has ls 4 [(3, .int x1), (1, .long a1), (0, .ref h0)] := hl
      obtain ⟨z10, ez10⟩ : ∃ z : Int32, z = x1 + 1 := ⟨_, rfl⟩
      have hw := hw z10 ez10
      refine lv_iinc (lv' := [(3, .int z10), (1, .long a1), (0, .ref h0)]) (k := 0) (v := z10) hx hb dX12_findSession_40 hl rfl ez10.symm (by decide) rfl (fun ls hl => ?_)
      refine lv_goto (tgt := 2) hx hb dX12_findSession_43 rfl ?_
      exact ih4 z10 σ6 ls _ _ hl hw hH
    · skip
      refine w_lif_eq (tgt := 40) hF dX12_findSession_10 dX12_findSession_11 rfl hw (fun hw => ?_) (fun hw => ?_)
      · exact jn9 () σ2 ls _ _ hl hw hH
      · refine lv_aload_n hx hb dX12_findSession_14 rfl (lv_at hl 2 rfl) ?_
        refine w_getA 34 hF hH fk_X12_118 dX12_findSession_15 (by decide) rfl ?_
        refine lv_iload_n hx hb dX12_findSession_18 rfl (lv_at hl 0 rfl) ?_
        refine w_lald 34 8 hF hH dX12_findSession_19 (by decide) rfl rfl hw (fun z11 hw => ?_)
        refine lv_lload_n hx hb dX12_findSession_20 rfl (lv_at hl 1 rfl) ?_
        refine w_lif_ne (tgt := 40) hF dX12_findSession_21 dX12_findSession_22 rfl hw (fun hw => ?_) (fun hw => ?_)
        · exact jn9 () σ2 ls _ _ hl hw hH
        · refine lv_aload_n hx hb dX12_findSession_25 rfl (lv_at hl 2 rfl) ?_
          refine w_getA 35 hF hH fk_X12_121 dX12_findSession_26 (by decide) rfl ?_
          refine lv_iload_n hx hb dX12_findSession_29 rfl (lv_at hl 0 rfl) ?_
          refine w_iald 35 8 hF hH dX12_findSession_30 (by decide) rfl rfl hw (fun z12 hw => ?_)
          refine lv_aload_n hx hb dX12_findSession_31 rfl (lv_at hl 2 rfl) ?_
          refine w_getI hF hH fk_X12_382 dX12_findSession_32 hw (fun z13 hw => ?_)
          refine w_icmp_ne (tgt := 40) hF dX12_findSession_35 rfl hw (fun hw => ?_) (fun hw => ?_)
          · exact jn9 () σ2 ls _ _ hl hw hH
          · refine lv_iload_n hx hb dX12_findSession_38 rfl (lv_at hl 0 rfl) ?_
            exact w_reti hF hH hr hlk rfl dX12_findSession_39 hw
def F_X12_findTree (h0 : Nat) (L : Nat → Nat) (a1 : Int64) (post : Int32 → HS → Prop) (σ : HS) : Prop := lw (fun (K3 : Int32 → HS → Prop) (x1 : Int32) (σ2 : HS) => (((16 : Int32).toInt ≤ x1.toInt) → post (-1) σ2) ∧ ((x1.toInt < (16 : Int32).toInt) → jn (fun (K7 : Unit → HS → Prop) => ((a1.toInt = (0 : Int64).toInt) → K7 () σ2) ∧ ((¬ a1.toInt = (0 : Int64).toInt) → (0 ≤ x1.toInt ∧ x1.toInt < 16) ∧ ∀ z11 : Int64, z11 = sJ σ2 (L 38) x1.toInt.toNat → ((¬ z11.toInt = a1.toInt) → K7 () σ2) ∧ ((z11.toInt = a1.toInt) → (0 ≤ x1.toInt ∧ x1.toInt < 16) ∧ ∀ z12 : Int32, z12 = sI σ2 (L 39) x1.toInt.toNat → ∀ z13 : Int32, z13 = sI σ2 h0 98 → ((¬ z12.toInt = z13.toInt) → K7 () σ2) ∧ ((z12.toInt = z13.toInt) → post x1 σ2)))) (fun (x5 : Unit) (σ6 : HS) => ∀ z10 : Int32, z10 = x1 + 1 → K3 z10 σ6))) 0 σ
theorem dX12_findTree_0 : decode cX12_findTree 0 = .ok (.iconst 0, 1) := by decide +kernel
theorem dX12_findTree_1 : decode cX12_findTree 1 = .ok (.istore_n 3, 1) := by decide +kernel
theorem dX12_findTree_2 : decode cX12_findTree 2 = .ok (.iload_n 3, 1) := by decide +kernel
theorem dX12_findTree_3 : decode cX12_findTree 3 = .ok (.bipush 16, 2) := by decide +kernel
theorem dX12_findTree_5 : decode cX12_findTree 5 = .ok (.if_icmp .ge 41, 3) := by decide +kernel
theorem dX12_findTree_8 : decode cX12_findTree 8 = .ok (.lload_n 1, 1) := by decide +kernel
theorem dX12_findTree_9 : decode cX12_findTree 9 = .ok (.lconst 0, 1) := by decide +kernel
theorem dX12_findTree_10 : decode cX12_findTree 10 = .ok (.lcmp, 1) := by decide +kernel
theorem dX12_findTree_11 : decode cX12_findTree 11 = .ok (.ifCond .eq 29, 3) := by decide +kernel
theorem dX12_findTree_14 : decode cX12_findTree 14 = .ok (.aload_n 0, 1) := by decide +kernel
theorem dX12_findTree_15 : decode cX12_findTree 15 = .ok (.getfield 130, 3) := by decide +kernel
theorem dX12_findTree_18 : decode cX12_findTree 18 = .ok (.iload_n 3, 1) := by decide +kernel
theorem dX12_findTree_19 : decode cX12_findTree 19 = .ok (.laload, 1) := by decide +kernel
theorem dX12_findTree_20 : decode cX12_findTree 20 = .ok (.lload_n 1, 1) := by decide +kernel
theorem dX12_findTree_21 : decode cX12_findTree 21 = .ok (.lcmp, 1) := by decide +kernel
theorem dX12_findTree_22 : decode cX12_findTree 22 = .ok (.ifCond .ne 18, 3) := by decide +kernel
theorem dX12_findTree_25 : decode cX12_findTree 25 = .ok (.aload_n 0, 1) := by decide +kernel
theorem dX12_findTree_26 : decode cX12_findTree 26 = .ok (.getfield 133, 3) := by decide +kernel
theorem dX12_findTree_29 : decode cX12_findTree 29 = .ok (.iload_n 3, 1) := by decide +kernel
theorem dX12_findTree_30 : decode cX12_findTree 30 = .ok (.iaload, 1) := by decide +kernel
theorem dX12_findTree_31 : decode cX12_findTree 31 = .ok (.aload_n 0, 1) := by decide +kernel
theorem dX12_findTree_32 : decode cX12_findTree 32 = .ok (.getfield 492, 3) := by decide +kernel
theorem dX12_findTree_35 : decode cX12_findTree 35 = .ok (.if_icmp .ne 5, 3) := by decide +kernel
theorem dX12_findTree_38 : decode cX12_findTree 38 = .ok (.iload_n 3, 1) := by decide +kernel
theorem dX12_findTree_39 : decode cX12_findTree 39 = .ok (.ireturn, 1) := by decide +kernel
theorem dX12_findTree_40 : decode cX12_findTree 40 = .ok (.iinc 3 1, 3) := by decide +kernel
theorem dX12_findTree_43 : decode cX12_findTree 43 = .ok (.goto (-41), 3) := by decide +kernel
theorem dX12_findTree_46 : decode cX12_findTree 46 = .ok (.iconst (-1), 1) := by decide +kernel
theorem dX12_findTree_47 : decode cX12_findTree 47 = .ok (.ireturn, 1) := by decide +kernel
set_option maxRecDepth 100000 in
set_option maxHeartbeats 4000000 in
theorem c_X12_findTree (l : Launch) (D : va_G) (t : Nat → ClassId) (h0 : Nat) (L : Nat → Nat) (σ : HS) (hM : MdI h0 L σ) (a1 : Int64) (post : Int32 → HS → Prop) (hw : F_X12_findTree h0 L a1 post σ) (sz : Nat) : RMi l D t yX12_findTree cX12_findTree 4 (some .int) ({ frames := 0, cells := 0, slots := 0, locals := 0 }) h0 L σ sz [.ref h0, .long a1] post := by
  refine h_go (τ := τT) okT (by decide) (Nat.le_of_ble_eq_true rfl) ?_
  intro p e s m below meth c ls A hF hr hlk hAe hH0 hA hl
  unfold hB
  rw [hAe]
  clear hAe
  have hF : FX p m c cX12_findTree 4 s _ RX12 D t := hF
  have hx := hF.1.1
  have hb := hF.1.2.1
  have hH : RT D t A s.heap h0 L σ s.heap [] := ⟨hH0, hM⟩
  have hl : lv_has ls 4 [(0, .ref h0), (1, .long a1)] := hl
  unfold F_X12_findTree at hw
  refine lv_iconst (v := 0) hx hb dX12_findTree_0 (by decide) ?_
  refine lv_istore_n (lv' := [(3, .int 0), (0, .ref h0), (1, .long a1)]) hx hb dX12_findTree_1 rfl hl (by decide) rfl (fun ls hl => ?_)
  have hl : lv_has ls 4 [(3, .int 0), (1, .long a1), (0, .ref h0)] := lv_sub hl [0, 2, 1] rfl
  refine w_loop (β := Int32) (fun x1 => [(3, .int x1), (1, .long a1), (0, .ref h0)]) 0 hl hw hH (fun K3 x1 σ2 ls H locs hl hw hH ih4 => ?_)
  have hl : lv_has ls 4 [(3, .int x1), (1, .long a1), (0, .ref h0)] := hl
  refine lv_iload_n hx hb dX12_findTree_2 rfl (lv_at hl 0 rfl) ?_
  refine lv_bipush (v := 16) hx hb dX12_findTree_3 (by decide) ?_
  refine w_icmp_ge (tgt := 46) hF dX12_findTree_5 rfl hw (fun hw => ?_) (fun hw => ?_)
  · refine lv_iconst (v := (-1)) hx hb dX12_findTree_46 (by decide) ?_
    exact w_reti hF hH hr hlk rfl dX12_findTree_47 hw
  · refine lv_lload_n hx hb dX12_findTree_8 rfl (lv_at hl 1 rfl) ?_
    refine lv_lconst (v := 0) hx hb dX12_findTree_9 (by decide) ?_
    obtain ⟨K7, hK8, hw⟩ := jn_open hw
    refine w_join (K := K7) 40 (fun (x5 : Unit) => [(3, .int x1), (1, .long a1), (0, .ref h0)]) (fun (x5 : Unit) => []) hl hH (fun x5 σ6 ls H locs hl hw hH => ?_) (fun jn9 => ?_)
    · have hw := hK8 x5 σ6 hw
      have hl : lv_has ls 4 [(3, .int x1), (1, .long a1), (0, .ref h0)] := hl
      obtain ⟨z10, ez10⟩ : ∃ z : Int32, z = x1 + 1 := ⟨_, rfl⟩
      have hw := hw z10 ez10
      refine lv_iinc (lv' := [(3, .int z10), (1, .long a1), (0, .ref h0)]) (k := 0) (v := z10) hx hb dX12_findTree_40 hl rfl ez10.symm (by decide) rfl (fun ls hl => ?_)
      refine lv_goto (tgt := 2) hx hb dX12_findTree_43 rfl ?_
      exact ih4 z10 σ6 ls _ _ hl hw hH
    · skip
      refine w_lif_eq (tgt := 40) hF dX12_findTree_10 dX12_findTree_11 rfl hw (fun hw => ?_) (fun hw => ?_)
      · exact jn9 () σ2 ls _ _ hl hw hH
      · refine lv_aload_n hx hb dX12_findTree_14 rfl (lv_at hl 2 rfl) ?_
        refine w_getA 38 hF hH fk_X12_130 dX12_findTree_15 (by decide) rfl ?_
        refine lv_iload_n hx hb dX12_findTree_18 rfl (lv_at hl 0 rfl) ?_
        refine w_lald 38 16 hF hH dX12_findTree_19 (by decide) rfl rfl hw (fun z11 hw => ?_)
        refine lv_lload_n hx hb dX12_findTree_20 rfl (lv_at hl 1 rfl) ?_
        refine w_lif_ne (tgt := 40) hF dX12_findTree_21 dX12_findTree_22 rfl hw (fun hw => ?_) (fun hw => ?_)
        · exact jn9 () σ2 ls _ _ hl hw hH
        · refine lv_aload_n hx hb dX12_findTree_25 rfl (lv_at hl 2 rfl) ?_
          refine w_getA 39 hF hH fk_X12_133 dX12_findTree_26 (by decide) rfl ?_
          refine lv_iload_n hx hb dX12_findTree_29 rfl (lv_at hl 0 rfl) ?_
          refine w_iald 39 16 hF hH dX12_findTree_30 (by decide) rfl rfl hw (fun z12 hw => ?_)
          refine lv_aload_n hx hb dX12_findTree_31 rfl (lv_at hl 2 rfl) ?_
          refine w_getI hF hH fk_X12_492 dX12_findTree_32 hw (fun z13 hw => ?_)
          refine w_icmp_ne (tgt := 40) hF dX12_findTree_35 rfl hw (fun hw => ?_) (fun hw => ?_)
          · exact jn9 () σ2 ls _ _ hl hw hH
          · refine lv_iload_n hx hb dX12_findTree_38 rfl (lv_at hl 0 rfl) ?_
            exact w_reti hF hH hr hlk rfl dX12_findTree_39 hw
def F_X12_bodyOf (h0 : Nat) (L : Nat → Nat) (a0 : Int32) (post : Int32 → HS → Prop) (σ : HS) : Prop := jn (fun (K3 : Unit → HS → Prop) => jn (fun (K8 : Unit → HS → Prop) => jn (fun (K13 : Unit → HS → Prop) => jn (fun (K18 : Unit → HS → Prop) => ((a0.toInt < 0 ∨ 18 < a0.toInt) → K3 () σ) ∧ ((a0.toInt = 0) → post 36 σ) ∧ ((a0.toInt = 1) → post 25 σ) ∧ ((a0.toInt = 2) → K3 () σ) ∧ ((a0.toInt = 3) → post 9 σ) ∧ ((a0.toInt = 4) → K3 () σ) ∧ ((a0.toInt = 5) → post 57 σ) ∧ ((a0.toInt = 6) → K18 () σ) ∧ ((a0.toInt = 7) → K18 () σ) ∧ ((a0.toInt = 8) → K13 () σ) ∧ ((a0.toInt = 9) → K13 () σ) ∧ ((a0.toInt = 10) → post 48 σ) ∧ ((a0.toInt = 11) → K3 () σ) ∧ ((a0.toInt = 12) → K3 () σ) ∧ ((a0.toInt = 13) → K3 () σ) ∧ ((a0.toInt = 14) → K8 () σ) ∧ ((a0.toInt = 15) → K3 () σ) ∧ ((a0.toInt = 16) → post 41 σ) ∧ ((a0.toInt = 17) → K8 () σ) ∧ ((a0.toInt = 18) → K18 () σ)) (fun (x16 : Unit) (σ17 : HS) => post 24 σ17)) (fun (x11 : Unit) (σ12 : HS) => post 49 σ12)) (fun (x6 : Unit) (σ7 : HS) => post 33 σ7)) (fun (x1 : Unit) (σ2 : HS) => post 4 σ2)
theorem dX12_bodyOf_0 : decode cX12_bodyOf 0 = .ok (.iload_n 0, 1) := by decide +kernel
theorem dX12_bodyOf_1 : decode cX12_bodyOf 1 = .ok (.tableswitch 118 0 18 #[91, 94, 118, 97, 118, 100, 103, 103, 106, 106, 109, 118, 118, 118, 112, 118, 115, 112, 103], 91) := by decide +kernel
theorem dX12_bodyOf_92 : decode cX12_bodyOf 92 = .ok (.bipush 36, 2) := by decide +kernel
theorem dX12_bodyOf_94 : decode cX12_bodyOf 94 = .ok (.ireturn, 1) := by decide +kernel
theorem dX12_bodyOf_95 : decode cX12_bodyOf 95 = .ok (.bipush 25, 2) := by decide +kernel
theorem dX12_bodyOf_97 : decode cX12_bodyOf 97 = .ok (.ireturn, 1) := by decide +kernel
theorem dX12_bodyOf_98 : decode cX12_bodyOf 98 = .ok (.bipush 9, 2) := by decide +kernel
theorem dX12_bodyOf_100 : decode cX12_bodyOf 100 = .ok (.ireturn, 1) := by decide +kernel
theorem dX12_bodyOf_101 : decode cX12_bodyOf 101 = .ok (.bipush 57, 2) := by decide +kernel
theorem dX12_bodyOf_103 : decode cX12_bodyOf 103 = .ok (.ireturn, 1) := by decide +kernel
theorem dX12_bodyOf_104 : decode cX12_bodyOf 104 = .ok (.bipush 24, 2) := by decide +kernel
theorem dX12_bodyOf_106 : decode cX12_bodyOf 106 = .ok (.ireturn, 1) := by decide +kernel
theorem dX12_bodyOf_107 : decode cX12_bodyOf 107 = .ok (.bipush 49, 2) := by decide +kernel
theorem dX12_bodyOf_109 : decode cX12_bodyOf 109 = .ok (.ireturn, 1) := by decide +kernel
theorem dX12_bodyOf_110 : decode cX12_bodyOf 110 = .ok (.bipush 48, 2) := by decide +kernel
theorem dX12_bodyOf_112 : decode cX12_bodyOf 112 = .ok (.ireturn, 1) := by decide +kernel
theorem dX12_bodyOf_113 : decode cX12_bodyOf 113 = .ok (.bipush 33, 2) := by decide +kernel
theorem dX12_bodyOf_115 : decode cX12_bodyOf 115 = .ok (.ireturn, 1) := by decide +kernel
theorem dX12_bodyOf_116 : decode cX12_bodyOf 116 = .ok (.bipush 41, 2) := by decide +kernel
theorem dX12_bodyOf_118 : decode cX12_bodyOf 118 = .ok (.ireturn, 1) := by decide +kernel
theorem dX12_bodyOf_119 : decode cX12_bodyOf 119 = .ok (.iconst 4, 1) := by decide +kernel
theorem dX12_bodyOf_120 : decode cX12_bodyOf 120 = .ok (.ireturn, 1) := by decide +kernel
set_option maxRecDepth 100000 in
set_option maxHeartbeats 4000000 in
theorem c_X12_bodyOf (l : Launch) (D : va_G) (t : Nat → ClassId) (h0 : Nat) (L : Nat → Nat) (σ : HS) (hM : MdI h0 L σ) (a0 : Int32) (post : Int32 → HS → Prop) (hw : F_X12_bodyOf h0 L a0 post σ) (sz : Nat) : RMi l D t yX12_bodyOf cX12_bodyOf 1 (some .int) ({ frames := 0, cells := 0, slots := 0, locals := 0 }) h0 L σ sz [.int a0] post := by
  refine h_go (τ := τT) okT (by decide) (Nat.le_of_ble_eq_true rfl) ?_
  intro p e s m below meth c ls A hF hr hlk hAe hH0 hA hl
  unfold hB
  rw [hAe]
  clear hAe
  have hF : FX p m c cX12_bodyOf 1 s _ RX12 D t := hF
  have hx := hF.1.1
  have hb := hF.1.2.1
  have hH : RT D t A s.heap h0 L σ s.heap [] := ⟨hH0, hM⟩
  have hl : lv_has ls 1 [(0, .int a0)] := hl
  unfold F_X12_bodyOf at hw
  refine lv_iload_n hx hb dX12_bodyOf_0 rfl (lv_at hl 0 rfl) ?_
  obtain ⟨K3, hK4, hw⟩ := jn_open hw
  refine w_join (K := K3) 119 (fun (x1 : Unit) => []) (fun (x1 : Unit) => []) hl hH (fun x1 σ2 ls H locs hl hw hH => ?_) (fun jn5 => ?_)
  · have hw := hK4 x1 σ2 hw
    have hl : lv_has ls 1 [] := hl
    refine lv_iconst (v := 4) hx hb dX12_bodyOf_119 (by decide) ?_
    exact w_reti hF hH hr hlk rfl dX12_bodyOf_120 hw
  · skip
    obtain ⟨K8, hK9, hw⟩ := jn_open hw
    refine w_join (K := K8) 113 (fun (x6 : Unit) => []) (fun (x6 : Unit) => []) hl hH (fun x6 σ7 ls H locs hl hw hH => ?_) (fun jn10 => ?_)
    · have hw := hK9 x6 σ7 hw
      have hl : lv_has ls 1 [] := hl
      refine lv_bipush (v := 33) hx hb dX12_bodyOf_113 (by decide) ?_
      exact w_reti hF hH hr hlk rfl dX12_bodyOf_115 hw
    · skip
      obtain ⟨K13, hK14, hw⟩ := jn_open hw
      refine w_join (K := K13) 107 (fun (x11 : Unit) => []) (fun (x11 : Unit) => []) hl hH (fun x11 σ12 ls H locs hl hw hH => ?_) (fun jn15 => ?_)
      · have hw := hK14 x11 σ12 hw
        have hl : lv_has ls 1 [] := hl
        refine lv_bipush (v := 49) hx hb dX12_bodyOf_107 (by decide) ?_
        exact w_reti hF hH hr hlk rfl dX12_bodyOf_109 hw
      · skip
        obtain ⟨K18, hK19, hw⟩ := jn_open hw
        refine w_join (K := K18) 104 (fun (x16 : Unit) => []) (fun (x16 : Unit) => []) hl hH (fun x16 σ17 ls H locs hl hw hH => ?_) (fun jn20 => ?_)
        · have hw := hK19 x16 σ17 hw
          have hl : lv_has ls 1 [] := hl
          refine lv_bipush (v := 24) hx hb dX12_bodyOf_104 (by decide) ?_
          exact w_reti hF hH hr hlk rfl dX12_bodyOf_106 hw
        · skip
          by_cases ho : a0.toInt < 0 ∨ 18 < a0.toInt
          · have hw := hw.1 ho
            refine lv_tableOut (tgt := 119) hx hb dX12_bodyOf_1 ho rfl ?_
            have hl : lv_has ls 1 [] := lv_sub hl [] rfl
            exact jn5 () σ ls _ _ hl hw hH
          · rcases (show a0.toInt = 0 ∨ a0.toInt = 1 ∨ a0.toInt = 2 ∨ a0.toInt = 3 ∨ a0.toInt = 4 ∨ a0.toInt = 5 ∨ a0.toInt = 6 ∨ a0.toInt = 7 ∨ a0.toInt = 8 ∨ a0.toInt = 9 ∨ a0.toInt = 10 ∨ a0.toInt = 11 ∨ a0.toInt = 12 ∨ a0.toInt = 13 ∨ a0.toInt = 14 ∨ a0.toInt = 15 ∨ a0.toInt = 16 ∨ a0.toInt = 17 ∨ a0.toInt = 18 by omega) with zt | zt | zt | zt | zt | zt | zt | zt | zt | zt | zt | zt | zt | zt | zt | zt | zt | zt | zt
            · have hw := hw.2.1 zt
              have hoff : (#[91, 94, 118, 97, 118, 100, 103, 103, 106, 106, 109, 118, 118, 118, 112, 118, 115, 112, 103] : Array Int)[(a0.toInt - 0).toNat]? = some 91 := by rw [zt]; rfl
              refine lv_tableIn (off := 91) (tgt := 92) hx hb dX12_bodyOf_1 (fun q => ho (Or.inl q)) (fun q => ho (Or.inr q)) hoff rfl ?_
              refine lv_bipush (v := 36) hx hb dX12_bodyOf_92 (by decide) ?_
              exact w_reti hF hH hr hlk rfl dX12_bodyOf_94 hw
            · have hw := hw.2.2.1 zt
              have hoff : (#[91, 94, 118, 97, 118, 100, 103, 103, 106, 106, 109, 118, 118, 118, 112, 118, 115, 112, 103] : Array Int)[(a0.toInt - 0).toNat]? = some 94 := by rw [zt]; rfl
              refine lv_tableIn (off := 94) (tgt := 95) hx hb dX12_bodyOf_1 (fun q => ho (Or.inl q)) (fun q => ho (Or.inr q)) hoff rfl ?_
              refine lv_bipush (v := 25) hx hb dX12_bodyOf_95 (by decide) ?_
              exact w_reti hF hH hr hlk rfl dX12_bodyOf_97 hw
            · have hw := hw.2.2.2.1 zt
              have hoff : (#[91, 94, 118, 97, 118, 100, 103, 103, 106, 106, 109, 118, 118, 118, 112, 118, 115, 112, 103] : Array Int)[(a0.toInt - 0).toNat]? = some 118 := by rw [zt]; rfl
              refine lv_tableIn (off := 118) (tgt := 119) hx hb dX12_bodyOf_1 (fun q => ho (Or.inl q)) (fun q => ho (Or.inr q)) hoff rfl ?_
              have hl : lv_has ls 1 [] := lv_sub hl [] rfl
              exact jn5 () σ ls _ _ hl hw hH
            · have hw := hw.2.2.2.2.1 zt
              have hoff : (#[91, 94, 118, 97, 118, 100, 103, 103, 106, 106, 109, 118, 118, 118, 112, 118, 115, 112, 103] : Array Int)[(a0.toInt - 0).toNat]? = some 97 := by rw [zt]; rfl
              refine lv_tableIn (off := 97) (tgt := 98) hx hb dX12_bodyOf_1 (fun q => ho (Or.inl q)) (fun q => ho (Or.inr q)) hoff rfl ?_
              refine lv_bipush (v := 9) hx hb dX12_bodyOf_98 (by decide) ?_
              exact w_reti hF hH hr hlk rfl dX12_bodyOf_100 hw
            · have hw := hw.2.2.2.2.2.1 zt
              have hoff : (#[91, 94, 118, 97, 118, 100, 103, 103, 106, 106, 109, 118, 118, 118, 112, 118, 115, 112, 103] : Array Int)[(a0.toInt - 0).toNat]? = some 118 := by rw [zt]; rfl
              refine lv_tableIn (off := 118) (tgt := 119) hx hb dX12_bodyOf_1 (fun q => ho (Or.inl q)) (fun q => ho (Or.inr q)) hoff rfl ?_
              have hl : lv_has ls 1 [] := lv_sub hl [] rfl
              exact jn5 () σ ls _ _ hl hw hH
            · have hw := hw.2.2.2.2.2.2.1 zt
              have hoff : (#[91, 94, 118, 97, 118, 100, 103, 103, 106, 106, 109, 118, 118, 118, 112, 118, 115, 112, 103] : Array Int)[(a0.toInt - 0).toNat]? = some 100 := by rw [zt]; rfl
              refine lv_tableIn (off := 100) (tgt := 101) hx hb dX12_bodyOf_1 (fun q => ho (Or.inl q)) (fun q => ho (Or.inr q)) hoff rfl ?_
              refine lv_bipush (v := 57) hx hb dX12_bodyOf_101 (by decide) ?_
              exact w_reti hF hH hr hlk rfl dX12_bodyOf_103 hw
            · have hw := hw.2.2.2.2.2.2.2.1 zt
              have hoff : (#[91, 94, 118, 97, 118, 100, 103, 103, 106, 106, 109, 118, 118, 118, 112, 118, 115, 112, 103] : Array Int)[(a0.toInt - 0).toNat]? = some 103 := by rw [zt]; rfl
              refine lv_tableIn (off := 103) (tgt := 104) hx hb dX12_bodyOf_1 (fun q => ho (Or.inl q)) (fun q => ho (Or.inr q)) hoff rfl ?_
              have hl : lv_has ls 1 [] := lv_sub hl [] rfl
              exact jn20 () σ ls _ _ hl hw hH
            · have hw := hw.2.2.2.2.2.2.2.2.1 zt
              have hoff : (#[91, 94, 118, 97, 118, 100, 103, 103, 106, 106, 109, 118, 118, 118, 112, 118, 115, 112, 103] : Array Int)[(a0.toInt - 0).toNat]? = some 103 := by rw [zt]; rfl
              refine lv_tableIn (off := 103) (tgt := 104) hx hb dX12_bodyOf_1 (fun q => ho (Or.inl q)) (fun q => ho (Or.inr q)) hoff rfl ?_
              have hl : lv_has ls 1 [] := lv_sub hl [] rfl
              exact jn20 () σ ls _ _ hl hw hH
            · have hw := hw.2.2.2.2.2.2.2.2.2.1 zt
              have hoff : (#[91, 94, 118, 97, 118, 100, 103, 103, 106, 106, 109, 118, 118, 118, 112, 118, 115, 112, 103] : Array Int)[(a0.toInt - 0).toNat]? = some 106 := by rw [zt]; rfl
              refine lv_tableIn (off := 106) (tgt := 107) hx hb dX12_bodyOf_1 (fun q => ho (Or.inl q)) (fun q => ho (Or.inr q)) hoff rfl ?_
              have hl : lv_has ls 1 [] := lv_sub hl [] rfl
              exact jn15 () σ ls _ _ hl hw hH
            · have hw := hw.2.2.2.2.2.2.2.2.2.2.1 zt
              have hoff : (#[91, 94, 118, 97, 118, 100, 103, 103, 106, 106, 109, 118, 118, 118, 112, 118, 115, 112, 103] : Array Int)[(a0.toInt - 0).toNat]? = some 106 := by rw [zt]; rfl
              refine lv_tableIn (off := 106) (tgt := 107) hx hb dX12_bodyOf_1 (fun q => ho (Or.inl q)) (fun q => ho (Or.inr q)) hoff rfl ?_
              have hl : lv_has ls 1 [] := lv_sub hl [] rfl
              exact jn15 () σ ls _ _ hl hw hH
            · have hw := hw.2.2.2.2.2.2.2.2.2.2.2.1 zt
              have hoff : (#[91, 94, 118, 97, 118, 100, 103, 103, 106, 106, 109, 118, 118, 118, 112, 118, 115, 112, 103] : Array Int)[(a0.toInt - 0).toNat]? = some 109 := by rw [zt]; rfl
              refine lv_tableIn (off := 109) (tgt := 110) hx hb dX12_bodyOf_1 (fun q => ho (Or.inl q)) (fun q => ho (Or.inr q)) hoff rfl ?_
              refine lv_bipush (v := 48) hx hb dX12_bodyOf_110 (by decide) ?_
              exact w_reti hF hH hr hlk rfl dX12_bodyOf_112 hw
            · have hw := hw.2.2.2.2.2.2.2.2.2.2.2.2.1 zt
              have hoff : (#[91, 94, 118, 97, 118, 100, 103, 103, 106, 106, 109, 118, 118, 118, 112, 118, 115, 112, 103] : Array Int)[(a0.toInt - 0).toNat]? = some 118 := by rw [zt]; rfl
              refine lv_tableIn (off := 118) (tgt := 119) hx hb dX12_bodyOf_1 (fun q => ho (Or.inl q)) (fun q => ho (Or.inr q)) hoff rfl ?_
              have hl : lv_has ls 1 [] := lv_sub hl [] rfl
              exact jn5 () σ ls _ _ hl hw hH
            · have hw := hw.2.2.2.2.2.2.2.2.2.2.2.2.2.1 zt
              have hoff : (#[91, 94, 118, 97, 118, 100, 103, 103, 106, 106, 109, 118, 118, 118, 112, 118, 115, 112, 103] : Array Int)[(a0.toInt - 0).toNat]? = some 118 := by rw [zt]; rfl
              refine lv_tableIn (off := 118) (tgt := 119) hx hb dX12_bodyOf_1 (fun q => ho (Or.inl q)) (fun q => ho (Or.inr q)) hoff rfl ?_
              have hl : lv_has ls 1 [] := lv_sub hl [] rfl
              exact jn5 () σ ls _ _ hl hw hH
            · have hw := hw.2.2.2.2.2.2.2.2.2.2.2.2.2.2.1 zt
              have hoff : (#[91, 94, 118, 97, 118, 100, 103, 103, 106, 106, 109, 118, 118, 118, 112, 118, 115, 112, 103] : Array Int)[(a0.toInt - 0).toNat]? = some 118 := by rw [zt]; rfl
              refine lv_tableIn (off := 118) (tgt := 119) hx hb dX12_bodyOf_1 (fun q => ho (Or.inl q)) (fun q => ho (Or.inr q)) hoff rfl ?_
              have hl : lv_has ls 1 [] := lv_sub hl [] rfl
              exact jn5 () σ ls _ _ hl hw hH
            · have hw := hw.2.2.2.2.2.2.2.2.2.2.2.2.2.2.2.1 zt
              have hoff : (#[91, 94, 118, 97, 118, 100, 103, 103, 106, 106, 109, 118, 118, 118, 112, 118, 115, 112, 103] : Array Int)[(a0.toInt - 0).toNat]? = some 112 := by rw [zt]; rfl
              refine lv_tableIn (off := 112) (tgt := 113) hx hb dX12_bodyOf_1 (fun q => ho (Or.inl q)) (fun q => ho (Or.inr q)) hoff rfl ?_
              have hl : lv_has ls 1 [] := lv_sub hl [] rfl
              exact jn10 () σ ls _ _ hl hw hH
            · have hw := hw.2.2.2.2.2.2.2.2.2.2.2.2.2.2.2.2.1 zt
              have hoff : (#[91, 94, 118, 97, 118, 100, 103, 103, 106, 106, 109, 118, 118, 118, 112, 118, 115, 112, 103] : Array Int)[(a0.toInt - 0).toNat]? = some 118 := by rw [zt]; rfl
              refine lv_tableIn (off := 118) (tgt := 119) hx hb dX12_bodyOf_1 (fun q => ho (Or.inl q)) (fun q => ho (Or.inr q)) hoff rfl ?_
              have hl : lv_has ls 1 [] := lv_sub hl [] rfl
              exact jn5 () σ ls _ _ hl hw hH
            · have hw := hw.2.2.2.2.2.2.2.2.2.2.2.2.2.2.2.2.2.1 zt
              have hoff : (#[91, 94, 118, 97, 118, 100, 103, 103, 106, 106, 109, 118, 118, 118, 112, 118, 115, 112, 103] : Array Int)[(a0.toInt - 0).toNat]? = some 115 := by rw [zt]; rfl
              refine lv_tableIn (off := 115) (tgt := 116) hx hb dX12_bodyOf_1 (fun q => ho (Or.inl q)) (fun q => ho (Or.inr q)) hoff rfl ?_
              refine lv_bipush (v := 41) hx hb dX12_bodyOf_116 (by decide) ?_
              exact w_reti hF hH hr hlk rfl dX12_bodyOf_118 hw
            · have hw := hw.2.2.2.2.2.2.2.2.2.2.2.2.2.2.2.2.2.2.1 zt
              have hoff : (#[91, 94, 118, 97, 118, 100, 103, 103, 106, 106, 109, 118, 118, 118, 112, 118, 115, 112, 103] : Array Int)[(a0.toInt - 0).toNat]? = some 112 := by rw [zt]; rfl
              refine lv_tableIn (off := 112) (tgt := 113) hx hb dX12_bodyOf_1 (fun q => ho (Or.inl q)) (fun q => ho (Or.inr q)) hoff rfl ?_
              have hl : lv_has ls 1 [] := lv_sub hl [] rfl
              exact jn10 () σ ls _ _ hl hw hH
            · have hw := hw.2.2.2.2.2.2.2.2.2.2.2.2.2.2.2.2.2.2.2 zt
              have hoff : (#[91, 94, 118, 97, 118, 100, 103, 103, 106, 106, 109, 118, 118, 118, 112, 118, 115, 112, 103] : Array Int)[(a0.toInt - 0).toNat]? = some 103 := by rw [zt]; rfl
              refine lv_tableIn (off := 103) (tgt := 104) hx hb dX12_bodyOf_1 (fun q => ho (Or.inl q)) (fun q => ho (Or.inr q)) hoff rfl ?_
              have hl : lv_has ls 1 [] := lv_sub hl [] rfl
              exact jn20 () σ ls _ _ hl hw hH
def F_X12_lies (h0 : Nat) (L : Nat → Nat) (a1 : Int64) (a3 : Int64) (post : Int32 → HS → Prop) (σ : HS) : Prop := jn (fun (K3 : Int32 → HS → Prop) => jn (fun (K8 : Unit → HS → Prop) => ((a3.toInt = (0 : Int64).toInt) → K8 () σ) ∧ ((¬ a3.toInt = (0 : Int64).toInt) → jn (fun (K13 : Unit → HS → Prop) => ((a1.toInt < (64 : Int64).toInt) → K13 () σ) ∧ (((64 : Int64).toInt ≤ a1.toInt) → ∀ z16 : Int64, z16 = a1 + a3 → ∀ z17 : Int32, z17 = sI σ h0 87 → ∀ z18 : Int64, z18 = (z17 : Int32).toInt64 → ((z18.toInt < z16.toInt) → K13 () σ) ∧ ((z16.toInt ≤ z18.toInt) → K8 () σ))) (fun (x11 : Unit) (σ12 : HS) => K3 0 σ12))) (fun (x6 : Unit) (σ7 : HS) => K3 1 σ7)) (fun (x1 : Int32) (σ2 : HS) => (0 ≤ x1.toInt ∧ x1.toInt ≤ 1) ∧ post x1 σ2)
theorem dX12_lies_0 : decode cX12_lies 0 = .ok (.lload_n 3, 1) := by decide +kernel
theorem dX12_lies_1 : decode cX12_lies 1 = .ok (.lconst 0, 1) := by decide +kernel
theorem dX12_lies_2 : decode cX12_lies 2 = .ok (.lcmp, 1) := by decide +kernel
theorem dX12_lies_3 : decode cX12_lies 3 = .ok (.ifCond .eq 23, 3) := by decide +kernel
theorem dX12_lies_6 : decode cX12_lies 6 = .ok (.lload_n 1, 1) := by decide +kernel
theorem dX12_lies_7 : decode cX12_lies 7 = .ok (.ldc2_w 380, 3) := by decide +kernel
theorem dX12_lies_10 : decode cX12_lies 10 = .ok (.lcmp, 1) := by decide +kernel
theorem dX12_lies_11 : decode cX12_lies 11 = .ok (.ifCond .lt 19, 3) := by decide +kernel
theorem dX12_lies_14 : decode cX12_lies 14 = .ok (.lload_n 1, 1) := by decide +kernel
theorem dX12_lies_15 : decode cX12_lies 15 = .ok (.lload_n 3, 1) := by decide +kernel
theorem dX12_lies_16 : decode cX12_lies 16 = .ok (.ladd, 1) := by decide +kernel
theorem dX12_lies_17 : decode cX12_lies 17 = .ok (.aload_n 0, 1) := by decide +kernel
theorem dX12_lies_18 : decode cX12_lies 18 = .ok (.getfield 404, 3) := by decide +kernel
theorem dX12_lies_21 : decode cX12_lies 21 = .ok (.i2l, 1) := by decide +kernel
theorem dX12_lies_22 : decode cX12_lies 22 = .ok (.lcmp, 1) := by decide +kernel
theorem dX12_lies_23 : decode cX12_lies 23 = .ok (.ifCond .gt 7, 3) := by decide +kernel
theorem dX12_lies_26 : decode cX12_lies 26 = .ok (.iconst 1, 1) := by decide +kernel
theorem dX12_lies_27 : decode cX12_lies 27 = .ok (.goto 4, 3) := by decide +kernel
theorem dX12_lies_30 : decode cX12_lies 30 = .ok (.iconst 0, 1) := by decide +kernel
theorem dX12_lies_31 : decode cX12_lies 31 = .ok (.ireturn, 1) := by decide +kernel
set_option maxRecDepth 100000 in
set_option maxHeartbeats 4000000 in
theorem c_X12_lies (l : Launch) (D : va_G) (t : Nat → ClassId) (h0 : Nat) (L : Nat → Nat) (σ : HS) (hM : MdI h0 L σ) (a1 : Int64) (a3 : Int64) (post : Int32 → HS → Prop) (hw : F_X12_lies h0 L a1 a3 post σ) (sz : Nat) : RMi l D t yX12_lies cX12_lies 5 (some .boolean) ({ frames := 0, cells := 0, slots := 0, locals := 0 }) h0 L σ sz [.ref h0, .long a1, .long a3] post := by
  refine h_go (τ := τT) okT (by decide) (Nat.le_of_ble_eq_true rfl) ?_
  intro p e s m below meth c ls A hF hr hlk hAe hH0 hA hl
  unfold hB
  rw [hAe]
  clear hAe
  have hF : FX p m c cX12_lies 5 s _ RX12 D t := hF
  have hx := hF.1.1
  have hb := hF.1.2.1
  have hH : RT D t A s.heap h0 L σ s.heap [] := ⟨hH0, hM⟩
  have hl : lv_has ls 5 [(0, .ref h0), (1, .long a1), (3, .long a3)] := hl
  unfold F_X12_lies at hw
  refine lv_lload_n hx hb dX12_lies_0 rfl (lv_at hl 2 rfl) ?_
  refine lv_lconst (v := 0) hx hb dX12_lies_1 (by decide) ?_
  obtain ⟨K3, hK4, hw⟩ := jn_open hw
  refine w_join (K := K3) 31 (fun (x1 : Int32) => []) (fun (x1 : Int32) => [.int x1]) hl hH (fun x1 σ2 ls H locs hl hw hH => ?_) (fun jn5 => ?_)
  · have hw := hK4 x1 σ2 hw
    have hl : lv_has ls 5 [] := hl
    exact w_retz hF hH hr hlk dX12_lies_31 hw
  · skip
    obtain ⟨K8, hK9, hw⟩ := jn_open hw
    refine w_join (K := K8) 26 (fun (x6 : Unit) => []) (fun (x6 : Unit) => []) hl hH (fun x6 σ7 ls H locs hl hw hH => ?_) (fun jn10 => ?_)
    · have hw := hK9 x6 σ7 hw
      have hl : lv_has ls 5 [] := hl
      refine lv_iconst (v := 1) hx hb dX12_lies_26 (by decide) ?_
      refine lv_goto (tgt := 31) hx hb dX12_lies_27 rfl ?_
      exact jn5 1 σ7 ls _ _ hl hw hH
    · skip
      refine w_lif_eq (tgt := 26) hF dX12_lies_2 dX12_lies_3 rfl hw (fun hw => ?_) (fun hw => ?_)
      · have hl : lv_has ls 5 [] := lv_sub hl [] rfl
        exact jn10 () σ ls _ _ hl hw hH
      · refine lv_lload_n hx hb dX12_lies_6 rfl (lv_at hl 1 rfl) ?_
        refine lv_ldc2 (v := 64) hx hb hF.1.2.2.2.1 (hF.1.2.2.2.2 _ (wc_47 21 rfl)) dX12_lies_7 ?_
        obtain ⟨K13, hK14, hw⟩ := jn_open hw
        refine w_join (K := K13) 30 (fun (x11 : Unit) => []) (fun (x11 : Unit) => []) hl hH (fun x11 σ12 ls H locs hl hw hH => ?_) (fun jn15 => ?_)
        · have hw := hK14 x11 σ12 hw
          have hl : lv_has ls 5 [] := hl
          refine lv_iconst (v := 0) hx hb dX12_lies_30 (by decide) ?_
          exact jn5 0 σ12 ls _ _ hl hw hH
        · skip
          refine w_lif_lt (tgt := 30) hF dX12_lies_10 dX12_lies_11 rfl hw (fun hw => ?_) (fun hw => ?_)
          · have hl : lv_has ls 5 [] := lv_sub hl [] rfl
            exact jn15 () σ ls _ _ hl hw hH
          · refine lv_lload_n hx hb dX12_lies_14 rfl (lv_at hl 1 rfl) ?_
            refine lv_lload_n hx hb dX12_lies_15 rfl (lv_at hl 2 rfl) ?_
            refine lv_ladd hx hb dX12_lies_16 ?_
            refine w_nml hw (fun z16 hw => ?_)
            refine lv_aload_n hx hb dX12_lies_17 rfl (lv_at hl 0 rfl) ?_
            refine w_getI hF hH fk_X12_404 dX12_lies_18 hw (fun z17 hw => ?_)
            refine lv_i2l hx hb dX12_lies_21 rfl ?_
            refine w_nml hw (fun z18 hw => ?_)
            refine w_lif_gt (tgt := 30) hF dX12_lies_22 dX12_lies_23 rfl hw (fun hw => ?_) (fun hw => ?_)
            · have hl : lv_has ls 5 [] := lv_sub hl [] rfl
              exact jn15 () σ ls _ _ hl hw hH
            · have hl : lv_has ls 5 [] := lv_sub hl [] rfl
              exact jn10 () σ ls _ _ hl hw hH
def F_X12_isBody (h0 : Nat) (L : Nat → Nat)  (post : Int32 → HS → Prop) (σ : HS) : Prop := ∀ z1 : Int32, z1 = sI σ h0 93 → F_X12_bodyOf h0 L z1 (fun (z3 : Int32) (σ2 : HS) => ∀ z4 : Int32, z4 = sI σ2 h0 87 → ∀ z5 : Int32, z5 = 64 + z3 → ∀ z6 : Int32, z6 = z3 &&& 1 → ∀ z7 : Int32, z7 = z5 - z6 → jn (fun (K10 : Unit → HS → Prop) => ((z4.toInt < z7.toInt) → K10 () σ2) ∧ ((z7.toInt ≤ z4.toInt) → F_X12_number2 h0 L 64 (fun (z14 : Int32) (σ13 : HS) => ((z14.toInt = z3.toInt) → ∀ z15 : Int32, z15 = sI σ13 h0 93 → jn (fun (K18 : Unit → HS → Prop) => ((z15.toInt < 0 ∨ 17 < z15.toInt) → K18 () σ13) ∧ ((z15.toInt = 0) → F_X12_number2 h0 L 66 (fun (z22 : Int32) (σ21 : HS) => jn (fun (K25 : Int32 → HS → Prop) => jn (fun (K30 : Unit → HS → Prop) => ((z22.toInt ≤ 0) → K30 () σ21) ∧ ((0 < z22.toInt) → F_X12_number2 h0 L 66 (fun (z34 : Int32) (σ33 : HS) => ∀ z35 : Int32, z35 = 2 * z34 → ∀ z36 : Int32, z36 = 100 + z35 → ∀ z37 : Int32, z37 = sI σ33 h0 87 → ((z37.toInt < z36.toInt) → K30 () σ33) ∧ ((z36.toInt ≤ z37.toInt) → K25 1 σ33)) σ21)) (fun (x28 : Unit) (σ29 : HS) => K25 0 σ29)) (fun (x23 : Int32) (σ24 : HS) => (0 ≤ x23.toInt ∧ x23.toInt ≤ 1) ∧ post x23 σ24)) σ13) ∧ ((z15.toInt = 1) → F_X12_number2 h0 L 76 (fun (z39 : Int32) (σ38 : HS) => ∀ z40 : Int64, z40 = (z39 : Int32).toInt64 → F_X12_number2 h0 L 78 (fun (z42 : Int32) (σ41 : HS) => ∀ z43 : Int64, z43 = (z42 : Int32).toInt64 → F_X12_lies h0 L z40 z43 (fun (z45 : Int32) (σ44 : HS) => (0 ≤ z45.toInt ∧ z45.toInt ≤ 1) ∧ post z45 σ44) σ41) σ38) σ13) ∧ ((z15.toInt = 2) → K18 () σ13) ∧ ((z15.toInt = 3) → F_X12_number2 h0 L 68 (fun (z47 : Int32) (σ46 : HS) => ∀ z48 : Int64, z48 = (z47 : Int32).toInt64 → F_X12_number2 h0 L 70 (fun (z50 : Int32) (σ49 : HS) => ∀ z51 : Int64, z51 = (z50 : Int32).toInt64 → F_X12_lies h0 L z48 z51 (fun (z53 : Int32) (σ52 : HS) => (0 ≤ z53.toInt ∧ z53.toInt ≤ 1) ∧ post z53 σ52) σ49) σ46) σ13) ∧ ((z15.toInt = 4) → K18 () σ13) ∧ ((z15.toInt = 5) → F_X12_number2 h0 L 108 (fun (z55 : Int32) (σ54 : HS) => ∀ z56 : Int64, z56 = (z55 : Int32).toInt64 → F_X12_number2 h0 L 110 (fun (z58 : Int32) (σ57 : HS) => ∀ z59 : Int64, z59 = (z58 : Int32).toInt64 → F_X12_lies h0 L z56 z59 (fun (z61 : Int32) (σ60 : HS) => (0 ≤ z61.toInt ∧ z61.toInt ≤ 1) ∧ post z61 σ60) σ57) σ54) σ13) ∧ ((z15.toInt = 6) → K18 () σ13) ∧ ((z15.toInt = 7) → K18 () σ13) ∧ ((z15.toInt = 8) → K18 () σ13) ∧ ((z15.toInt = 9) → F_X12_number h0 L 68 4 (fun (z63 : Int64) (σ62 : HS) => jn (fun (K66 : Int32 → HS → Prop) => jn (fun (K71 : Unit → HS → Prop) => (((1024 : Int64).toInt < z63.toInt) → K71 () σ62) ∧ ((z63.toInt ≤ (1024 : Int64).toInt) → F_X12_number2 h0 L 66 (fun (z75 : Int32) (σ74 : HS) => ∀ z76 : Int64, z76 = (z75 : Int32).toInt64 → F_X12_number h0 L 68 4 (fun (z78 : Int64) (σ77 : HS) => F_X12_lies h0 L z76 z78 (fun (z80 : Int32) (σ79 : HS) => ((z80.toInt = 0) → K71 () σ79) ∧ ((¬ z80.toInt = 0) → K66 1 σ79)) σ77) σ74) σ62)) (fun (x69 : Unit) (σ70 : HS) => K66 0 σ70)) (fun (x64 : Int32) (σ65 : HS) => (0 ≤ x64.toInt ∧ x64.toInt ≤ 1) ∧ post x64 σ65)) σ13) ∧ ((z15.toInt = 10) → K18 () σ13) ∧ ((z15.toInt = 11) → K18 () σ13) ∧ ((z15.toInt = 12) → K18 () σ13) ∧ ((z15.toInt = 13) → K18 () σ13) ∧ ((z15.toInt = 14) → F_X12_number2 h0 L 88 (fun (z82 : Int32) (σ81 : HS) => ∀ z83 : Int64, z83 = (z82 : Int32).toInt64 → F_X12_number2 h0 L 90 (fun (z85 : Int32) (σ84 : HS) => ∀ z86 : Int64, z86 = (z85 : Int32).toInt64 → F_X12_lies h0 L z83 z86 (fun (z88 : Int32) (σ87 : HS) => (0 ≤ z88.toInt ∧ z88.toInt ≤ 1) ∧ post z88 σ87) σ84) σ81) σ13) ∧ ((z15.toInt = 15) → K18 () σ13) ∧ ((z15.toInt = 16) → K18 () σ13) ∧ ((z15.toInt = 17) → F_X12_number2 h0 L 72 (fun (z90 : Int32) (σ89 : HS) => ∀ z91 : Int64, z91 = (z90 : Int32).toInt64 → F_X12_number h0 L 68 4 (fun (z93 : Int64) (σ92 : HS) => F_X12_lies h0 L z91 z93 (fun (z95 : Int32) (σ94 : HS) => (0 ≤ z95.toInt ∧ z95.toInt ≤ 1) ∧ post z95 σ94) σ92) σ89) σ13)) (fun (x16 : Unit) (σ17 : HS) => (0 ≤ (1 : Int32).toInt ∧ (1 : Int32).toInt ≤ 1) ∧ post 1 σ17)) ∧ ((¬ z14.toInt = z3.toInt) → K10 () σ13)) σ2)) (fun (x8 : Unit) (σ9 : HS) => (0 ≤ (0 : Int32).toInt ∧ (0 : Int32).toInt ≤ 1) ∧ post 0 σ9)) σ
theorem dX12_isBody_0 : decode cX12_isBody 0 = .ok (.aload_n 0, 1) := by decide +kernel
theorem dX12_isBody_1 : decode cX12_isBody 1 = .ok (.getfield 418, 3) := by decide +kernel
theorem dX12_isBody_4 : decode cX12_isBody 4 = .ok (.invokestatic 483, 3) := by decide +kernel
theorem dX12_isBody_7 : decode cX12_isBody 7 = .ok (.istore_n 1, 1) := by decide +kernel
theorem dX12_isBody_8 : decode cX12_isBody 8 = .ok (.aload_n 0, 1) := by decide +kernel
theorem dX12_isBody_9 : decode cX12_isBody 9 = .ok (.getfield 404, 3) := by decide +kernel
theorem dX12_isBody_12 : decode cX12_isBody 12 = .ok (.bipush 64, 2) := by decide +kernel
theorem dX12_isBody_14 : decode cX12_isBody 14 = .ok (.iload_n 1, 1) := by decide +kernel
theorem dX12_isBody_15 : decode cX12_isBody 15 = .ok (.iadd, 1) := by decide +kernel
theorem dX12_isBody_16 : decode cX12_isBody 16 = .ok (.iload_n 1, 1) := by decide +kernel
theorem dX12_isBody_17 : decode cX12_isBody 17 = .ok (.iconst 1, 1) := by decide +kernel
theorem dX12_isBody_18 : decode cX12_isBody 18 = .ok (.iand, 1) := by decide +kernel
theorem dX12_isBody_19 : decode cX12_isBody 19 = .ok (.isub, 1) := by decide +kernel
theorem dX12_isBody_20 : decode cX12_isBody 20 = .ok (.if_icmp .lt 13, 3) := by decide +kernel
theorem dX12_isBody_23 : decode cX12_isBody 23 = .ok (.aload_n 0, 1) := by decide +kernel
theorem dX12_isBody_24 : decode cX12_isBody 24 = .ok (.bipush 64, 2) := by decide +kernel
theorem dX12_isBody_26 : decode cX12_isBody 26 = .ok (.invokevirtual 415, 3) := by decide +kernel
theorem dX12_isBody_29 : decode cX12_isBody 29 = .ok (.iload_n 1, 1) := by decide +kernel
theorem dX12_isBody_30 : decode cX12_isBody 30 = .ok (.if_icmp .eq 5, 3) := by decide +kernel
theorem dX12_isBody_33 : decode cX12_isBody 33 = .ok (.iconst 0, 1) := by decide +kernel
theorem dX12_isBody_34 : decode cX12_isBody 34 = .ok (.ireturn, 1) := by decide +kernel
theorem dX12_isBody_35 : decode cX12_isBody 35 = .ok (.aload_n 0, 1) := by decide +kernel
theorem dX12_isBody_36 : decode cX12_isBody 36 = .ok (.getfield 418, 3) := by decide +kernel
theorem dX12_isBody_39 : decode cX12_isBody 39 = .ok (.tableswitch 254 0 17 #[85, 118, 254, 137, 254, 156, 254, 254, 254, 175, 254, 254, 254, 254, 216, 254, 254, 235], 85) := by decide +kernel
theorem dX12_isBody_124 : decode cX12_isBody 124 = .ok (.aload_n 0, 1) := by decide +kernel
theorem dX12_isBody_125 : decode cX12_isBody 125 = .ok (.bipush 66, 2) := by decide +kernel
theorem dX12_isBody_127 : decode cX12_isBody 127 = .ok (.invokevirtual 415, 3) := by decide +kernel
theorem dX12_isBody_130 : decode cX12_isBody 130 = .ok (.ifCond .le 25, 3) := by decide +kernel
theorem dX12_isBody_133 : decode cX12_isBody 133 = .ok (.bipush 100, 2) := by decide +kernel
theorem dX12_isBody_135 : decode cX12_isBody 135 = .ok (.iconst 2, 1) := by decide +kernel
theorem dX12_isBody_136 : decode cX12_isBody 136 = .ok (.aload_n 0, 1) := by decide +kernel
theorem dX12_isBody_137 : decode cX12_isBody 137 = .ok (.bipush 66, 2) := by decide +kernel
theorem dX12_isBody_139 : decode cX12_isBody 139 = .ok (.invokevirtual 415, 3) := by decide +kernel
theorem dX12_isBody_142 : decode cX12_isBody 142 = .ok (.imul, 1) := by decide +kernel
theorem dX12_isBody_143 : decode cX12_isBody 143 = .ok (.iadd, 1) := by decide +kernel
theorem dX12_isBody_144 : decode cX12_isBody 144 = .ok (.aload_n 0, 1) := by decide +kernel
theorem dX12_isBody_145 : decode cX12_isBody 145 = .ok (.getfield 404, 3) := by decide +kernel
theorem dX12_isBody_148 : decode cX12_isBody 148 = .ok (.if_icmp .gt 7, 3) := by decide +kernel
theorem dX12_isBody_151 : decode cX12_isBody 151 = .ok (.iconst 1, 1) := by decide +kernel
theorem dX12_isBody_152 : decode cX12_isBody 152 = .ok (.goto 4, 3) := by decide +kernel
theorem dX12_isBody_155 : decode cX12_isBody 155 = .ok (.iconst 0, 1) := by decide +kernel
theorem dX12_isBody_156 : decode cX12_isBody 156 = .ok (.ireturn, 1) := by decide +kernel
theorem dX12_isBody_157 : decode cX12_isBody 157 = .ok (.aload_n 0, 1) := by decide +kernel
theorem dX12_isBody_158 : decode cX12_isBody 158 = .ok (.aload_n 0, 1) := by decide +kernel
theorem dX12_isBody_159 : decode cX12_isBody 159 = .ok (.bipush 76, 2) := by decide +kernel
theorem dX12_isBody_161 : decode cX12_isBody 161 = .ok (.invokevirtual 415, 3) := by decide +kernel
theorem dX12_isBody_164 : decode cX12_isBody 164 = .ok (.i2l, 1) := by decide +kernel
theorem dX12_isBody_165 : decode cX12_isBody 165 = .ok (.aload_n 0, 1) := by decide +kernel
theorem dX12_isBody_166 : decode cX12_isBody 166 = .ok (.bipush 78, 2) := by decide +kernel
theorem dX12_isBody_168 : decode cX12_isBody 168 = .ok (.invokevirtual 415, 3) := by decide +kernel
theorem dX12_isBody_171 : decode cX12_isBody 171 = .ok (.i2l, 1) := by decide +kernel
theorem dX12_isBody_172 : decode cX12_isBody 172 = .ok (.invokevirtual 486, 3) := by decide +kernel
theorem dX12_isBody_175 : decode cX12_isBody 175 = .ok (.ireturn, 1) := by decide +kernel
theorem dX12_isBody_176 : decode cX12_isBody 176 = .ok (.aload_n 0, 1) := by decide +kernel
theorem dX12_isBody_177 : decode cX12_isBody 177 = .ok (.aload_n 0, 1) := by decide +kernel
theorem dX12_isBody_178 : decode cX12_isBody 178 = .ok (.bipush 68, 2) := by decide +kernel
theorem dX12_isBody_180 : decode cX12_isBody 180 = .ok (.invokevirtual 415, 3) := by decide +kernel
theorem dX12_isBody_183 : decode cX12_isBody 183 = .ok (.i2l, 1) := by decide +kernel
theorem dX12_isBody_184 : decode cX12_isBody 184 = .ok (.aload_n 0, 1) := by decide +kernel
theorem dX12_isBody_185 : decode cX12_isBody 185 = .ok (.bipush 70, 2) := by decide +kernel
theorem dX12_isBody_187 : decode cX12_isBody 187 = .ok (.invokevirtual 415, 3) := by decide +kernel
theorem dX12_isBody_190 : decode cX12_isBody 190 = .ok (.i2l, 1) := by decide +kernel
theorem dX12_isBody_191 : decode cX12_isBody 191 = .ok (.invokevirtual 486, 3) := by decide +kernel
theorem dX12_isBody_194 : decode cX12_isBody 194 = .ok (.ireturn, 1) := by decide +kernel
theorem dX12_isBody_195 : decode cX12_isBody 195 = .ok (.aload_n 0, 1) := by decide +kernel
theorem dX12_isBody_196 : decode cX12_isBody 196 = .ok (.aload_n 0, 1) := by decide +kernel
theorem dX12_isBody_197 : decode cX12_isBody 197 = .ok (.bipush 108, 2) := by decide +kernel
theorem dX12_isBody_199 : decode cX12_isBody 199 = .ok (.invokevirtual 415, 3) := by decide +kernel
theorem dX12_isBody_202 : decode cX12_isBody 202 = .ok (.i2l, 1) := by decide +kernel
theorem dX12_isBody_203 : decode cX12_isBody 203 = .ok (.aload_n 0, 1) := by decide +kernel
theorem dX12_isBody_204 : decode cX12_isBody 204 = .ok (.bipush 110, 2) := by decide +kernel
theorem dX12_isBody_206 : decode cX12_isBody 206 = .ok (.invokevirtual 415, 3) := by decide +kernel
theorem dX12_isBody_209 : decode cX12_isBody 209 = .ok (.i2l, 1) := by decide +kernel
theorem dX12_isBody_210 : decode cX12_isBody 210 = .ok (.invokevirtual 486, 3) := by decide +kernel
theorem dX12_isBody_213 : decode cX12_isBody 213 = .ok (.ireturn, 1) := by decide +kernel
theorem dX12_isBody_214 : decode cX12_isBody 214 = .ok (.aload_n 0, 1) := by decide +kernel
theorem dX12_isBody_215 : decode cX12_isBody 215 = .ok (.bipush 68, 2) := by decide +kernel
theorem dX12_isBody_217 : decode cX12_isBody 217 = .ok (.iconst 4, 1) := by decide +kernel
theorem dX12_isBody_218 : decode cX12_isBody 218 = .ok (.invokevirtual 364, 3) := by decide +kernel
theorem dX12_isBody_221 : decode cX12_isBody 221 = .ok (.ldc2_w 490, 3) := by decide +kernel
theorem dX12_isBody_224 : decode cX12_isBody 224 = .ok (.lcmp, 1) := by decide +kernel
theorem dX12_isBody_225 : decode cX12_isBody 225 = .ok (.ifCond .gt 28, 3) := by decide +kernel
theorem dX12_isBody_228 : decode cX12_isBody 228 = .ok (.aload_n 0, 1) := by decide +kernel
theorem dX12_isBody_229 : decode cX12_isBody 229 = .ok (.aload_n 0, 1) := by decide +kernel
theorem dX12_isBody_230 : decode cX12_isBody 230 = .ok (.bipush 66, 2) := by decide +kernel
theorem dX12_isBody_232 : decode cX12_isBody 232 = .ok (.invokevirtual 415, 3) := by decide +kernel
theorem dX12_isBody_235 : decode cX12_isBody 235 = .ok (.i2l, 1) := by decide +kernel
theorem dX12_isBody_236 : decode cX12_isBody 236 = .ok (.aload_n 0, 1) := by decide +kernel
theorem dX12_isBody_237 : decode cX12_isBody 237 = .ok (.bipush 68, 2) := by decide +kernel
theorem dX12_isBody_239 : decode cX12_isBody 239 = .ok (.iconst 4, 1) := by decide +kernel
theorem dX12_isBody_240 : decode cX12_isBody 240 = .ok (.invokevirtual 364, 3) := by decide +kernel
theorem dX12_isBody_243 : decode cX12_isBody 243 = .ok (.invokevirtual 486, 3) := by decide +kernel
theorem dX12_isBody_246 : decode cX12_isBody 246 = .ok (.ifCond .eq 7, 3) := by decide +kernel
theorem dX12_isBody_249 : decode cX12_isBody 249 = .ok (.iconst 1, 1) := by decide +kernel
theorem dX12_isBody_250 : decode cX12_isBody 250 = .ok (.goto 4, 3) := by decide +kernel
theorem dX12_isBody_253 : decode cX12_isBody 253 = .ok (.iconst 0, 1) := by decide +kernel
theorem dX12_isBody_254 : decode cX12_isBody 254 = .ok (.ireturn, 1) := by decide +kernel
theorem dX12_isBody_255 : decode cX12_isBody 255 = .ok (.aload_n 0, 1) := by decide +kernel
theorem dX12_isBody_256 : decode cX12_isBody 256 = .ok (.aload_n 0, 1) := by decide +kernel
theorem dX12_isBody_257 : decode cX12_isBody 257 = .ok (.bipush 88, 2) := by decide +kernel
theorem dX12_isBody_259 : decode cX12_isBody 259 = .ok (.invokevirtual 415, 3) := by decide +kernel
theorem dX12_isBody_262 : decode cX12_isBody 262 = .ok (.i2l, 1) := by decide +kernel
theorem dX12_isBody_263 : decode cX12_isBody 263 = .ok (.aload_n 0, 1) := by decide +kernel
theorem dX12_isBody_264 : decode cX12_isBody 264 = .ok (.bipush 90, 2) := by decide +kernel
theorem dX12_isBody_266 : decode cX12_isBody 266 = .ok (.invokevirtual 415, 3) := by decide +kernel
theorem dX12_isBody_269 : decode cX12_isBody 269 = .ok (.i2l, 1) := by decide +kernel
theorem dX12_isBody_270 : decode cX12_isBody 270 = .ok (.invokevirtual 486, 3) := by decide +kernel
theorem dX12_isBody_273 : decode cX12_isBody 273 = .ok (.ireturn, 1) := by decide +kernel
theorem dX12_isBody_274 : decode cX12_isBody 274 = .ok (.aload_n 0, 1) := by decide +kernel
theorem dX12_isBody_275 : decode cX12_isBody 275 = .ok (.aload_n 0, 1) := by decide +kernel
theorem dX12_isBody_276 : decode cX12_isBody 276 = .ok (.bipush 72, 2) := by decide +kernel
theorem dX12_isBody_278 : decode cX12_isBody 278 = .ok (.invokevirtual 415, 3) := by decide +kernel
theorem dX12_isBody_281 : decode cX12_isBody 281 = .ok (.i2l, 1) := by decide +kernel
theorem dX12_isBody_282 : decode cX12_isBody 282 = .ok (.aload_n 0, 1) := by decide +kernel
theorem dX12_isBody_283 : decode cX12_isBody 283 = .ok (.bipush 68, 2) := by decide +kernel
theorem dX12_isBody_285 : decode cX12_isBody 285 = .ok (.iconst 4, 1) := by decide +kernel
theorem dX12_isBody_286 : decode cX12_isBody 286 = .ok (.invokevirtual 364, 3) := by decide +kernel
theorem dX12_isBody_289 : decode cX12_isBody 289 = .ok (.invokevirtual 486, 3) := by decide +kernel
theorem dX12_isBody_292 : decode cX12_isBody 292 = .ok (.ireturn, 1) := by decide +kernel
theorem dX12_isBody_293 : decode cX12_isBody 293 = .ok (.iconst 1, 1) := by decide +kernel
theorem dX12_isBody_294 : decode cX12_isBody 294 = .ok (.ireturn, 1) := by decide +kernel
set_option maxRecDepth 100000 in
set_option maxHeartbeats 4000000 in
theorem c_X12_isBody (l : Launch) (D : va_G) (t : Nat → ClassId) (h0 : Nat) (L : Nat → Nat) (σ : HS) (hM : MdI h0 L σ)  (post : Int32 → HS → Prop) (hw : F_X12_isBody h0 L  post σ) (sz : Nat) : RMi l D t yX12_isBody cX12_isBody 2 (some .boolean) ({ frames := 2, cells := 0, slots := 0, locals := 46 }) h0 L σ sz [.ref h0] post := by
  refine h_go (τ := τT) okT (by decide) (Nat.le_of_ble_eq_true rfl) ?_
  intro p e s m below meth c ls A hF hr hlk hAe hH0 hA hl
  unfold hB
  rw [hAe]
  clear hAe
  have hF : FX p m c cX12_isBody 2 s _ RX12 D t := hF
  have hx := hF.1.1
  have hb := hF.1.2.1
  have hH : RT D t A s.heap h0 L σ s.heap [] := ⟨hH0, hM⟩
  have hl : lv_has ls 2 [(0, .ref h0)] := hl
  unfold F_X12_isBody at hw
  refine lv_aload_n hx hb dX12_isBody_0 rfl (lv_at hl 0 rfl) ?_
  refine w_getI hF hH fk_X12_418 dX12_isBody_1 hw (fun z1 hw => ?_)
  refine w_cSi (As := [.int z1]) (rest := []) hF hH hA ms_X12_483 (fun sz => c_X12_bodyOf l D t h0 L _ hH.2 z1 _ hw sz) dX12_isBody_4 rfl rfl (by decide) rfl hl.1 (Nat.le_of_ble_eq_true rfl) (by decide) rfl (fun z3 σ2 H locs hw hH => ?_)
  refine lv_istore_n (lv' := [(1, .int z3), (0, .ref h0)]) hx hb dX12_isBody_7 rfl hl (by decide) rfl (fun ls hl => ?_)
  refine lv_aload_n hx hb dX12_isBody_8 rfl (lv_at hl 1 rfl) ?_
  refine w_getI hF hH fk_X12_404 dX12_isBody_9 hw (fun z4 hw => ?_)
  refine lv_bipush (v := 64) hx hb dX12_isBody_12 (by decide) ?_
  refine lv_iload_n hx hb dX12_isBody_14 rfl (lv_at hl 0 rfl) ?_
  refine lv_iadd hx hb dX12_isBody_15 ?_
  refine w_nmi hw (fun z5 hw => ?_)
  refine lv_iload_n hx hb dX12_isBody_16 rfl (lv_at hl 0 rfl) ?_
  refine lv_iconst (v := 1) hx hb dX12_isBody_17 (by decide) ?_
  refine lv_iand hx hb dX12_isBody_18 ?_
  refine w_nmi hw (fun z6 hw => ?_)
  refine lv_isub hx hb dX12_isBody_19 ?_
  refine w_nmi hw (fun z7 hw => ?_)
  obtain ⟨K10, hK11, hw⟩ := jn_open hw
  refine w_join (K := K10) 33 (fun (x8 : Unit) => []) (fun (x8 : Unit) => []) hl hH (fun x8 σ9 ls H locs hl hw hH => ?_) (fun jn12 => ?_)
  · have hw := hK11 x8 σ9 hw
    have hl : lv_has ls 2 [] := hl
    refine lv_iconst (v := 0) hx hb dX12_isBody_33 (by decide) ?_
    exact w_retz hF hH hr hlk dX12_isBody_34 hw
  · skip
    refine w_icmp_lt (tgt := 33) hF dX12_isBody_20 rfl hw (fun hw => ?_) (fun hw => ?_)
    · have hl : lv_has ls 2 [] := lv_sub hl [] rfl
      exact jn12 () σ2 ls _ _ hl hw hH
    · refine lv_aload_n hx hb dX12_isBody_23 rfl (lv_at hl 1 rfl) ?_
      refine lv_bipush (v := 64) hx hb dX12_isBody_24 (by decide) ?_
      refine w_cVi (As := [.int 64]) (rest := []) hF hH hA mv_X12_415 (fun sz => c_X12_number2 l D t h0 L _ hH.2 64 _ hw sz) dX12_isBody_26 rfl rfl (by decide) rfl hl.1 (Nat.le_of_ble_eq_true rfl) (by decide) rfl (fun z14 σ13 H locs hw hH => ?_)
      refine lv_iload_n hx hb dX12_isBody_29 rfl (lv_at hl 0 rfl) ?_
      refine w_icmp_eq (tgt := 35) hF dX12_isBody_30 rfl hw (fun hw => ?_) (fun hw => ?_)
      · refine lv_aload_n hx hb dX12_isBody_35 rfl (lv_at hl 1 rfl) ?_
        refine w_getI hF hH fk_X12_418 dX12_isBody_36 hw (fun z15 hw => ?_)
        obtain ⟨K18, hK19, hw⟩ := jn_open hw
        refine w_join (K := K18) 293 (fun (x16 : Unit) => []) (fun (x16 : Unit) => []) hl hH (fun x16 σ17 ls H locs hl hw hH => ?_) (fun jn20 => ?_)
        · have hw := hK19 x16 σ17 hw
          have hl : lv_has ls 2 [] := hl
          refine lv_iconst (v := 1) hx hb dX12_isBody_293 (by decide) ?_
          exact w_retz hF hH hr hlk dX12_isBody_294 hw
        · skip
          by_cases ho : z15.toInt < 0 ∨ 17 < z15.toInt
          · have hw := hw.1 ho
            refine lv_tableOut (tgt := 293) hx hb dX12_isBody_39 ho rfl ?_
            have hl : lv_has ls 2 [] := lv_sub hl [] rfl
            exact jn20 () σ13 ls _ _ hl hw hH
          · rcases (show z15.toInt = 0 ∨ z15.toInt = 1 ∨ z15.toInt = 2 ∨ z15.toInt = 3 ∨ z15.toInt = 4 ∨ z15.toInt = 5 ∨ z15.toInt = 6 ∨ z15.toInt = 7 ∨ z15.toInt = 8 ∨ z15.toInt = 9 ∨ z15.toInt = 10 ∨ z15.toInt = 11 ∨ z15.toInt = 12 ∨ z15.toInt = 13 ∨ z15.toInt = 14 ∨ z15.toInt = 15 ∨ z15.toInt = 16 ∨ z15.toInt = 17 by omega) with zt | zt | zt | zt | zt | zt | zt | zt | zt | zt | zt | zt | zt | zt | zt | zt | zt | zt
            · have hw := hw.2.1 zt
              have hoff : (#[85, 118, 254, 137, 254, 156, 254, 254, 254, 175, 254, 254, 254, 254, 216, 254, 254, 235] : Array Int)[(z15.toInt - 0).toNat]? = some 85 := by rw [zt]; rfl
              refine lv_tableIn (off := 85) (tgt := 124) hx hb dX12_isBody_39 (fun q => ho (Or.inl q)) (fun q => ho (Or.inr q)) hoff rfl ?_
              refine lv_aload_n hx hb dX12_isBody_124 rfl (lv_at hl 1 rfl) ?_
              refine lv_bipush (v := 66) hx hb dX12_isBody_125 (by decide) ?_
              refine w_cVi (As := [.int 66]) (rest := []) hF hH hA mv_X12_415 (fun sz => c_X12_number2 l D t h0 L _ hH.2 66 _ hw sz) dX12_isBody_127 rfl rfl (by decide) rfl hl.1 (Nat.le_of_ble_eq_true rfl) (by decide) rfl (fun z22 σ21 H locs hw hH => ?_)
              obtain ⟨K25, hK26, hw⟩ := jn_open hw
              refine w_join (K := K25) 156 (fun (x23 : Int32) => []) (fun (x23 : Int32) => [.int x23]) hl hH (fun x23 σ24 ls H locs hl hw hH => ?_) (fun jn27 => ?_)
              · have hw := hK26 x23 σ24 hw
                have hl : lv_has ls 2 [] := hl
                exact w_retz hF hH hr hlk dX12_isBody_156 hw
              · skip
                obtain ⟨K30, hK31, hw⟩ := jn_open hw
                refine w_join (K := K30) 155 (fun (x28 : Unit) => []) (fun (x28 : Unit) => []) hl hH (fun x28 σ29 ls H locs hl hw hH => ?_) (fun jn32 => ?_)
                · have hw := hK31 x28 σ29 hw
                  have hl : lv_has ls 2 [] := hl
                  refine lv_iconst (v := 0) hx hb dX12_isBody_155 (by decide) ?_
                  exact jn27 0 σ29 ls _ _ hl hw hH
                · skip
                  refine w_if_le (tgt := 155) hF dX12_isBody_130 rfl hw (fun hw => ?_) (fun hw => ?_)
                  · have hl : lv_has ls 2 [] := lv_sub hl [] rfl
                    exact jn32 () σ21 ls _ _ hl hw hH
                  · refine lv_bipush (v := 100) hx hb dX12_isBody_133 (by decide) ?_
                    refine lv_iconst (v := 2) hx hb dX12_isBody_135 (by decide) ?_
                    refine lv_aload_n hx hb dX12_isBody_136 rfl (lv_at hl 1 rfl) ?_
                    refine lv_bipush (v := 66) hx hb dX12_isBody_137 (by decide) ?_
                    refine w_cVi (As := [.int 66]) (rest := [.int 2, .int 100]) hF hH hA mv_X12_415 (fun sz => c_X12_number2 l D t h0 L _ hH.2 66 _ hw sz) dX12_isBody_139 rfl rfl (by decide) rfl hl.1 (Nat.le_of_ble_eq_true rfl) (by decide) rfl (fun z34 σ33 H locs hw hH => ?_)
                    refine lv_imul hx hb dX12_isBody_142 ?_
                    refine w_nmi hw (fun z35 hw => ?_)
                    refine lv_iadd hx hb dX12_isBody_143 ?_
                    refine w_nmi hw (fun z36 hw => ?_)
                    refine lv_aload_n hx hb dX12_isBody_144 rfl (lv_at hl 1 rfl) ?_
                    refine w_getI hF hH fk_X12_404 dX12_isBody_145 hw (fun z37 hw => ?_)
                    refine w_icmp_gt (tgt := 155) hF dX12_isBody_148 rfl hw (fun hw => ?_) (fun hw => ?_)
                    · have hl : lv_has ls 2 [] := lv_sub hl [] rfl
                      exact jn32 () σ33 ls _ _ hl hw hH
                    · refine lv_iconst (v := 1) hx hb dX12_isBody_151 (by decide) ?_
                      refine lv_goto (tgt := 156) hx hb dX12_isBody_152 rfl ?_
                      have hl : lv_has ls 2 [] := lv_sub hl [] rfl
                      exact jn27 1 σ33 ls _ _ hl hw hH
            · have hw := hw.2.2.1 zt
              have hoff : (#[85, 118, 254, 137, 254, 156, 254, 254, 254, 175, 254, 254, 254, 254, 216, 254, 254, 235] : Array Int)[(z15.toInt - 0).toNat]? = some 118 := by rw [zt]; rfl
              refine lv_tableIn (off := 118) (tgt := 157) hx hb dX12_isBody_39 (fun q => ho (Or.inl q)) (fun q => ho (Or.inr q)) hoff rfl ?_
              refine lv_aload_n hx hb dX12_isBody_157 rfl (lv_at hl 1 rfl) ?_
              refine lv_aload_n hx hb dX12_isBody_158 rfl (lv_at hl 1 rfl) ?_
              refine lv_bipush (v := 76) hx hb dX12_isBody_159 (by decide) ?_
              refine w_cVi (As := [.int 76]) (rest := [.ref h0]) hF hH hA mv_X12_415 (fun sz => c_X12_number2 l D t h0 L _ hH.2 76 _ hw sz) dX12_isBody_161 rfl rfl (by decide) rfl hl.1 (Nat.le_of_ble_eq_true rfl) (by decide) rfl (fun z39 σ38 H locs hw hH => ?_)
              refine lv_i2l hx hb dX12_isBody_164 rfl ?_
              refine w_nml hw (fun z40 hw => ?_)
              refine lv_aload_n hx hb dX12_isBody_165 rfl (lv_at hl 1 rfl) ?_
              refine lv_bipush (v := 78) hx hb dX12_isBody_166 (by decide) ?_
              refine w_cVi (As := [.int 78]) (rest := [.long z40, .ref h0]) hF hH hA mv_X12_415 (fun sz => c_X12_number2 l D t h0 L _ hH.2 78 _ hw sz) dX12_isBody_168 rfl rfl (by decide) rfl hl.1 (Nat.le_of_ble_eq_true rfl) (by decide) rfl (fun z42 σ41 H locs hw hH => ?_)
              refine lv_i2l hx hb dX12_isBody_171 rfl ?_
              refine w_nml hw (fun z43 hw => ?_)
              refine w_cVi (As := [.long z40, .long z43]) (rest := []) hF hH hA mv_X12_486 (fun sz => c_X12_lies l D t h0 L _ hH.2 z40 z43 _ hw sz) dX12_isBody_172 rfl rfl (by decide) rfl hl.1 (Nat.le_of_ble_eq_true rfl) (by decide) rfl (fun z45 σ44 H locs hw hH => ?_)
              exact w_retz hF hH hr hlk dX12_isBody_175 hw
            · have hw := hw.2.2.2.1 zt
              have hoff : (#[85, 118, 254, 137, 254, 156, 254, 254, 254, 175, 254, 254, 254, 254, 216, 254, 254, 235] : Array Int)[(z15.toInt - 0).toNat]? = some 254 := by rw [zt]; rfl
              refine lv_tableIn (off := 254) (tgt := 293) hx hb dX12_isBody_39 (fun q => ho (Or.inl q)) (fun q => ho (Or.inr q)) hoff rfl ?_
              have hl : lv_has ls 2 [] := lv_sub hl [] rfl
              exact jn20 () σ13 ls _ _ hl hw hH
            · have hw := hw.2.2.2.2.1 zt
              have hoff : (#[85, 118, 254, 137, 254, 156, 254, 254, 254, 175, 254, 254, 254, 254, 216, 254, 254, 235] : Array Int)[(z15.toInt - 0).toNat]? = some 137 := by rw [zt]; rfl
              refine lv_tableIn (off := 137) (tgt := 176) hx hb dX12_isBody_39 (fun q => ho (Or.inl q)) (fun q => ho (Or.inr q)) hoff rfl ?_
              refine lv_aload_n hx hb dX12_isBody_176 rfl (lv_at hl 1 rfl) ?_
              refine lv_aload_n hx hb dX12_isBody_177 rfl (lv_at hl 1 rfl) ?_
              refine lv_bipush (v := 68) hx hb dX12_isBody_178 (by decide) ?_
              refine w_cVi (As := [.int 68]) (rest := [.ref h0]) hF hH hA mv_X12_415 (fun sz => c_X12_number2 l D t h0 L _ hH.2 68 _ hw sz) dX12_isBody_180 rfl rfl (by decide) rfl hl.1 (Nat.le_of_ble_eq_true rfl) (by decide) rfl (fun z47 σ46 H locs hw hH => ?_)
              refine lv_i2l hx hb dX12_isBody_183 rfl ?_
              refine w_nml hw (fun z48 hw => ?_)
              refine lv_aload_n hx hb dX12_isBody_184 rfl (lv_at hl 1 rfl) ?_
              refine lv_bipush (v := 70) hx hb dX12_isBody_185 (by decide) ?_
              refine w_cVi (As := [.int 70]) (rest := [.long z48, .ref h0]) hF hH hA mv_X12_415 (fun sz => c_X12_number2 l D t h0 L _ hH.2 70 _ hw sz) dX12_isBody_187 rfl rfl (by decide) rfl hl.1 (Nat.le_of_ble_eq_true rfl) (by decide) rfl (fun z50 σ49 H locs hw hH => ?_)
              refine lv_i2l hx hb dX12_isBody_190 rfl ?_
              refine w_nml hw (fun z51 hw => ?_)
              refine w_cVi (As := [.long z48, .long z51]) (rest := []) hF hH hA mv_X12_486 (fun sz => c_X12_lies l D t h0 L _ hH.2 z48 z51 _ hw sz) dX12_isBody_191 rfl rfl (by decide) rfl hl.1 (Nat.le_of_ble_eq_true rfl) (by decide) rfl (fun z53 σ52 H locs hw hH => ?_)
              exact w_retz hF hH hr hlk dX12_isBody_194 hw
            · have hw := hw.2.2.2.2.2.1 zt
              have hoff : (#[85, 118, 254, 137, 254, 156, 254, 254, 254, 175, 254, 254, 254, 254, 216, 254, 254, 235] : Array Int)[(z15.toInt - 0).toNat]? = some 254 := by rw [zt]; rfl
              refine lv_tableIn (off := 254) (tgt := 293) hx hb dX12_isBody_39 (fun q => ho (Or.inl q)) (fun q => ho (Or.inr q)) hoff rfl ?_
              have hl : lv_has ls 2 [] := lv_sub hl [] rfl
              exact jn20 () σ13 ls _ _ hl hw hH
            · have hw := hw.2.2.2.2.2.2.1 zt
              have hoff : (#[85, 118, 254, 137, 254, 156, 254, 254, 254, 175, 254, 254, 254, 254, 216, 254, 254, 235] : Array Int)[(z15.toInt - 0).toNat]? = some 156 := by rw [zt]; rfl
              refine lv_tableIn (off := 156) (tgt := 195) hx hb dX12_isBody_39 (fun q => ho (Or.inl q)) (fun q => ho (Or.inr q)) hoff rfl ?_
              refine lv_aload_n hx hb dX12_isBody_195 rfl (lv_at hl 1 rfl) ?_
              refine lv_aload_n hx hb dX12_isBody_196 rfl (lv_at hl 1 rfl) ?_
              refine lv_bipush (v := 108) hx hb dX12_isBody_197 (by decide) ?_
              refine w_cVi (As := [.int 108]) (rest := [.ref h0]) hF hH hA mv_X12_415 (fun sz => c_X12_number2 l D t h0 L _ hH.2 108 _ hw sz) dX12_isBody_199 rfl rfl (by decide) rfl hl.1 (Nat.le_of_ble_eq_true rfl) (by decide) rfl (fun z55 σ54 H locs hw hH => ?_)
              refine lv_i2l hx hb dX12_isBody_202 rfl ?_
              refine w_nml hw (fun z56 hw => ?_)
              refine lv_aload_n hx hb dX12_isBody_203 rfl (lv_at hl 1 rfl) ?_
              refine lv_bipush (v := 110) hx hb dX12_isBody_204 (by decide) ?_
              refine w_cVi (As := [.int 110]) (rest := [.long z56, .ref h0]) hF hH hA mv_X12_415 (fun sz => c_X12_number2 l D t h0 L _ hH.2 110 _ hw sz) dX12_isBody_206 rfl rfl (by decide) rfl hl.1 (Nat.le_of_ble_eq_true rfl) (by decide) rfl (fun z58 σ57 H locs hw hH => ?_)
              refine lv_i2l hx hb dX12_isBody_209 rfl ?_
              refine w_nml hw (fun z59 hw => ?_)
              refine w_cVi (As := [.long z56, .long z59]) (rest := []) hF hH hA mv_X12_486 (fun sz => c_X12_lies l D t h0 L _ hH.2 z56 z59 _ hw sz) dX12_isBody_210 rfl rfl (by decide) rfl hl.1 (Nat.le_of_ble_eq_true rfl) (by decide) rfl (fun z61 σ60 H locs hw hH => ?_)
              exact w_retz hF hH hr hlk dX12_isBody_213 hw
            · have hw := hw.2.2.2.2.2.2.2.1 zt
              have hoff : (#[85, 118, 254, 137, 254, 156, 254, 254, 254, 175, 254, 254, 254, 254, 216, 254, 254, 235] : Array Int)[(z15.toInt - 0).toNat]? = some 254 := by rw [zt]; rfl
              refine lv_tableIn (off := 254) (tgt := 293) hx hb dX12_isBody_39 (fun q => ho (Or.inl q)) (fun q => ho (Or.inr q)) hoff rfl ?_
              have hl : lv_has ls 2 [] := lv_sub hl [] rfl
              exact jn20 () σ13 ls _ _ hl hw hH
            · have hw := hw.2.2.2.2.2.2.2.2.1 zt
              have hoff : (#[85, 118, 254, 137, 254, 156, 254, 254, 254, 175, 254, 254, 254, 254, 216, 254, 254, 235] : Array Int)[(z15.toInt - 0).toNat]? = some 254 := by rw [zt]; rfl
              refine lv_tableIn (off := 254) (tgt := 293) hx hb dX12_isBody_39 (fun q => ho (Or.inl q)) (fun q => ho (Or.inr q)) hoff rfl ?_
              have hl : lv_has ls 2 [] := lv_sub hl [] rfl
              exact jn20 () σ13 ls _ _ hl hw hH
            · have hw := hw.2.2.2.2.2.2.2.2.2.1 zt
              have hoff : (#[85, 118, 254, 137, 254, 156, 254, 254, 254, 175, 254, 254, 254, 254, 216, 254, 254, 235] : Array Int)[(z15.toInt - 0).toNat]? = some 254 := by rw [zt]; rfl
              refine lv_tableIn (off := 254) (tgt := 293) hx hb dX12_isBody_39 (fun q => ho (Or.inl q)) (fun q => ho (Or.inr q)) hoff rfl ?_
              have hl : lv_has ls 2 [] := lv_sub hl [] rfl
              exact jn20 () σ13 ls _ _ hl hw hH
            · have hw := hw.2.2.2.2.2.2.2.2.2.2.1 zt
              have hoff : (#[85, 118, 254, 137, 254, 156, 254, 254, 254, 175, 254, 254, 254, 254, 216, 254, 254, 235] : Array Int)[(z15.toInt - 0).toNat]? = some 175 := by rw [zt]; rfl
              refine lv_tableIn (off := 175) (tgt := 214) hx hb dX12_isBody_39 (fun q => ho (Or.inl q)) (fun q => ho (Or.inr q)) hoff rfl ?_
              refine lv_aload_n hx hb dX12_isBody_214 rfl (lv_at hl 1 rfl) ?_
              refine lv_bipush (v := 68) hx hb dX12_isBody_215 (by decide) ?_
              refine lv_iconst (v := 4) hx hb dX12_isBody_217 (by decide) ?_
              refine w_cVl (As := [.int 68, .int 4]) (rest := []) hF hH hA mv_X12_364 (fun sz => c_X12_number l D t h0 L _ hH.2 68 4 _ hw sz) dX12_isBody_218 rfl rfl (by decide) rfl hl.1 (Nat.le_of_ble_eq_true rfl) (by decide) rfl (fun z63 σ62 H locs hw hH => ?_)
              refine lv_ldc2 (v := 1024) hx hb hF.1.2.2.2.1 (hF.1.2.2.2.2 _ (wc_51 29 rfl)) dX12_isBody_221 ?_
              obtain ⟨K66, hK67, hw⟩ := jn_open hw
              refine w_join (K := K66) 254 (fun (x64 : Int32) => []) (fun (x64 : Int32) => [.int x64]) hl hH (fun x64 σ65 ls H locs hl hw hH => ?_) (fun jn68 => ?_)
              · have hw := hK67 x64 σ65 hw
                have hl : lv_has ls 2 [] := hl
                exact w_retz hF hH hr hlk dX12_isBody_254 hw
              · skip
                obtain ⟨K71, hK72, hw⟩ := jn_open hw
                refine w_join (K := K71) 253 (fun (x69 : Unit) => []) (fun (x69 : Unit) => []) hl hH (fun x69 σ70 ls H locs hl hw hH => ?_) (fun jn73 => ?_)
                · have hw := hK72 x69 σ70 hw
                  have hl : lv_has ls 2 [] := hl
                  refine lv_iconst (v := 0) hx hb dX12_isBody_253 (by decide) ?_
                  exact jn68 0 σ70 ls _ _ hl hw hH
                · skip
                  refine w_lif_gt (tgt := 253) hF dX12_isBody_224 dX12_isBody_225 rfl hw (fun hw => ?_) (fun hw => ?_)
                  · have hl : lv_has ls 2 [] := lv_sub hl [] rfl
                    exact jn73 () σ62 ls _ _ hl hw hH
                  · refine lv_aload_n hx hb dX12_isBody_228 rfl (lv_at hl 1 rfl) ?_
                    refine lv_aload_n hx hb dX12_isBody_229 rfl (lv_at hl 1 rfl) ?_
                    refine lv_bipush (v := 66) hx hb dX12_isBody_230 (by decide) ?_
                    refine w_cVi (As := [.int 66]) (rest := [.ref h0]) hF hH hA mv_X12_415 (fun sz => c_X12_number2 l D t h0 L _ hH.2 66 _ hw sz) dX12_isBody_232 rfl rfl (by decide) rfl hl.1 (Nat.le_of_ble_eq_true rfl) (by decide) rfl (fun z75 σ74 H locs hw hH => ?_)
                    refine lv_i2l hx hb dX12_isBody_235 rfl ?_
                    refine w_nml hw (fun z76 hw => ?_)
                    refine lv_aload_n hx hb dX12_isBody_236 rfl (lv_at hl 1 rfl) ?_
                    refine lv_bipush (v := 68) hx hb dX12_isBody_237 (by decide) ?_
                    refine lv_iconst (v := 4) hx hb dX12_isBody_239 (by decide) ?_
                    refine w_cVl (As := [.int 68, .int 4]) (rest := [.long z76, .ref h0]) hF hH hA mv_X12_364 (fun sz => c_X12_number l D t h0 L _ hH.2 68 4 _ hw sz) dX12_isBody_240 rfl rfl (by decide) rfl hl.1 (Nat.le_of_ble_eq_true rfl) (by decide) rfl (fun z78 σ77 H locs hw hH => ?_)
                    refine w_cVi (As := [.long z76, .long z78]) (rest := []) hF hH hA mv_X12_486 (fun sz => c_X12_lies l D t h0 L _ hH.2 z76 z78 _ hw sz) dX12_isBody_243 rfl rfl (by decide) rfl hl.1 (Nat.le_of_ble_eq_true rfl) (by decide) rfl (fun z80 σ79 H locs hw hH => ?_)
                    refine w_if_eq (tgt := 253) hF dX12_isBody_246 rfl hw (fun hw => ?_) (fun hw => ?_)
                    · have hl : lv_has ls 2 [] := lv_sub hl [] rfl
                      exact jn73 () σ79 ls _ _ hl hw hH
                    · refine lv_iconst (v := 1) hx hb dX12_isBody_249 (by decide) ?_
                      refine lv_goto (tgt := 254) hx hb dX12_isBody_250 rfl ?_
                      have hl : lv_has ls 2 [] := lv_sub hl [] rfl
                      exact jn68 1 σ79 ls _ _ hl hw hH
            · have hw := hw.2.2.2.2.2.2.2.2.2.2.2.1 zt
              have hoff : (#[85, 118, 254, 137, 254, 156, 254, 254, 254, 175, 254, 254, 254, 254, 216, 254, 254, 235] : Array Int)[(z15.toInt - 0).toNat]? = some 254 := by rw [zt]; rfl
              refine lv_tableIn (off := 254) (tgt := 293) hx hb dX12_isBody_39 (fun q => ho (Or.inl q)) (fun q => ho (Or.inr q)) hoff rfl ?_
              have hl : lv_has ls 2 [] := lv_sub hl [] rfl
              exact jn20 () σ13 ls _ _ hl hw hH
            · have hw := hw.2.2.2.2.2.2.2.2.2.2.2.2.1 zt
              have hoff : (#[85, 118, 254, 137, 254, 156, 254, 254, 254, 175, 254, 254, 254, 254, 216, 254, 254, 235] : Array Int)[(z15.toInt - 0).toNat]? = some 254 := by rw [zt]; rfl
              refine lv_tableIn (off := 254) (tgt := 293) hx hb dX12_isBody_39 (fun q => ho (Or.inl q)) (fun q => ho (Or.inr q)) hoff rfl ?_
              have hl : lv_has ls 2 [] := lv_sub hl [] rfl
              exact jn20 () σ13 ls _ _ hl hw hH
            · have hw := hw.2.2.2.2.2.2.2.2.2.2.2.2.2.1 zt
              have hoff : (#[85, 118, 254, 137, 254, 156, 254, 254, 254, 175, 254, 254, 254, 254, 216, 254, 254, 235] : Array Int)[(z15.toInt - 0).toNat]? = some 254 := by rw [zt]; rfl
              refine lv_tableIn (off := 254) (tgt := 293) hx hb dX12_isBody_39 (fun q => ho (Or.inl q)) (fun q => ho (Or.inr q)) hoff rfl ?_
              have hl : lv_has ls 2 [] := lv_sub hl [] rfl
              exact jn20 () σ13 ls _ _ hl hw hH
            · have hw := hw.2.2.2.2.2.2.2.2.2.2.2.2.2.2.1 zt
              have hoff : (#[85, 118, 254, 137, 254, 156, 254, 254, 254, 175, 254, 254, 254, 254, 216, 254, 254, 235] : Array Int)[(z15.toInt - 0).toNat]? = some 254 := by rw [zt]; rfl
              refine lv_tableIn (off := 254) (tgt := 293) hx hb dX12_isBody_39 (fun q => ho (Or.inl q)) (fun q => ho (Or.inr q)) hoff rfl ?_
              have hl : lv_has ls 2 [] := lv_sub hl [] rfl
              exact jn20 () σ13 ls _ _ hl hw hH
            · have hw := hw.2.2.2.2.2.2.2.2.2.2.2.2.2.2.2.1 zt
              have hoff : (#[85, 118, 254, 137, 254, 156, 254, 254, 254, 175, 254, 254, 254, 254, 216, 254, 254, 235] : Array Int)[(z15.toInt - 0).toNat]? = some 216 := by rw [zt]; rfl
              refine lv_tableIn (off := 216) (tgt := 255) hx hb dX12_isBody_39 (fun q => ho (Or.inl q)) (fun q => ho (Or.inr q)) hoff rfl ?_
              refine lv_aload_n hx hb dX12_isBody_255 rfl (lv_at hl 1 rfl) ?_
              refine lv_aload_n hx hb dX12_isBody_256 rfl (lv_at hl 1 rfl) ?_
              refine lv_bipush (v := 88) hx hb dX12_isBody_257 (by decide) ?_
              refine w_cVi (As := [.int 88]) (rest := [.ref h0]) hF hH hA mv_X12_415 (fun sz => c_X12_number2 l D t h0 L _ hH.2 88 _ hw sz) dX12_isBody_259 rfl rfl (by decide) rfl hl.1 (Nat.le_of_ble_eq_true rfl) (by decide) rfl (fun z82 σ81 H locs hw hH => ?_)
              refine lv_i2l hx hb dX12_isBody_262 rfl ?_
              refine w_nml hw (fun z83 hw => ?_)
              refine lv_aload_n hx hb dX12_isBody_263 rfl (lv_at hl 1 rfl) ?_
              refine lv_bipush (v := 90) hx hb dX12_isBody_264 (by decide) ?_
              refine w_cVi (As := [.int 90]) (rest := [.long z83, .ref h0]) hF hH hA mv_X12_415 (fun sz => c_X12_number2 l D t h0 L _ hH.2 90 _ hw sz) dX12_isBody_266 rfl rfl (by decide) rfl hl.1 (Nat.le_of_ble_eq_true rfl) (by decide) rfl (fun z85 σ84 H locs hw hH => ?_)
              refine lv_i2l hx hb dX12_isBody_269 rfl ?_
              refine w_nml hw (fun z86 hw => ?_)
              refine w_cVi (As := [.long z83, .long z86]) (rest := []) hF hH hA mv_X12_486 (fun sz => c_X12_lies l D t h0 L _ hH.2 z83 z86 _ hw sz) dX12_isBody_270 rfl rfl (by decide) rfl hl.1 (Nat.le_of_ble_eq_true rfl) (by decide) rfl (fun z88 σ87 H locs hw hH => ?_)
              exact w_retz hF hH hr hlk dX12_isBody_273 hw
            · have hw := hw.2.2.2.2.2.2.2.2.2.2.2.2.2.2.2.2.1 zt
              have hoff : (#[85, 118, 254, 137, 254, 156, 254, 254, 254, 175, 254, 254, 254, 254, 216, 254, 254, 235] : Array Int)[(z15.toInt - 0).toNat]? = some 254 := by rw [zt]; rfl
              refine lv_tableIn (off := 254) (tgt := 293) hx hb dX12_isBody_39 (fun q => ho (Or.inl q)) (fun q => ho (Or.inr q)) hoff rfl ?_
              have hl : lv_has ls 2 [] := lv_sub hl [] rfl
              exact jn20 () σ13 ls _ _ hl hw hH
            · have hw := hw.2.2.2.2.2.2.2.2.2.2.2.2.2.2.2.2.2.1 zt
              have hoff : (#[85, 118, 254, 137, 254, 156, 254, 254, 254, 175, 254, 254, 254, 254, 216, 254, 254, 235] : Array Int)[(z15.toInt - 0).toNat]? = some 254 := by rw [zt]; rfl
              refine lv_tableIn (off := 254) (tgt := 293) hx hb dX12_isBody_39 (fun q => ho (Or.inl q)) (fun q => ho (Or.inr q)) hoff rfl ?_
              have hl : lv_has ls 2 [] := lv_sub hl [] rfl
              exact jn20 () σ13 ls _ _ hl hw hH
            · have hw := hw.2.2.2.2.2.2.2.2.2.2.2.2.2.2.2.2.2.2 zt
              have hoff : (#[85, 118, 254, 137, 254, 156, 254, 254, 254, 175, 254, 254, 254, 254, 216, 254, 254, 235] : Array Int)[(z15.toInt - 0).toNat]? = some 235 := by rw [zt]; rfl
              refine lv_tableIn (off := 235) (tgt := 274) hx hb dX12_isBody_39 (fun q => ho (Or.inl q)) (fun q => ho (Or.inr q)) hoff rfl ?_
              refine lv_aload_n hx hb dX12_isBody_274 rfl (lv_at hl 1 rfl) ?_
              refine lv_aload_n hx hb dX12_isBody_275 rfl (lv_at hl 1 rfl) ?_
              refine lv_bipush (v := 72) hx hb dX12_isBody_276 (by decide) ?_
              refine w_cVi (As := [.int 72]) (rest := [.ref h0]) hF hH hA mv_X12_415 (fun sz => c_X12_number2 l D t h0 L _ hH.2 72 _ hw sz) dX12_isBody_278 rfl rfl (by decide) rfl hl.1 (Nat.le_of_ble_eq_true rfl) (by decide) rfl (fun z90 σ89 H locs hw hH => ?_)
              refine lv_i2l hx hb dX12_isBody_281 rfl ?_
              refine w_nml hw (fun z91 hw => ?_)
              refine lv_aload_n hx hb dX12_isBody_282 rfl (lv_at hl 1 rfl) ?_
              refine lv_bipush (v := 68) hx hb dX12_isBody_283 (by decide) ?_
              refine lv_iconst (v := 4) hx hb dX12_isBody_285 (by decide) ?_
              refine w_cVl (As := [.int 68, .int 4]) (rest := [.long z91, .ref h0]) hF hH hA mv_X12_364 (fun sz => c_X12_number l D t h0 L _ hH.2 68 4 _ hw sz) dX12_isBody_286 rfl rfl (by decide) rfl hl.1 (Nat.le_of_ble_eq_true rfl) (by decide) rfl (fun z93 σ92 H locs hw hH => ?_)
              refine w_cVi (As := [.long z91, .long z93]) (rest := []) hF hH hA mv_X12_486 (fun sz => c_X12_lies l D t h0 L _ hH.2 z91 z93 _ hw sz) dX12_isBody_289 rfl rfl (by decide) rfl hl.1 (Nat.le_of_ble_eq_true rfl) (by decide) rfl (fun z95 σ94 H locs hw hH => ?_)
              exact w_retz hF hH hr hlk dX12_isBody_292 hw
      · have hl : lv_has ls 2 [] := lv_sub hl [] rfl
        exact jn12 () σ13 ls _ _ hl hw hH
def F_X12_negotiate (h0 : Nat) (L : Nat → Nat)  (post : Int64 → HS → Prop) (σ : HS) : Prop := F_X12_number2 h0 L 66 (fun (z2 : Int32) (σ1 : HS) => lw (fun (K5 : (Int32 × Int32) → HS → Prop) (x3 : Int32 × Int32) (σ4 : HS) => ((z2.toInt ≤ x3.1.toInt) → ((¬ x3.2.toInt = 0) → ∀ z7 : Int32, z7 = sI σ4 h0 88 → (0 ≤ z7.toInt ∧ z7.toInt < 6) ∧ ∀ σ8 : HS, σ8 = h_uI σ4 (L 26) z7.toInt.toNat (vp_nar .boolean 1) → F_X12_body h0 L 65 (fun (σ9 : HS) => F_X12_set h0 L 64 2 65 (fun (σ11 : HS) => F_X12_set h0 L 66 2 1 (fun (σ13 : HS) => F_X12_set h0 L 68 2 514 (fun (σ15 : HS) => F_X12_set h0 L 92 4 1024 (fun (σ17 : HS) => F_X12_set h0 L 96 4 1024 (fun (σ19 : HS) => F_X12_set h0 L 100 4 1024 (fun (σ21 : HS) => ∀ z23 : Int64, z23 = sJ σ21 h0 2 → F_X12_set h0 L 104 8 z23 (fun (σ24 : HS) => F_X12_set h0 L 120 2 128 (fun (σ26 : HS) => post 0 σ26) σ24) σ21) σ19) σ17) σ15) σ13) σ11) σ9) σ8) ∧ ((x3.2.toInt = 0) → post 3221225659 σ4)) ∧ ((x3.1.toInt < z2.toInt) → ∀ z28 : Int32, z28 = 2 * x3.1 → ∀ z29 : Int32, z29 = 100 + z28 → F_X12_number2 h0 L z29 (fun (z31 : Int32) (σ30 : HS) => jn (fun (K34 : Int32 → HS → Prop) => ((¬ z31.toInt = (514 : Int32).toInt) → K34 0 σ30) ∧ ((z31.toInt = (514 : Int32).toInt) → K34 1 σ30)) (fun (x32 : Int32) (σ33 : HS) => ∀ z37 : Int32, z37 = x3.2 ||| x32 → ∀ z38 : Int32, z38 = x3.1 + 1 → K5 (z38, z37) σ33)) σ4)) (0, 0) σ1) σ
theorem dX12_negotiate_0 : decode cX12_negotiate 0 = .ok (.aload_n 0, 1) := by decide +kernel
theorem dX12_negotiate_1 : decode cX12_negotiate 1 = .ok (.bipush 66, 2) := by decide +kernel
theorem dX12_negotiate_3 : decode cX12_negotiate 3 = .ok (.invokevirtual 415, 3) := by decide +kernel
theorem dX12_negotiate_6 : decode cX12_negotiate 6 = .ok (.istore_n 1, 1) := by decide +kernel
theorem dX12_negotiate_7 : decode cX12_negotiate 7 = .ok (.iconst 0, 1) := by decide +kernel
theorem dX12_negotiate_8 : decode cX12_negotiate 8 = .ok (.istore_n 2, 1) := by decide +kernel
theorem dX12_negotiate_9 : decode cX12_negotiate 9 = .ok (.iconst 0, 1) := by decide +kernel
theorem dX12_negotiate_10 : decode cX12_negotiate 10 = .ok (.istore_n 3, 1) := by decide +kernel
theorem dX12_negotiate_11 : decode cX12_negotiate 11 = .ok (.iload_n 3, 1) := by decide +kernel
theorem dX12_negotiate_12 : decode cX12_negotiate 12 = .ok (.iload_n 1, 1) := by decide +kernel
theorem dX12_negotiate_13 : decode cX12_negotiate 13 = .ok (.if_icmp .ge 33, 3) := by decide +kernel
theorem dX12_negotiate_16 : decode cX12_negotiate 16 = .ok (.iload_n 2, 1) := by decide +kernel
theorem dX12_negotiate_17 : decode cX12_negotiate 17 = .ok (.aload_n 0, 1) := by decide +kernel
theorem dX12_negotiate_18 : decode cX12_negotiate 18 = .ok (.bipush 100, 2) := by decide +kernel
theorem dX12_negotiate_20 : decode cX12_negotiate 20 = .ok (.iconst 2, 1) := by decide +kernel
theorem dX12_negotiate_21 : decode cX12_negotiate 21 = .ok (.iload_n 3, 1) := by decide +kernel
theorem dX12_negotiate_22 : decode cX12_negotiate 22 = .ok (.imul, 1) := by decide +kernel
theorem dX12_negotiate_23 : decode cX12_negotiate 23 = .ok (.iadd, 1) := by decide +kernel
theorem dX12_negotiate_24 : decode cX12_negotiate 24 = .ok (.invokevirtual 415, 3) := by decide +kernel
theorem dX12_negotiate_27 : decode cX12_negotiate 27 = .ok (.sipush 514, 3) := by decide +kernel
theorem dX12_negotiate_30 : decode cX12_negotiate 30 = .ok (.if_icmp .ne 7, 3) := by decide +kernel
theorem dX12_negotiate_33 : decode cX12_negotiate 33 = .ok (.iconst 1, 1) := by decide +kernel
theorem dX12_negotiate_34 : decode cX12_negotiate 34 = .ok (.goto 4, 3) := by decide +kernel
theorem dX12_negotiate_37 : decode cX12_negotiate 37 = .ok (.iconst 0, 1) := by decide +kernel
theorem dX12_negotiate_38 : decode cX12_negotiate 38 = .ok (.ior, 1) := by decide +kernel
theorem dX12_negotiate_39 : decode cX12_negotiate 39 = .ok (.istore_n 2, 1) := by decide +kernel
theorem dX12_negotiate_40 : decode cX12_negotiate 40 = .ok (.iinc 3 1, 3) := by decide +kernel
theorem dX12_negotiate_43 : decode cX12_negotiate 43 = .ok (.goto (-32), 3) := by decide +kernel
theorem dX12_negotiate_46 : decode cX12_negotiate 46 = .ok (.iload_n 2, 1) := by decide +kernel
theorem dX12_negotiate_47 : decode cX12_negotiate 47 = .ok (.ifCond .ne 7, 3) := by decide +kernel
theorem dX12_negotiate_50 : decode cX12_negotiate 50 = .ok (.ldc2_w 512, 3) := by decide +kernel
theorem dX12_negotiate_53 : decode cX12_negotiate 53 = .ok (.lreturn, 1) := by decide +kernel
theorem dX12_negotiate_54 : decode cX12_negotiate 54 = .ok (.aload_n 0, 1) := by decide +kernel
theorem dX12_negotiate_55 : decode cX12_negotiate 55 = .ok (.getfield 92, 3) := by decide +kernel
theorem dX12_negotiate_58 : decode cX12_negotiate 58 = .ok (.aload_n 0, 1) := by decide +kernel
theorem dX12_negotiate_59 : decode cX12_negotiate 59 = .ok (.getfield 382, 3) := by decide +kernel
theorem dX12_negotiate_62 : decode cX12_negotiate 62 = .ok (.iconst 1, 1) := by decide +kernel
theorem dX12_negotiate_63 : decode cX12_negotiate 63 = .ok (.bastore, 1) := by decide +kernel
theorem dX12_negotiate_64 : decode cX12_negotiate 64 = .ok (.aload_n 0, 1) := by decide +kernel
theorem dX12_negotiate_65 : decode cX12_negotiate 65 = .ok (.bipush 65, 2) := by decide +kernel
theorem dX12_negotiate_67 : decode cX12_negotiate 67 = .ok (.invokevirtual 456, 3) := by decide +kernel
theorem dX12_negotiate_70 : decode cX12_negotiate 70 = .ok (.aload_n 0, 1) := by decide +kernel
theorem dX12_negotiate_71 : decode cX12_negotiate 71 = .ok (.bipush 64, 2) := by decide +kernel
theorem dX12_negotiate_73 : decode cX12_negotiate 73 = .ok (.iconst 2, 1) := by decide +kernel
theorem dX12_negotiate_74 : decode cX12_negotiate 74 = .ok (.ldc2_w 594, 3) := by decide +kernel
theorem dX12_negotiate_77 : decode cX12_negotiate 77 = .ok (.invokevirtual 376, 3) := by decide +kernel
theorem dX12_negotiate_80 : decode cX12_negotiate 80 = .ok (.aload_n 0, 1) := by decide +kernel
theorem dX12_negotiate_81 : decode cX12_negotiate 81 = .ok (.bipush 66, 2) := by decide +kernel
theorem dX12_negotiate_83 : decode cX12_negotiate 83 = .ok (.iconst 2, 1) := by decide +kernel
theorem dX12_negotiate_84 : decode cX12_negotiate 84 = .ok (.lconst 1, 1) := by decide +kernel
theorem dX12_negotiate_85 : decode cX12_negotiate 85 = .ok (.invokevirtual 376, 3) := by decide +kernel
theorem dX12_negotiate_88 : decode cX12_negotiate 88 = .ok (.aload_n 0, 1) := by decide +kernel
theorem dX12_negotiate_89 : decode cX12_negotiate 89 = .ok (.bipush 68, 2) := by decide +kernel
theorem dX12_negotiate_91 : decode cX12_negotiate 91 = .ok (.iconst 2, 1) := by decide +kernel
theorem dX12_negotiate_92 : decode cX12_negotiate 92 = .ok (.ldc2_w 596, 3) := by decide +kernel
theorem dX12_negotiate_95 : decode cX12_negotiate 95 = .ok (.invokevirtual 376, 3) := by decide +kernel
theorem dX12_negotiate_98 : decode cX12_negotiate 98 = .ok (.aload_n 0, 1) := by decide +kernel
theorem dX12_negotiate_99 : decode cX12_negotiate 99 = .ok (.bipush 92, 2) := by decide +kernel
theorem dX12_negotiate_101 : decode cX12_negotiate 101 = .ok (.iconst 4, 1) := by decide +kernel
theorem dX12_negotiate_102 : decode cX12_negotiate 102 = .ok (.ldc2_w 490, 3) := by decide +kernel
theorem dX12_negotiate_105 : decode cX12_negotiate 105 = .ok (.invokevirtual 376, 3) := by decide +kernel
theorem dX12_negotiate_108 : decode cX12_negotiate 108 = .ok (.aload_n 0, 1) := by decide +kernel
theorem dX12_negotiate_109 : decode cX12_negotiate 109 = .ok (.bipush 96, 2) := by decide +kernel
theorem dX12_negotiate_111 : decode cX12_negotiate 111 = .ok (.iconst 4, 1) := by decide +kernel
theorem dX12_negotiate_112 : decode cX12_negotiate 112 = .ok (.ldc2_w 490, 3) := by decide +kernel
theorem dX12_negotiate_115 : decode cX12_negotiate 115 = .ok (.invokevirtual 376, 3) := by decide +kernel
theorem dX12_negotiate_118 : decode cX12_negotiate 118 = .ok (.aload_n 0, 1) := by decide +kernel
theorem dX12_negotiate_119 : decode cX12_negotiate 119 = .ok (.bipush 100, 2) := by decide +kernel
theorem dX12_negotiate_121 : decode cX12_negotiate 121 = .ok (.iconst 4, 1) := by decide +kernel
theorem dX12_negotiate_122 : decode cX12_negotiate 122 = .ok (.ldc2_w 490, 3) := by decide +kernel
theorem dX12_negotiate_125 : decode cX12_negotiate 125 = .ok (.invokevirtual 376, 3) := by decide +kernel
theorem dX12_negotiate_128 : decode cX12_negotiate 128 = .ok (.aload_n 0, 1) := by decide +kernel
theorem dX12_negotiate_129 : decode cX12_negotiate 129 = .ok (.bipush 104, 2) := by decide +kernel
theorem dX12_negotiate_131 : decode cX12_negotiate 131 = .ok (.bipush 8, 2) := by decide +kernel
theorem dX12_negotiate_133 : decode cX12_negotiate 133 = .ok (.aload_n 0, 1) := by decide +kernel
theorem dX12_negotiate_134 : decode cX12_negotiate 134 = .ok (.getfield 322, 3) := by decide +kernel
theorem dX12_negotiate_137 : decode cX12_negotiate 137 = .ok (.invokevirtual 376, 3) := by decide +kernel
theorem dX12_negotiate_140 : decode cX12_negotiate 140 = .ok (.aload_n 0, 1) := by decide +kernel
theorem dX12_negotiate_141 : decode cX12_negotiate 141 = .ok (.bipush 120, 2) := by decide +kernel
theorem dX12_negotiate_143 : decode cX12_negotiate 143 = .ok (.iconst 2, 1) := by decide +kernel
theorem dX12_negotiate_144 : decode cX12_negotiate 144 = .ok (.ldc2_w 598, 3) := by decide +kernel
theorem dX12_negotiate_147 : decode cX12_negotiate 147 = .ok (.invokevirtual 376, 3) := by decide +kernel
theorem dX12_negotiate_150 : decode cX12_negotiate 150 = .ok (.lconst 0, 1) := by decide +kernel
theorem dX12_negotiate_151 : decode cX12_negotiate 151 = .ok (.lreturn, 1) := by decide +kernel
set_option maxRecDepth 100000 in
set_option maxHeartbeats 4000000 in
theorem c_X12_negotiate (l : Launch) (D : va_G) (t : Nat → ClassId) (h0 : Nat) (L : Nat → Nat) (σ : HS) (hM : MdI h0 L σ)  (post : Int64 → HS → Prop) (hw : F_X12_negotiate h0 L  post σ) (sz : Nat) : RMl l D t yX12_negotiate cX12_negotiate 4 (some .long) ({ frames := 2, cells := 0, slots := 0, locals := 46 }) h0 L σ sz [.ref h0] post := by
  refine h_go (τ := τT) okT (by decide) (Nat.le_of_ble_eq_true rfl) ?_
  intro p e s m below meth c ls A hF hr hlk hAe hH0 hA hl
  unfold hB
  rw [hAe]
  clear hAe
  have hF : FX p m c cX12_negotiate 4 s _ RX12 D t := hF
  have hx := hF.1.1
  have hb := hF.1.2.1
  have hH : RT D t A s.heap h0 L σ s.heap [] := ⟨hH0, hM⟩
  have hl : lv_has ls 4 [(0, .ref h0)] := hl
  unfold F_X12_negotiate at hw
  refine lv_aload_n hx hb dX12_negotiate_0 rfl (lv_at hl 0 rfl) ?_
  refine lv_bipush (v := 66) hx hb dX12_negotiate_1 (by decide) ?_
  refine w_cVi (As := [.int 66]) (rest := []) hF hH hA mv_X12_415 (fun sz => c_X12_number2 l D t h0 L _ hH.2 66 _ hw sz) dX12_negotiate_3 rfl rfl (by decide) rfl hl.1 (Nat.le_of_ble_eq_true rfl) (by decide) rfl (fun z2 σ1 H locs hw hH => ?_)
  refine lv_istore_n (lv' := [(1, .int z2), (0, .ref h0)]) hx hb dX12_negotiate_6 rfl hl (by decide) rfl (fun ls hl => ?_)
  refine lv_iconst (v := 0) hx hb dX12_negotiate_7 (by decide) ?_
  refine lv_istore_n (lv' := [(2, .int 0), (1, .int z2), (0, .ref h0)]) hx hb dX12_negotiate_8 rfl hl (by decide) rfl (fun ls hl => ?_)
  refine lv_iconst (v := 0) hx hb dX12_negotiate_9 (by decide) ?_
  refine lv_istore_n (lv' := [(3, .int 0), (2, .int 0), (1, .int z2), (0, .ref h0)]) hx hb dX12_negotiate_10 rfl hl (by decide) rfl (fun ls hl => ?_)
  refine w_loop (β := Int32 × Int32) (fun x3 => [(3, .int x3.1), (2, .int x3.2), (1, .int z2), (0, .ref h0)]) (0, 0) hl hw hH (fun K5 x3 σ4 ls H locs hl hw hH ih6 => ?_)
  have hl : lv_has ls 4 [(3, .int x3.1), (2, .int x3.2), (1, .int z2), (0, .ref h0)] := hl
  refine lv_iload_n hx hb dX12_negotiate_11 rfl (lv_at hl 0 rfl) ?_
  refine lv_iload_n hx hb dX12_negotiate_12 rfl (lv_at hl 2 rfl) ?_
  refine w_icmp_ge (tgt := 46) hF dX12_negotiate_13 rfl hw (fun hw => ?_) (fun hw => ?_)
  · refine lv_iload_n hx hb dX12_negotiate_46 rfl (lv_at hl 1 rfl) ?_
    refine w_if_ne (tgt := 54) hF dX12_negotiate_47 rfl hw (fun hw => ?_) (fun hw => ?_)
    · refine lv_aload_n hx hb dX12_negotiate_54 rfl (lv_at hl 3 rfl) ?_
      refine w_getA 26 hF hH fk_X12_92 dX12_negotiate_55 (by decide) rfl ?_
      refine lv_aload_n hx hb dX12_negotiate_58 rfl (lv_at hl 3 rfl) ?_
      refine w_getI hF hH fk_X12_382 dX12_negotiate_59 hw (fun z7 hw => ?_)
      refine lv_iconst (v := 1) hx hb dX12_negotiate_62 (by decide) ?_
      refine w_zast 26 6 hF hH dX12_negotiate_63 (by decide) rfl rfl hw (fun σ8 H locs hw hH => ?_)
      refine lv_aload_n hx hb dX12_negotiate_64 rfl (lv_at hl 3 rfl) ?_
      refine lv_bipush (v := 65) hx hb dX12_negotiate_65 (by decide) ?_
      refine w_cVv (As := [.int 65]) (rest := []) hF hH hA mv_X12_456 (fun sz => c_X12_body l D t h0 L _ hH.2 65 _ hw sz) dX12_negotiate_67 rfl rfl (by decide) rfl hl.1 (Nat.le_of_ble_eq_true rfl) (by decide) rfl (fun σ9 H locs hw hH => ?_)
      refine lv_aload_n hx hb dX12_negotiate_70 rfl (lv_at hl 3 rfl) ?_
      refine lv_bipush (v := 64) hx hb dX12_negotiate_71 (by decide) ?_
      refine lv_iconst (v := 2) hx hb dX12_negotiate_73 (by decide) ?_
      refine lv_ldc2 (v := 65) hx hb hF.1.2.2.2.1 (hF.1.2.2.2.2 _ (wc_52 39 rfl)) dX12_negotiate_74 ?_
      refine w_cVv (As := [.int 64, .int 2, .long 65]) (rest := []) hF hH hA mv_X12_376 (fun sz => c_X12_set l D t h0 L _ hH.2 64 2 65 _ hw sz) dX12_negotiate_77 rfl rfl (by decide) rfl hl.1 (Nat.le_of_ble_eq_true rfl) (by decide) rfl (fun σ11 H locs hw hH => ?_)
      refine lv_aload_n hx hb dX12_negotiate_80 rfl (lv_at hl 3 rfl) ?_
      refine lv_bipush (v := 66) hx hb dX12_negotiate_81 (by decide) ?_
      refine lv_iconst (v := 2) hx hb dX12_negotiate_83 (by decide) ?_
      refine lv_lconst (v := 1) hx hb dX12_negotiate_84 (by decide) ?_
      refine w_cVv (As := [.int 66, .int 2, .long 1]) (rest := []) hF hH hA mv_X12_376 (fun sz => c_X12_set l D t h0 L _ hH.2 66 2 1 _ hw sz) dX12_negotiate_85 rfl rfl (by decide) rfl hl.1 (Nat.le_of_ble_eq_true rfl) (by decide) rfl (fun σ13 H locs hw hH => ?_)
      refine lv_aload_n hx hb dX12_negotiate_88 rfl (lv_at hl 3 rfl) ?_
      refine lv_bipush (v := 68) hx hb dX12_negotiate_89 (by decide) ?_
      refine lv_iconst (v := 2) hx hb dX12_negotiate_91 (by decide) ?_
      refine lv_ldc2 (v := 514) hx hb hF.1.2.2.2.1 (hF.1.2.2.2.2 _ (wc_53 0 rfl)) dX12_negotiate_92 ?_
      refine w_cVv (As := [.int 68, .int 2, .long 514]) (rest := []) hF hH hA mv_X12_376 (fun sz => c_X12_set l D t h0 L _ hH.2 68 2 514 _ hw sz) dX12_negotiate_95 rfl rfl (by decide) rfl hl.1 (Nat.le_of_ble_eq_true rfl) (by decide) rfl (fun σ15 H locs hw hH => ?_)
      refine lv_aload_n hx hb dX12_negotiate_98 rfl (lv_at hl 3 rfl) ?_
      refine lv_bipush (v := 92) hx hb dX12_negotiate_99 (by decide) ?_
      refine lv_iconst (v := 4) hx hb dX12_negotiate_101 (by decide) ?_
      refine lv_ldc2 (v := 1024) hx hb hF.1.2.2.2.1 (hF.1.2.2.2.2 _ (wc_51 29 rfl)) dX12_negotiate_102 ?_
      refine w_cVv (As := [.int 92, .int 4, .long 1024]) (rest := []) hF hH hA mv_X12_376 (fun sz => c_X12_set l D t h0 L _ hH.2 92 4 1024 _ hw sz) dX12_negotiate_105 rfl rfl (by decide) rfl hl.1 (Nat.le_of_ble_eq_true rfl) (by decide) rfl (fun σ17 H locs hw hH => ?_)
      refine lv_aload_n hx hb dX12_negotiate_108 rfl (lv_at hl 3 rfl) ?_
      refine lv_bipush (v := 96) hx hb dX12_negotiate_109 (by decide) ?_
      refine lv_iconst (v := 4) hx hb dX12_negotiate_111 (by decide) ?_
      refine lv_ldc2 (v := 1024) hx hb hF.1.2.2.2.1 (hF.1.2.2.2.2 _ (wc_51 29 rfl)) dX12_negotiate_112 ?_
      refine w_cVv (As := [.int 96, .int 4, .long 1024]) (rest := []) hF hH hA mv_X12_376 (fun sz => c_X12_set l D t h0 L _ hH.2 96 4 1024 _ hw sz) dX12_negotiate_115 rfl rfl (by decide) rfl hl.1 (Nat.le_of_ble_eq_true rfl) (by decide) rfl (fun σ19 H locs hw hH => ?_)
      refine lv_aload_n hx hb dX12_negotiate_118 rfl (lv_at hl 3 rfl) ?_
      refine lv_bipush (v := 100) hx hb dX12_negotiate_119 (by decide) ?_
      refine lv_iconst (v := 4) hx hb dX12_negotiate_121 (by decide) ?_
      refine lv_ldc2 (v := 1024) hx hb hF.1.2.2.2.1 (hF.1.2.2.2.2 _ (wc_51 29 rfl)) dX12_negotiate_122 ?_
      refine w_cVv (As := [.int 100, .int 4, .long 1024]) (rest := []) hF hH hA mv_X12_376 (fun sz => c_X12_set l D t h0 L _ hH.2 100 4 1024 _ hw sz) dX12_negotiate_125 rfl rfl (by decide) rfl hl.1 (Nat.le_of_ble_eq_true rfl) (by decide) rfl (fun σ21 H locs hw hH => ?_)
      refine lv_aload_n hx hb dX12_negotiate_128 rfl (lv_at hl 3 rfl) ?_
      refine lv_bipush (v := 104) hx hb dX12_negotiate_129 (by decide) ?_
      refine lv_bipush (v := 8) hx hb dX12_negotiate_131 (by decide) ?_
      refine lv_aload_n hx hb dX12_negotiate_133 rfl (lv_at hl 3 rfl) ?_
      refine w_getJ hF hH fk_X12_322 dX12_negotiate_134 hw (fun z23 hw => ?_)
      refine w_cVv (As := [.int 104, .int 8, .long z23]) (rest := []) hF hH hA mv_X12_376 (fun sz => c_X12_set l D t h0 L _ hH.2 104 8 z23 _ hw sz) dX12_negotiate_137 rfl rfl (by decide) rfl hl.1 (Nat.le_of_ble_eq_true rfl) (by decide) rfl (fun σ24 H locs hw hH => ?_)
      refine lv_aload_n hx hb dX12_negotiate_140 rfl (lv_at hl 3 rfl) ?_
      refine lv_bipush (v := 120) hx hb dX12_negotiate_141 (by decide) ?_
      refine lv_iconst (v := 2) hx hb dX12_negotiate_143 (by decide) ?_
      refine lv_ldc2 (v := 128) hx hb hF.1.2.2.2.1 (hF.1.2.2.2.2 _ (wc_53 1 rfl)) dX12_negotiate_144 ?_
      refine w_cVv (As := [.int 120, .int 2, .long 128]) (rest := []) hF hH hA mv_X12_376 (fun sz => c_X12_set l D t h0 L _ hH.2 120 2 128 _ hw sz) dX12_negotiate_147 rfl rfl (by decide) rfl hl.1 (Nat.le_of_ble_eq_true rfl) (by decide) rfl (fun σ26 H locs hw hH => ?_)
      refine lv_lconst (v := 0) hx hb dX12_negotiate_150 (by decide) ?_
      exact w_retl hF hH hr hlk dX12_negotiate_151 hw
    · refine lv_ldc2 (v := 3221225659) hx hb hF.1.2.2.2.1 (hF.1.2.2.2.2 _ (wc_52 1 rfl)) dX12_negotiate_50 ?_
      exact w_retl hF hH hr hlk dX12_negotiate_53 hw
  · refine lv_iload_n hx hb dX12_negotiate_16 rfl (lv_at hl 1 rfl) ?_
    refine lv_aload_n hx hb dX12_negotiate_17 rfl (lv_at hl 3 rfl) ?_
    refine lv_bipush (v := 100) hx hb dX12_negotiate_18 (by decide) ?_
    refine lv_iconst (v := 2) hx hb dX12_negotiate_20 (by decide) ?_
    refine lv_iload_n hx hb dX12_negotiate_21 rfl (lv_at hl 0 rfl) ?_
    refine lv_imul hx hb dX12_negotiate_22 ?_
    refine w_nmi hw (fun z28 hw => ?_)
    refine lv_iadd hx hb dX12_negotiate_23 ?_
    refine w_nmi hw (fun z29 hw => ?_)
    refine w_cVi (As := [.int z29]) (rest := [.int x3.2]) hF hH hA mv_X12_415 (fun sz => c_X12_number2 l D t h0 L _ hH.2 z29 _ hw sz) dX12_negotiate_24 rfl rfl (by decide) rfl hl.1 (Nat.le_of_ble_eq_true rfl) (by decide) rfl (fun z31 σ30 H locs hw hH => ?_)
    refine lv_sipush (v := 514) hx hb dX12_negotiate_27 (by decide) ?_
    obtain ⟨K34, hK35, hw⟩ := jn_open hw
    refine w_join (K := K34) 38 (fun (x32 : Int32) => [(3, .int x3.1), (1, .int z2), (0, .ref h0)]) (fun (x32 : Int32) => [.int x32, .int x3.2]) hl hH (fun x32 σ33 ls H locs hl hw hH => ?_) (fun jn36 => ?_)
    · have hw := hK35 x32 σ33 hw
      have hl : lv_has ls 4 [(3, .int x3.1), (1, .int z2), (0, .ref h0)] := hl
      refine lv_ior hx hb dX12_negotiate_38 ?_
      refine w_nmi hw (fun z37 hw => ?_)
      refine lv_istore_n (lv' := [(2, .int z37), (3, .int x3.1), (1, .int z2), (0, .ref h0)]) hx hb dX12_negotiate_39 rfl hl (by decide) rfl (fun ls hl => ?_)
      obtain ⟨z38, ez38⟩ : ∃ z : Int32, z = x3.1 + 1 := ⟨_, rfl⟩
      have hw := hw z38 ez38
      refine lv_iinc (lv' := [(3, .int z38), (2, .int z37), (1, .int z2), (0, .ref h0)]) (k := 1) (v := z38) hx hb dX12_negotiate_40 hl rfl ez38.symm (by decide) rfl (fun ls hl => ?_)
      refine lv_goto (tgt := 11) hx hb dX12_negotiate_43 rfl ?_
      exact ih6 (z38, z37) σ33 ls _ _ hl hw hH
    · skip
      refine w_icmp_ne (tgt := 37) hF dX12_negotiate_30 rfl hw (fun hw => ?_) (fun hw => ?_)
      · refine lv_iconst (v := 0) hx hb dX12_negotiate_37 (by decide) ?_
        have hl : lv_has ls 4 [(3, .int x3.1), (1, .int z2), (0, .ref h0)] := lv_sub hl [0, 2, 3] rfl
        exact jn36 0 σ30 ls _ _ hl hw hH
      · refine lv_iconst (v := 1) hx hb dX12_negotiate_33 (by decide) ?_
        refine lv_goto (tgt := 38) hx hb dX12_negotiate_34 rfl ?_
        have hl : lv_has ls 4 [(3, .int x3.1), (1, .int z2), (0, .ref h0)] := lv_sub hl [0, 2, 3] rfl
        exact jn36 1 σ30 ls _ _ hl hw hH
def F_X12_setUp (h0 : Nat) (L : Nat → Nat)  (post : Int64 → HS → Prop) (σ : HS) : Prop := F_X12_number2 h0 L 76 (fun (z2 : Int32) (σ1 : HS) => F_X12_number2 h0 L 78 (fun (z4 : Int32) (σ3 : HS) => jn (fun (K7 : Int32 → HS → Prop) => jn (fun (K113 : Unit → HS → Prop) => ((z4.toInt < (1 : Int32).toInt) → K113 () σ3) ∧ (((1 : Int32).toInt ≤ z4.toInt) → (((16 : Int32).toInt < z4.toInt) → K113 () σ3) ∧ ((z4.toInt ≤ (16 : Int32).toInt) → K7 1 σ3))) (fun (x111 : Unit) (σ112 : HS) => K7 0 σ112)) (fun (x5 : Int32) (σ6 : HS) => lw (fun (K12 : (Int32 × Int32) → HS → Prop) (x10 : Int32 × Int32) (σ11 : HS) => jn (fun (K16 : Unit → HS → Prop) => ((z4.toInt ≤ x10.1.toInt) → K16 () σ11) ∧ ((x10.1.toInt < z4.toInt) → ((x10.2.toInt = 0) → K16 () σ11) ∧ ((¬ x10.2.toInt = 0) → ∀ z97 : Int32, z97 = z2 + x10.1 → F_X12_number1 h0 L z97 (fun (z99 : Int32) (σ98 : HS) => jn (fun (K102 : Int32 → HS → Prop) => jn (fun (K108 : Unit → HS → Prop) => ((z99.toInt < (33 : Int32).toInt) → K108 () σ98) ∧ (((33 : Int32).toInt ≤ z99.toInt) → (((126 : Int32).toInt < z99.toInt) → K108 () σ98) ∧ ((z99.toInt ≤ (126 : Int32).toInt) → K102 1 σ98))) (fun (x106 : Unit) (σ107 : HS) => K102 0 σ107)) (fun (x100 : Int32) (σ101 : HS) => ∀ z105 : Int32, z105 = x10.1 + 1 → K12 (z105, x100) σ101)) σ11))) (fun (x14 : Unit) (σ15 : HS) => ((¬ x10.2.toInt = 0) → F_X12_number h0 L 80 8 (fun (z20 : Int64) (σ19 : HS) => lw (fun (K23 : Int32 → HS → Prop) (x21 : Int32) (σ22 : HS) => jn (fun (K27 : Unit → HS → Prop) => (((8 : Int32).toInt ≤ x21.toInt) → K27 () σ22) ∧ ((x21.toInt < (8 : Int32).toInt) → jn (fun (K62 : Int32 → HS → Prop) => jn (fun (K92 : Unit → HS → Prop) => ((z20.toInt = (0 : Int64).toInt) → K92 () σ22) ∧ ((¬ z20.toInt = (0 : Int64).toInt) → (0 ≤ x21.toInt ∧ x21.toInt < 8) ∧ ∀ z95 : Int64, z95 = sJ σ22 (L 34) x21.toInt.toNat → ((¬ z95.toInt = z20.toInt) → K92 () σ22) ∧ ((z95.toInt = z20.toInt) → (0 ≤ x21.toInt ∧ x21.toInt < 8) ∧ ∀ z96 : Int32, z96 = sI σ22 (L 37) x21.toInt.toNat → ((¬ z96.toInt = z4.toInt) → K92 () σ22) ∧ ((z96.toInt = z4.toInt) → K62 1 σ22)))) (fun (x90 : Unit) (σ91 : HS) => K62 0 σ91)) (fun (x60 : Int32) (σ61 : HS) => lw (fun (K67 : (Int32 × Int32) → HS → Prop) (x65 : Int32 × Int32) (σ66 : HS) => jn (fun (K71 : Unit → HS → Prop) => ((z4.toInt ≤ x65.1.toInt) → K71 () σ66) ∧ ((x65.1.toInt < z4.toInt) → ((x65.2.toInt = 0) → K71 () σ66) ∧ ((¬ x65.2.toInt = 0) → ∀ z77 : Int32, z77 = 16 * x21 → ∀ z78 : Int32, z78 = z77 + x65.1 → (0 ≤ z78.toInt ∧ z78.toInt < 128) ∧ ∀ z79 : Int32, z79 = sI σ66 (L 36) z78.toInt.toNat → ∀ z80 : Int32, z80 = z79 &&& 255 → ∀ z81 : Int32, z81 = z2 + x65.1 → F_X12_number1 h0 L z81 (fun (z83 : Int32) (σ82 : HS) => jn (fun (K86 : Int32 → HS → Prop) => ((¬ z80.toInt = z83.toInt) → K86 0 σ82) ∧ ((z80.toInt = z83.toInt) → K86 1 σ82)) (fun (x84 : Int32) (σ85 : HS) => ∀ z89 : Int32, z89 = x65.1 + 1 → K67 (z89, x84) σ85)) σ66))) (fun (x69 : Unit) (σ70 : HS) => ((x65.2.toInt = 0) → ∀ z74 : Int32, z74 = x21 + 1 → K23 z74 σ70) ∧ ((¬ x65.2.toInt = 0) → F_X12_endSession h0 L x21 (fun (σ75 : HS) => K27 () σ75) σ70))) (0, x60) σ61))) (fun (x25 : Unit) (σ26 : HS) => F_X12_vacant h0 L 34 8 (fun (z31 : Int32) (σ30 : HS) => ((¬ z31.toInt = (8 : Int32).toInt) → ∀ z32 : Int64, z32 = sJ σ30 h0 59 → ∀ z33 : Int64, z33 = z32 + 1 → ∀ σ34 : HS, σ34 = h_uJ σ30 h0 59 z33 → ∀ z35 : Int64, z35 = sJ σ34 h0 59 → (0 ≤ z31.toInt ∧ z31.toInt < 8) ∧ ∀ σ36 : HS, σ36 = h_uJ σ34 (L 34) z31.toInt.toNat z35 → ∀ z37 : Int32, z37 = sI σ36 h0 88 → (0 ≤ z31.toInt ∧ z31.toInt < 8) ∧ ∀ σ38 : HS, σ38 = h_uI σ36 (L 35) z31.toInt.toNat z37 → (0 ≤ z31.toInt ∧ z31.toInt < 8) ∧ ∀ σ39 : HS, σ39 = h_uI σ38 (L 37) z31.toInt.toNat z4 → lw (fun (K42 : Int32 → HS → Prop) (x40 : Int32) (σ41 : HS) => ((z4.toInt ≤ x40.toInt) → ∀ z44 : Int64, z44 = sJ σ41 h0 59 → ∀ σ45 : HS, σ45 = h_uJ σ41 h0 96 z44 → F_X12_body h0 L 9 (fun (σ46 : HS) => F_X12_set h0 L 64 2 9 (fun (σ48 : HS) => F_X12_set h0 L 68 2 72 (fun (σ50 : HS) => post 0 σ50) σ48) σ46) σ45) ∧ ((x40.toInt < z4.toInt) → ∀ z52 : Int32, z52 = 16 * z31 → ∀ z53 : Int32, z53 = z52 + x40 → ∀ z54 : Int32, z54 = z2 + x40 → F_X12_number1 h0 L z54 (fun (z56 : Int32) (σ55 : HS) => ∀ z57 : Int32, z57 = (z56 : Int32).toInt8.toInt32 → (0 ≤ z53.toInt ∧ z53.toInt < 128) ∧ ∀ σ58 : HS, σ58 = h_uI σ55 (L 36) z53.toInt.toNat (vp_nar .byte z57) → ∀ z59 : Int32, z59 = x40 + 1 → K42 z59 σ58) σ41)) 0 σ39) ∧ ((z31.toInt = (8 : Int32).toInt) → post 3221225626 σ30)) σ26)) 0 σ19) σ15) ∧ ((x10.2.toInt = 0) → post 3221225485 σ15))) (0, x5) σ6)) σ1) σ
theorem dX12_setUp_0 : decode cX12_setUp 0 = .ok (.aload_n 0, 1) := by decide +kernel
theorem dX12_setUp_1 : decode cX12_setUp 1 = .ok (.bipush 76, 2) := by decide +kernel
theorem dX12_setUp_3 : decode cX12_setUp 3 = .ok (.invokevirtual 415, 3) := by decide +kernel
theorem dX12_setUp_6 : decode cX12_setUp 6 = .ok (.istore_n 1, 1) := by decide +kernel
theorem dX12_setUp_7 : decode cX12_setUp 7 = .ok (.aload_n 0, 1) := by decide +kernel
theorem dX12_setUp_8 : decode cX12_setUp 8 = .ok (.bipush 78, 2) := by decide +kernel
theorem dX12_setUp_10 : decode cX12_setUp 10 = .ok (.invokevirtual 415, 3) := by decide +kernel
theorem dX12_setUp_13 : decode cX12_setUp 13 = .ok (.istore_n 2, 1) := by decide +kernel
theorem dX12_setUp_14 : decode cX12_setUp 14 = .ok (.iload_n 2, 1) := by decide +kernel
theorem dX12_setUp_15 : decode cX12_setUp 15 = .ok (.iconst 1, 1) := by decide +kernel
theorem dX12_setUp_16 : decode cX12_setUp 16 = .ok (.if_icmp .lt 13, 3) := by decide +kernel
theorem dX12_setUp_19 : decode cX12_setUp 19 = .ok (.iload_n 2, 1) := by decide +kernel
theorem dX12_setUp_20 : decode cX12_setUp 20 = .ok (.bipush 16, 2) := by decide +kernel
theorem dX12_setUp_22 : decode cX12_setUp 22 = .ok (.if_icmp .gt 7, 3) := by decide +kernel
theorem dX12_setUp_25 : decode cX12_setUp 25 = .ok (.iconst 1, 1) := by decide +kernel
theorem dX12_setUp_26 : decode cX12_setUp 26 = .ok (.goto 4, 3) := by decide +kernel
theorem dX12_setUp_29 : decode cX12_setUp 29 = .ok (.iconst 0, 1) := by decide +kernel
theorem dX12_setUp_30 : decode cX12_setUp 30 = .ok (.istore_n 3, 1) := by decide +kernel
theorem dX12_setUp_31 : decode cX12_setUp 31 = .ok (.iconst 0, 1) := by decide +kernel
theorem dX12_setUp_32 : decode cX12_setUp 32 = .ok (.istore 4, 2) := by decide +kernel
theorem dX12_setUp_34 : decode cX12_setUp 34 = .ok (.iload 4, 2) := by decide +kernel
theorem dX12_setUp_36 : decode cX12_setUp 36 = .ok (.iload_n 2, 1) := by decide +kernel
theorem dX12_setUp_37 : decode cX12_setUp 37 = .ok (.if_icmp .ge 43, 3) := by decide +kernel
theorem dX12_setUp_40 : decode cX12_setUp 40 = .ok (.iload_n 3, 1) := by decide +kernel
theorem dX12_setUp_41 : decode cX12_setUp 41 = .ok (.ifCond .eq 39, 3) := by decide +kernel
theorem dX12_setUp_44 : decode cX12_setUp 44 = .ok (.aload_n 0, 1) := by decide +kernel
theorem dX12_setUp_45 : decode cX12_setUp 45 = .ok (.iload_n 1, 1) := by decide +kernel
theorem dX12_setUp_46 : decode cX12_setUp 46 = .ok (.iload 4, 2) := by decide +kernel
theorem dX12_setUp_48 : decode cX12_setUp 48 = .ok (.iadd, 1) := by decide +kernel
theorem dX12_setUp_49 : decode cX12_setUp 49 = .ok (.invokevirtual 600, 3) := by decide +kernel
theorem dX12_setUp_52 : decode cX12_setUp 52 = .ok (.istore 5, 2) := by decide +kernel
theorem dX12_setUp_54 : decode cX12_setUp 54 = .ok (.iload 5, 2) := by decide +kernel
theorem dX12_setUp_56 : decode cX12_setUp 56 = .ok (.bipush 33, 2) := by decide +kernel
theorem dX12_setUp_58 : decode cX12_setUp 58 = .ok (.if_icmp .lt 14, 3) := by decide +kernel
theorem dX12_setUp_61 : decode cX12_setUp 61 = .ok (.iload 5, 2) := by decide +kernel
theorem dX12_setUp_63 : decode cX12_setUp 63 = .ok (.bipush 126, 2) := by decide +kernel
theorem dX12_setUp_65 : decode cX12_setUp 65 = .ok (.if_icmp .gt 7, 3) := by decide +kernel
theorem dX12_setUp_68 : decode cX12_setUp 68 = .ok (.iconst 1, 1) := by decide +kernel
theorem dX12_setUp_69 : decode cX12_setUp 69 = .ok (.goto 4, 3) := by decide +kernel
theorem dX12_setUp_72 : decode cX12_setUp 72 = .ok (.iconst 0, 1) := by decide +kernel
theorem dX12_setUp_73 : decode cX12_setUp 73 = .ok (.istore_n 3, 1) := by decide +kernel
theorem dX12_setUp_74 : decode cX12_setUp 74 = .ok (.iinc 4 1, 3) := by decide +kernel
theorem dX12_setUp_77 : decode cX12_setUp 77 = .ok (.goto (-43), 3) := by decide +kernel
theorem dX12_setUp_80 : decode cX12_setUp 80 = .ok (.iload_n 3, 1) := by decide +kernel
theorem dX12_setUp_81 : decode cX12_setUp 81 = .ok (.ifCond .ne 7, 3) := by decide +kernel
theorem dX12_setUp_84 : decode cX12_setUp 84 = .ok (.ldc2_w 518, 3) := by decide +kernel
theorem dX12_setUp_87 : decode cX12_setUp 87 = .ok (.lreturn, 1) := by decide +kernel
theorem dX12_setUp_88 : decode cX12_setUp 88 = .ok (.aload_n 0, 1) := by decide +kernel
theorem dX12_setUp_89 : decode cX12_setUp 89 = .ok (.bipush 80, 2) := by decide +kernel
theorem dX12_setUp_91 : decode cX12_setUp 91 = .ok (.bipush 8, 2) := by decide +kernel
theorem dX12_setUp_93 : decode cX12_setUp 93 = .ok (.invokevirtual 364, 3) := by decide +kernel
theorem dX12_setUp_96 : decode cX12_setUp 96 = .ok (.lstore 4, 2) := by decide +kernel
theorem dX12_setUp_98 : decode cX12_setUp 98 = .ok (.iconst 0, 1) := by decide +kernel
theorem dX12_setUp_99 : decode cX12_setUp 99 = .ok (.istore 6, 2) := by decide +kernel
theorem dX12_setUp_101 : decode cX12_setUp 101 = .ok (.iload 6, 2) := by decide +kernel
theorem dX12_setUp_103 : decode cX12_setUp 103 = .ok (.bipush 8, 2) := by decide +kernel
theorem dX12_setUp_105 : decode cX12_setUp 105 = .ok (.if_icmp .ge 116, 3) := by decide +kernel
theorem dX12_setUp_108 : decode cX12_setUp 108 = .ok (.lload 4, 2) := by decide +kernel
theorem dX12_setUp_110 : decode cX12_setUp 110 = .ok (.lconst 0, 1) := by decide +kernel
theorem dX12_setUp_111 : decode cX12_setUp 111 = .ok (.lcmp, 1) := by decide +kernel
theorem dX12_setUp_112 : decode cX12_setUp 112 = .ok (.ifCond .eq 31, 3) := by decide +kernel
theorem dX12_setUp_115 : decode cX12_setUp 115 = .ok (.aload_n 0, 1) := by decide +kernel
theorem dX12_setUp_116 : decode cX12_setUp 116 = .ok (.getfield 118, 3) := by decide +kernel
theorem dX12_setUp_119 : decode cX12_setUp 119 = .ok (.iload 6, 2) := by decide +kernel
theorem dX12_setUp_121 : decode cX12_setUp 121 = .ok (.laload, 1) := by decide +kernel
theorem dX12_setUp_122 : decode cX12_setUp 122 = .ok (.lload 4, 2) := by decide +kernel
theorem dX12_setUp_124 : decode cX12_setUp 124 = .ok (.lcmp, 1) := by decide +kernel
theorem dX12_setUp_125 : decode cX12_setUp 125 = .ok (.ifCond .ne 18, 3) := by decide +kernel
theorem dX12_setUp_128 : decode cX12_setUp 128 = .ok (.aload_n 0, 1) := by decide +kernel
theorem dX12_setUp_129 : decode cX12_setUp 129 = .ok (.getfield 127, 3) := by decide +kernel
theorem dX12_setUp_132 : decode cX12_setUp 132 = .ok (.iload 6, 2) := by decide +kernel
theorem dX12_setUp_134 : decode cX12_setUp 134 = .ok (.iaload, 1) := by decide +kernel
theorem dX12_setUp_135 : decode cX12_setUp 135 = .ok (.iload_n 2, 1) := by decide +kernel
theorem dX12_setUp_136 : decode cX12_setUp 136 = .ok (.if_icmp .ne 7, 3) := by decide +kernel
theorem dX12_setUp_139 : decode cX12_setUp 139 = .ok (.iconst 1, 1) := by decide +kernel
theorem dX12_setUp_140 : decode cX12_setUp 140 = .ok (.goto 4, 3) := by decide +kernel
theorem dX12_setUp_143 : decode cX12_setUp 143 = .ok (.iconst 0, 1) := by decide +kernel
theorem dX12_setUp_144 : decode cX12_setUp 144 = .ok (.istore 7, 2) := by decide +kernel
theorem dX12_setUp_146 : decode cX12_setUp 146 = .ok (.iconst 0, 1) := by decide +kernel
theorem dX12_setUp_147 : decode cX12_setUp 147 = .ok (.istore 8, 2) := by decide +kernel
theorem dX12_setUp_149 : decode cX12_setUp 149 = .ok (.iload 8, 2) := by decide +kernel
theorem dX12_setUp_151 : decode cX12_setUp 151 = .ok (.iload_n 2, 1) := by decide +kernel
theorem dX12_setUp_152 : decode cX12_setUp 152 = .ok (.if_icmp .ge 49, 3) := by decide +kernel
theorem dX12_setUp_155 : decode cX12_setUp 155 = .ok (.iload 7, 2) := by decide +kernel
theorem dX12_setUp_157 : decode cX12_setUp 157 = .ok (.ifCond .eq 44, 3) := by decide +kernel
theorem dX12_setUp_160 : decode cX12_setUp 160 = .ok (.aload_n 0, 1) := by decide +kernel
theorem dX12_setUp_161 : decode cX12_setUp 161 = .ok (.getfield 124, 3) := by decide +kernel
theorem dX12_setUp_164 : decode cX12_setUp 164 = .ok (.bipush 16, 2) := by decide +kernel
theorem dX12_setUp_166 : decode cX12_setUp 166 = .ok (.iload 6, 2) := by decide +kernel
theorem dX12_setUp_168 : decode cX12_setUp 168 = .ok (.imul, 1) := by decide +kernel
theorem dX12_setUp_169 : decode cX12_setUp 169 = .ok (.iload 8, 2) := by decide +kernel
theorem dX12_setUp_171 : decode cX12_setUp 171 = .ok (.iadd, 1) := by decide +kernel
theorem dX12_setUp_172 : decode cX12_setUp 172 = .ok (.baload, 1) := by decide +kernel
theorem dX12_setUp_173 : decode cX12_setUp 173 = .ok (.sipush 255, 3) := by decide +kernel
theorem dX12_setUp_176 : decode cX12_setUp 176 = .ok (.iand, 1) := by decide +kernel
theorem dX12_setUp_177 : decode cX12_setUp 177 = .ok (.aload_n 0, 1) := by decide +kernel
theorem dX12_setUp_178 : decode cX12_setUp 178 = .ok (.iload_n 1, 1) := by decide +kernel
theorem dX12_setUp_179 : decode cX12_setUp 179 = .ok (.iload 8, 2) := by decide +kernel
theorem dX12_setUp_181 : decode cX12_setUp 181 = .ok (.iadd, 1) := by decide +kernel
theorem dX12_setUp_182 : decode cX12_setUp 182 = .ok (.invokevirtual 600, 3) := by decide +kernel
theorem dX12_setUp_185 : decode cX12_setUp 185 = .ok (.if_icmp .ne 7, 3) := by decide +kernel
theorem dX12_setUp_188 : decode cX12_setUp 188 = .ok (.iconst 1, 1) := by decide +kernel
theorem dX12_setUp_189 : decode cX12_setUp 189 = .ok (.goto 4, 3) := by decide +kernel
theorem dX12_setUp_192 : decode cX12_setUp 192 = .ok (.iconst 0, 1) := by decide +kernel
theorem dX12_setUp_193 : decode cX12_setUp 193 = .ok (.istore 7, 2) := by decide +kernel
theorem dX12_setUp_195 : decode cX12_setUp 195 = .ok (.iinc 8 1, 3) := by decide +kernel
theorem dX12_setUp_198 : decode cX12_setUp 198 = .ok (.goto (-49), 3) := by decide +kernel
theorem dX12_setUp_201 : decode cX12_setUp 201 = .ok (.iload 7, 2) := by decide +kernel
theorem dX12_setUp_203 : decode cX12_setUp 203 = .ok (.ifCond .eq 12, 3) := by decide +kernel
theorem dX12_setUp_206 : decode cX12_setUp 206 = .ok (.aload_n 0, 1) := by decide +kernel
theorem dX12_setUp_207 : decode cX12_setUp 207 = .ok (.iload 6, 2) := by decide +kernel
theorem dX12_setUp_209 : decode cX12_setUp 209 = .ok (.invokevirtual 338, 3) := by decide +kernel
theorem dX12_setUp_212 : decode cX12_setUp 212 = .ok (.goto 9, 3) := by decide +kernel
theorem dX12_setUp_215 : decode cX12_setUp 215 = .ok (.iinc 6 1, 3) := by decide +kernel
theorem dX12_setUp_218 : decode cX12_setUp 218 = .ok (.goto (-117), 3) := by decide +kernel
theorem dX12_setUp_221 : decode cX12_setUp 221 = .ok (.aload_n 0, 1) := by decide +kernel
theorem dX12_setUp_222 : decode cX12_setUp 222 = .ok (.aload_n 0, 1) := by decide +kernel
theorem dX12_setUp_223 : decode cX12_setUp 223 = .ok (.getfield 118, 3) := by decide +kernel
theorem dX12_setUp_226 : decode cX12_setUp 226 = .ok (.invokevirtual 603, 3) := by decide +kernel
theorem dX12_setUp_229 : decode cX12_setUp 229 = .ok (.istore 6, 2) := by decide +kernel
theorem dX12_setUp_231 : decode cX12_setUp 231 = .ok (.iload 6, 2) := by decide +kernel
theorem dX12_setUp_233 : decode cX12_setUp 233 = .ok (.bipush 8, 2) := by decide +kernel
theorem dX12_setUp_235 : decode cX12_setUp 235 = .ok (.if_icmp .ne 7, 3) := by decide +kernel
theorem dX12_setUp_238 : decode cX12_setUp 238 = .ok (.ldc2_w 607, 3) := by decide +kernel
theorem dX12_setUp_241 : decode cX12_setUp 241 = .ok (.lreturn, 1) := by decide +kernel
theorem dX12_setUp_242 : decode cX12_setUp 242 = .ok (.aload_n 0, 1) := by decide +kernel
theorem dX12_setUp_243 : decode cX12_setUp 243 = .ok (.dup, 1) := by decide +kernel
theorem dX12_setUp_244 : decode cX12_setUp 244 = .ok (.getfield 295, 3) := by decide +kernel
theorem dX12_setUp_247 : decode cX12_setUp 247 = .ok (.lconst 1, 1) := by decide +kernel
theorem dX12_setUp_248 : decode cX12_setUp 248 = .ok (.ladd, 1) := by decide +kernel
theorem dX12_setUp_249 : decode cX12_setUp 249 = .ok (.putfield 295, 3) := by decide +kernel
theorem dX12_setUp_252 : decode cX12_setUp 252 = .ok (.aload_n 0, 1) := by decide +kernel
theorem dX12_setUp_253 : decode cX12_setUp 253 = .ok (.getfield 118, 3) := by decide +kernel
theorem dX12_setUp_256 : decode cX12_setUp 256 = .ok (.iload 6, 2) := by decide +kernel
theorem dX12_setUp_258 : decode cX12_setUp 258 = .ok (.aload_n 0, 1) := by decide +kernel
theorem dX12_setUp_259 : decode cX12_setUp 259 = .ok (.getfield 295, 3) := by decide +kernel
theorem dX12_setUp_262 : decode cX12_setUp 262 = .ok (.lastore, 1) := by decide +kernel
theorem dX12_setUp_263 : decode cX12_setUp 263 = .ok (.aload_n 0, 1) := by decide +kernel
theorem dX12_setUp_264 : decode cX12_setUp 264 = .ok (.getfield 121, 3) := by decide +kernel
theorem dX12_setUp_267 : decode cX12_setUp 267 = .ok (.iload 6, 2) := by decide +kernel
theorem dX12_setUp_269 : decode cX12_setUp 269 = .ok (.aload_n 0, 1) := by decide +kernel
theorem dX12_setUp_270 : decode cX12_setUp 270 = .ok (.getfield 382, 3) := by decide +kernel
theorem dX12_setUp_273 : decode cX12_setUp 273 = .ok (.iastore, 1) := by decide +kernel
theorem dX12_setUp_274 : decode cX12_setUp 274 = .ok (.aload_n 0, 1) := by decide +kernel
theorem dX12_setUp_275 : decode cX12_setUp 275 = .ok (.getfield 127, 3) := by decide +kernel
theorem dX12_setUp_278 : decode cX12_setUp 278 = .ok (.iload 6, 2) := by decide +kernel
theorem dX12_setUp_280 : decode cX12_setUp 280 = .ok (.iload_n 2, 1) := by decide +kernel
theorem dX12_setUp_281 : decode cX12_setUp 281 = .ok (.iastore, 1) := by decide +kernel
theorem dX12_setUp_282 : decode cX12_setUp 282 = .ok (.iconst 0, 1) := by decide +kernel
theorem dX12_setUp_283 : decode cX12_setUp 283 = .ok (.istore 7, 2) := by decide +kernel
theorem dX12_setUp_285 : decode cX12_setUp 285 = .ok (.iload 7, 2) := by decide +kernel
theorem dX12_setUp_287 : decode cX12_setUp 287 = .ok (.iload_n 2, 1) := by decide +kernel
theorem dX12_setUp_288 : decode cX12_setUp 288 = .ok (.if_icmp .ge 31, 3) := by decide +kernel
theorem dX12_setUp_291 : decode cX12_setUp 291 = .ok (.aload_n 0, 1) := by decide +kernel
theorem dX12_setUp_292 : decode cX12_setUp 292 = .ok (.getfield 124, 3) := by decide +kernel
theorem dX12_setUp_295 : decode cX12_setUp 295 = .ok (.bipush 16, 2) := by decide +kernel
theorem dX12_setUp_297 : decode cX12_setUp 297 = .ok (.iload 6, 2) := by decide +kernel
theorem dX12_setUp_299 : decode cX12_setUp 299 = .ok (.imul, 1) := by decide +kernel
theorem dX12_setUp_300 : decode cX12_setUp 300 = .ok (.iload 7, 2) := by decide +kernel
theorem dX12_setUp_302 : decode cX12_setUp 302 = .ok (.iadd, 1) := by decide +kernel
theorem dX12_setUp_303 : decode cX12_setUp 303 = .ok (.aload_n 0, 1) := by decide +kernel
theorem dX12_setUp_304 : decode cX12_setUp 304 = .ok (.iload_n 1, 1) := by decide +kernel
theorem dX12_setUp_305 : decode cX12_setUp 305 = .ok (.iload 7, 2) := by decide +kernel
theorem dX12_setUp_307 : decode cX12_setUp 307 = .ok (.iadd, 1) := by decide +kernel
theorem dX12_setUp_308 : decode cX12_setUp 308 = .ok (.invokevirtual 600, 3) := by decide +kernel
theorem dX12_setUp_311 : decode cX12_setUp 311 = .ok (.i2b, 1) := by decide +kernel
theorem dX12_setUp_312 : decode cX12_setUp 312 = .ok (.bastore, 1) := by decide +kernel
theorem dX12_setUp_313 : decode cX12_setUp 313 = .ok (.iinc 7 1, 3) := by decide +kernel
theorem dX12_setUp_316 : decode cX12_setUp 316 = .ok (.goto (-31), 3) := by decide +kernel
theorem dX12_setUp_319 : decode cX12_setUp 319 = .ok (.aload_n 0, 1) := by decide +kernel
theorem dX12_setUp_320 : decode cX12_setUp 320 = .ok (.aload_n 0, 1) := by decide +kernel
theorem dX12_setUp_321 : decode cX12_setUp 321 = .ok (.getfield 295, 3) := by decide +kernel
theorem dX12_setUp_324 : decode cX12_setUp 324 = .ok (.putfield 434, 3) := by decide +kernel
theorem dX12_setUp_327 : decode cX12_setUp 327 = .ok (.aload_n 0, 1) := by decide +kernel
theorem dX12_setUp_328 : decode cX12_setUp 328 = .ok (.bipush 9, 2) := by decide +kernel
theorem dX12_setUp_330 : decode cX12_setUp 330 = .ok (.invokevirtual 456, 3) := by decide +kernel
theorem dX12_setUp_333 : decode cX12_setUp 333 = .ok (.aload_n 0, 1) := by decide +kernel
theorem dX12_setUp_334 : decode cX12_setUp 334 = .ok (.bipush 64, 2) := by decide +kernel
theorem dX12_setUp_336 : decode cX12_setUp 336 = .ok (.iconst 2, 1) := by decide +kernel
theorem dX12_setUp_337 : decode cX12_setUp 337 = .ok (.ldc2_w 459, 3) := by decide +kernel
theorem dX12_setUp_340 : decode cX12_setUp 340 = .ok (.invokevirtual 376, 3) := by decide +kernel
theorem dX12_setUp_343 : decode cX12_setUp 343 = .ok (.aload_n 0, 1) := by decide +kernel
theorem dX12_setUp_344 : decode cX12_setUp 344 = .ok (.bipush 68, 2) := by decide +kernel
theorem dX12_setUp_346 : decode cX12_setUp 346 = .ok (.iconst 2, 1) := by decide +kernel
theorem dX12_setUp_347 : decode cX12_setUp 347 = .ok (.ldc2_w 609, 3) := by decide +kernel
theorem dX12_setUp_350 : decode cX12_setUp 350 = .ok (.invokevirtual 376, 3) := by decide +kernel
theorem dX12_setUp_353 : decode cX12_setUp 353 = .ok (.lconst 0, 1) := by decide +kernel
theorem dX12_setUp_354 : decode cX12_setUp 354 = .ok (.lreturn, 1) := by decide +kernel
set_option maxRecDepth 100000 in
set_option maxHeartbeats 4000000 in
theorem c_X12_setUp (l : Launch) (D : va_G) (t : Nat → ClassId) (h0 : Nat) (L : Nat → Nat) (σ : HS) (hM : MdI h0 L σ)  (post : Int64 → HS → Prop) (hw : F_X12_setUp h0 L  post σ) (sz : Nat) : RMl l D t yX12_setUp cX12_setUp 9 (some .long) ({ frames := 12, cells := 0, slots := 0, locals := 309 }) h0 L σ sz [.ref h0] post := by
  refine h_go (τ := τT) okT (by decide) (Nat.le_of_ble_eq_true rfl) ?_
  intro p e s m below meth c ls A hF hr hlk hAe hH0 hA hl
  unfold hB
  rw [hAe]
  clear hAe
  have hF : FX p m c cX12_setUp 9 s _ RX12 D t := hF
  have hx := hF.1.1
  have hb := hF.1.2.1
  have hH : RT D t A s.heap h0 L σ s.heap [] := ⟨hH0, hM⟩
  have hl : lv_has ls 9 [(0, .ref h0)] := hl
  unfold F_X12_setUp at hw
  refine lv_aload_n hx hb dX12_setUp_0 rfl (lv_at hl 0 rfl) ?_
  refine lv_bipush (v := 76) hx hb dX12_setUp_1 (by decide) ?_
  refine w_cVi (As := [.int 76]) (rest := []) hF hH hA mv_X12_415 (fun sz => c_X12_number2 l D t h0 L _ hH.2 76 _ hw sz) dX12_setUp_3 rfl rfl (by decide) rfl hl.1 (Nat.le_of_ble_eq_true rfl) (by decide) rfl (fun z2 σ1 H locs hw hH => ?_)
  refine lv_istore_n (lv' := [(1, .int z2), (0, .ref h0)]) hx hb dX12_setUp_6 rfl hl (by decide) rfl (fun ls hl => ?_)
  refine lv_aload_n hx hb dX12_setUp_7 rfl (lv_at hl 1 rfl) ?_
  refine lv_bipush (v := 78) hx hb dX12_setUp_8 (by decide) ?_
  refine w_cVi (As := [.int 78]) (rest := []) hF hH hA mv_X12_415 (fun sz => c_X12_number2 l D t h0 L _ hH.2 78 _ hw sz) dX12_setUp_10 rfl rfl (by decide) rfl hl.1 (Nat.le_of_ble_eq_true rfl) (by decide) rfl (fun z4 σ3 H locs hw hH => ?_)
  refine lv_istore_n (lv' := [(2, .int z4), (1, .int z2), (0, .ref h0)]) hx hb dX12_setUp_13 rfl hl (by decide) rfl (fun ls hl => ?_)
  refine lv_iload_n hx hb dX12_setUp_14 rfl (lv_at hl 0 rfl) ?_
  refine lv_iconst (v := 1) hx hb dX12_setUp_15 (by decide) ?_
  obtain ⟨K7, hK8, hw⟩ := jn_open hw
  refine w_join (K := K7) 30 (fun (x5 : Int32) => [(2, .int z4), (1, .int z2), (0, .ref h0)]) (fun (x5 : Int32) => [.int x5]) hl hH (fun x5 σ6 ls H locs hl hw hH => ?_) (fun jn9 => ?_)
  · have hw := hK8 x5 σ6 hw
    have hl : lv_has ls 9 [(2, .int z4), (1, .int z2), (0, .ref h0)] := hl
    refine lv_istore_n (lv' := [(3, .int x5), (2, .int z4), (1, .int z2), (0, .ref h0)]) hx hb dX12_setUp_30 rfl hl (by decide) rfl (fun ls hl => ?_)
    refine lv_iconst (v := 0) hx hb dX12_setUp_31 (by decide) ?_
    refine lv_istore (lv' := [(4, .int 0), (3, .int x5), (2, .int z4), (1, .int z2), (0, .ref h0)]) hx hb dX12_setUp_32 hl (by decide) rfl (fun ls hl => ?_)
    refine w_loop (β := Int32 × Int32) (fun x10 => [(4, .int x10.1), (3, .int x10.2), (2, .int z4), (1, .int z2), (0, .ref h0)]) (0, x5) hl hw hH (fun K12 x10 σ11 ls H locs hl hw hH ih13 => ?_)
    have hl : lv_has ls 9 [(4, .int x10.1), (3, .int x10.2), (2, .int z4), (1, .int z2), (0, .ref h0)] := hl
    refine lv_iload hx hb dX12_setUp_34 (lv_at hl 0 rfl) ?_
    refine lv_iload_n hx hb dX12_setUp_36 rfl (lv_at hl 2 rfl) ?_
    obtain ⟨K16, hK17, hw⟩ := jn_open hw
    refine w_join (K := K16) 80 (fun (x14 : Unit) => [(3, .int x10.2), (2, .int z4), (1, .int z2), (0, .ref h0)]) (fun (x14 : Unit) => []) hl hH (fun x14 σ15 ls H locs hl hw hH => ?_) (fun jn18 => ?_)
    · have hw := hK17 x14 σ15 hw
      have hl : lv_has ls 9 [(3, .int x10.2), (2, .int z4), (1, .int z2), (0, .ref h0)] := hl
      refine lv_iload_n hx hb dX12_setUp_80 rfl (lv_at hl 0 rfl) ?_
      refine w_if_ne (tgt := 88) hF dX12_setUp_81 rfl hw (fun hw => ?_) (fun hw => ?_)
      · refine lv_aload_n hx hb dX12_setUp_88 rfl (lv_at hl 3 rfl) ?_
        refine lv_bipush (v := 80) hx hb dX12_setUp_89 (by decide) ?_
        refine lv_bipush (v := 8) hx hb dX12_setUp_91 (by decide) ?_
        refine w_cVl (As := [.int 80, .int 8]) (rest := []) hF hH hA mv_X12_364 (fun sz => c_X12_number l D t h0 L _ hH.2 80 8 _ hw sz) dX12_setUp_93 rfl rfl (by decide) rfl hl.1 (Nat.le_of_ble_eq_true rfl) (by decide) rfl (fun z20 σ19 H locs hw hH => ?_)
        refine lv_lstore (lv' := [(4, .long z20), (3, .int x10.2), (2, .int z4), (1, .int z2), (0, .ref h0)]) hx hb dX12_setUp_96 hl (by decide) rfl (fun ls hl => ?_)
        refine lv_iconst (v := 0) hx hb dX12_setUp_98 (by decide) ?_
        refine lv_istore (lv' := [(6, .int 0), (4, .long z20), (3, .int x10.2), (2, .int z4), (1, .int z2), (0, .ref h0)]) hx hb dX12_setUp_99 hl (by decide) rfl (fun ls hl => ?_)
        have hl : lv_has ls 9 [(6, .int 0), (4, .long z20), (2, .int z4), (1, .int z2), (0, .ref h0)] := lv_sub hl [0, 1, 3, 4, 5] rfl
        refine w_loop (β := Int32) (fun x21 => [(6, .int x21), (4, .long z20), (2, .int z4), (1, .int z2), (0, .ref h0)]) 0 hl hw hH (fun K23 x21 σ22 ls H locs hl hw hH ih24 => ?_)
        have hl : lv_has ls 9 [(6, .int x21), (4, .long z20), (2, .int z4), (1, .int z2), (0, .ref h0)] := hl
        refine lv_iload hx hb dX12_setUp_101 (lv_at hl 0 rfl) ?_
        refine lv_bipush (v := 8) hx hb dX12_setUp_103 (by decide) ?_
        obtain ⟨K27, hK28, hw⟩ := jn_open hw
        refine w_join (K := K27) 221 (fun (x25 : Unit) => [(2, .int z4), (1, .int z2), (0, .ref h0)]) (fun (x25 : Unit) => []) hl hH (fun x25 σ26 ls H locs hl hw hH => ?_) (fun jn29 => ?_)
        · have hw := hK28 x25 σ26 hw
          have hl : lv_has ls 9 [(2, .int z4), (1, .int z2), (0, .ref h0)] := hl
          refine lv_aload_n hx hb dX12_setUp_221 rfl (lv_at hl 2 rfl) ?_
          refine lv_aload_n hx hb dX12_setUp_222 rfl (lv_at hl 2 rfl) ?_
          refine w_getA 34 hF hH fk_X12_118 dX12_setUp_223 (by decide) rfl ?_
          refine w_cVi (As := [.ref (L 34)]) (rest := []) hF hH hA mv_X12_603 (fun sz => c_X12_vacant l D t h0 L _ hH.2 34 8 (by decide) rfl rfl (by decide) _ hw sz) dX12_setUp_226 rfl rfl (by decide) rfl hl.1 (Nat.le_of_ble_eq_true rfl) (by decide) rfl (fun z31 σ30 H locs hw hH => ?_)
          refine lv_istore (lv' := [(6, .int z31), (2, .int z4), (1, .int z2), (0, .ref h0)]) hx hb dX12_setUp_229 hl (by decide) rfl (fun ls hl => ?_)
          refine lv_iload hx hb dX12_setUp_231 (lv_at hl 0 rfl) ?_
          refine lv_bipush (v := 8) hx hb dX12_setUp_233 (by decide) ?_
          refine w_icmp_ne (tgt := 242) hF dX12_setUp_235 rfl hw (fun hw => ?_) (fun hw => ?_)
          · refine lv_aload_n hx hb dX12_setUp_242 rfl (lv_at hl 3 rfl) ?_
            refine lv_dup hx hb dX12_setUp_243 rfl ?_
            refine w_getJ hF hH fk_X12_295 dX12_setUp_244 hw (fun z32 hw => ?_)
            refine lv_lconst (v := 1) hx hb dX12_setUp_247 (by decide) ?_
            refine lv_ladd hx hb dX12_setUp_248 ?_
            refine w_nml hw (fun z33 hw => ?_)
            refine w_putJ hF hH fk_X12_295 dX12_setUp_249 rfl rfl rfl hw (fun σ34 H locs hw hH => ?_)
            refine lv_aload_n hx hb dX12_setUp_252 rfl (lv_at hl 3 rfl) ?_
            refine w_getA 34 hF hH fk_X12_118 dX12_setUp_253 (by decide) rfl ?_
            refine lv_iload hx hb dX12_setUp_256 (lv_at hl 0 rfl) ?_
            refine lv_aload_n hx hb dX12_setUp_258 rfl (lv_at hl 3 rfl) ?_
            refine w_getJ hF hH fk_X12_295 dX12_setUp_259 hw (fun z35 hw => ?_)
            refine w_last 34 8 hF hH dX12_setUp_262 (by decide) rfl rfl hw (fun σ36 H locs hw hH => ?_)
            refine lv_aload_n hx hb dX12_setUp_263 rfl (lv_at hl 3 rfl) ?_
            refine w_getA 35 hF hH fk_X12_121 dX12_setUp_264 (by decide) rfl ?_
            refine lv_iload hx hb dX12_setUp_267 (lv_at hl 0 rfl) ?_
            refine lv_aload_n hx hb dX12_setUp_269 rfl (lv_at hl 3 rfl) ?_
            refine w_getI hF hH fk_X12_382 dX12_setUp_270 hw (fun z37 hw => ?_)
            refine w_iast 35 8 hF hH dX12_setUp_273 (by decide) rfl rfl hw (fun σ38 H locs hw hH => ?_)
            refine lv_aload_n hx hb dX12_setUp_274 rfl (lv_at hl 3 rfl) ?_
            refine w_getA 37 hF hH fk_X12_127 dX12_setUp_275 (by decide) rfl ?_
            refine lv_iload hx hb dX12_setUp_278 (lv_at hl 0 rfl) ?_
            refine lv_iload_n hx hb dX12_setUp_280 rfl (lv_at hl 1 rfl) ?_
            refine w_iast 37 8 hF hH dX12_setUp_281 (by decide) rfl rfl hw (fun σ39 H locs hw hH => ?_)
            refine lv_iconst (v := 0) hx hb dX12_setUp_282 (by decide) ?_
            refine lv_istore (lv' := [(7, .int 0), (6, .int z31), (2, .int z4), (1, .int z2), (0, .ref h0)]) hx hb dX12_setUp_283 hl (by decide) rfl (fun ls hl => ?_)
            refine w_loop (β := Int32) (fun x40 => [(7, .int x40), (6, .int z31), (2, .int z4), (1, .int z2), (0, .ref h0)]) 0 hl hw hH (fun K42 x40 σ41 ls H locs hl hw hH ih43 => ?_)
            have hl : lv_has ls 9 [(7, .int x40), (6, .int z31), (2, .int z4), (1, .int z2), (0, .ref h0)] := hl
            refine lv_iload hx hb dX12_setUp_285 (lv_at hl 0 rfl) ?_
            refine lv_iload_n hx hb dX12_setUp_287 rfl (lv_at hl 2 rfl) ?_
            refine w_icmp_ge (tgt := 319) hF dX12_setUp_288 rfl hw (fun hw => ?_) (fun hw => ?_)
            · refine lv_aload_n hx hb dX12_setUp_319 rfl (lv_at hl 4 rfl) ?_
              refine lv_aload_n hx hb dX12_setUp_320 rfl (lv_at hl 4 rfl) ?_
              refine w_getJ hF hH fk_X12_295 dX12_setUp_321 hw (fun z44 hw => ?_)
              refine w_putJ hF hH fk_X12_434 dX12_setUp_324 rfl rfl rfl hw (fun σ45 H locs hw hH => ?_)
              refine lv_aload_n hx hb dX12_setUp_327 rfl (lv_at hl 4 rfl) ?_
              refine lv_bipush (v := 9) hx hb dX12_setUp_328 (by decide) ?_
              refine w_cVv (As := [.int 9]) (rest := []) hF hH hA mv_X12_456 (fun sz => c_X12_body l D t h0 L _ hH.2 9 _ hw sz) dX12_setUp_330 rfl rfl (by decide) rfl hl.1 (Nat.le_of_ble_eq_true rfl) (by decide) rfl (fun σ46 H locs hw hH => ?_)
              refine lv_aload_n hx hb dX12_setUp_333 rfl (lv_at hl 4 rfl) ?_
              refine lv_bipush (v := 64) hx hb dX12_setUp_334 (by decide) ?_
              refine lv_iconst (v := 2) hx hb dX12_setUp_336 (by decide) ?_
              refine lv_ldc2 (v := 9) hx hb hF.1.2.2.2.1 (hF.1.2.2.2.2 _ (wc_47 29 rfl)) dX12_setUp_337 ?_
              refine w_cVv (As := [.int 64, .int 2, .long 9]) (rest := []) hF hH hA mv_X12_376 (fun sz => c_X12_set l D t h0 L _ hH.2 64 2 9 _ hw sz) dX12_setUp_340 rfl rfl (by decide) rfl hl.1 (Nat.le_of_ble_eq_true rfl) (by decide) rfl (fun σ48 H locs hw hH => ?_)
              refine lv_aload_n hx hb dX12_setUp_343 rfl (lv_at hl 4 rfl) ?_
              refine lv_bipush (v := 68) hx hb dX12_setUp_344 (by decide) ?_
              refine lv_iconst (v := 2) hx hb dX12_setUp_346 (by decide) ?_
              refine lv_ldc2 (v := 72) hx hb hF.1.2.2.2.1 (hF.1.2.2.2.2 _ (wc_53 9 rfl)) dX12_setUp_347 ?_
              refine w_cVv (As := [.int 68, .int 2, .long 72]) (rest := []) hF hH hA mv_X12_376 (fun sz => c_X12_set l D t h0 L _ hH.2 68 2 72 _ hw sz) dX12_setUp_350 rfl rfl (by decide) rfl hl.1 (Nat.le_of_ble_eq_true rfl) (by decide) rfl (fun σ50 H locs hw hH => ?_)
              refine lv_lconst (v := 0) hx hb dX12_setUp_353 (by decide) ?_
              exact w_retl hF hH hr hlk dX12_setUp_354 hw
            · refine lv_aload_n hx hb dX12_setUp_291 rfl (lv_at hl 4 rfl) ?_
              refine w_getA 36 hF hH fk_X12_124 dX12_setUp_292 (by decide) rfl ?_
              refine lv_bipush (v := 16) hx hb dX12_setUp_295 (by decide) ?_
              refine lv_iload hx hb dX12_setUp_297 (lv_at hl 1 rfl) ?_
              refine lv_imul hx hb dX12_setUp_299 ?_
              refine w_nmi hw (fun z52 hw => ?_)
              refine lv_iload hx hb dX12_setUp_300 (lv_at hl 0 rfl) ?_
              refine lv_iadd hx hb dX12_setUp_302 ?_
              refine w_nmi hw (fun z53 hw => ?_)
              refine lv_aload_n hx hb dX12_setUp_303 rfl (lv_at hl 4 rfl) ?_
              refine lv_iload_n hx hb dX12_setUp_304 rfl (lv_at hl 3 rfl) ?_
              refine lv_iload hx hb dX12_setUp_305 (lv_at hl 0 rfl) ?_
              refine lv_iadd hx hb dX12_setUp_307 ?_
              refine w_nmi hw (fun z54 hw => ?_)
              refine w_cVi (As := [.int z54]) (rest := [.int z53, .ref (L 36)]) hF hH hA mv_X12_600 (fun sz => c_X12_number1 l D t h0 L _ hH.2 z54 _ hw sz) dX12_setUp_308 rfl rfl (by decide) rfl hl.1 (Nat.le_of_ble_eq_true rfl) (by decide) rfl (fun z56 σ55 H locs hw hH => ?_)
              refine lv_i2b hx hb dX12_setUp_311 rfl ?_
              refine w_nmi hw (fun z57 hw => ?_)
              refine w_bast 36 128 hF hH dX12_setUp_312 (by decide) rfl rfl hw (fun σ58 H locs hw hH => ?_)
              obtain ⟨z59, ez59⟩ : ∃ z : Int32, z = x40 + 1 := ⟨_, rfl⟩
              have hw := hw z59 ez59
              refine lv_iinc (lv' := [(7, .int z59), (6, .int z31), (2, .int z4), (1, .int z2), (0, .ref h0)]) (k := 0) (v := z59) hx hb dX12_setUp_313 hl rfl ez59.symm (by decide) rfl (fun ls hl => ?_)
              refine lv_goto (tgt := 285) hx hb dX12_setUp_316 rfl ?_
              exact ih43 z59 σ58 ls _ _ hl hw hH
          · refine lv_ldc2 (v := 3221225626) hx hb hF.1.2.2.2.1 (hF.1.2.2.2.2 _ (wc_53 8 rfl)) dX12_setUp_238 ?_
            exact w_retl hF hH hr hlk dX12_setUp_241 hw
        · skip
          refine w_icmp_ge (tgt := 221) hF dX12_setUp_105 rfl hw (fun hw => ?_) (fun hw => ?_)
          · have hl : lv_has ls 9 [(2, .int z4), (1, .int z2), (0, .ref h0)] := lv_sub hl [2, 3, 4] rfl
            exact jn29 () σ22 ls _ _ hl hw hH
          · refine lv_lload hx hb dX12_setUp_108 (lv_at hl 1 rfl) ?_
            refine lv_lconst (v := 0) hx hb dX12_setUp_110 (by decide) ?_
            obtain ⟨K62, hK63, hw⟩ := jn_open hw
            refine w_join (K := K62) 144 (fun (x60 : Int32) => [(6, .int x21), (4, .long z20), (2, .int z4), (1, .int z2), (0, .ref h0)]) (fun (x60 : Int32) => [.int x60]) hl hH (fun x60 σ61 ls H locs hl hw hH => ?_) (fun jn64 => ?_)
            · have hw := hK63 x60 σ61 hw
              have hl : lv_has ls 9 [(6, .int x21), (4, .long z20), (2, .int z4), (1, .int z2), (0, .ref h0)] := hl
              refine lv_istore (lv' := [(7, .int x60), (6, .int x21), (4, .long z20), (2, .int z4), (1, .int z2), (0, .ref h0)]) hx hb dX12_setUp_144 hl (by decide) rfl (fun ls hl => ?_)
              refine lv_iconst (v := 0) hx hb dX12_setUp_146 (by decide) ?_
              refine lv_istore (lv' := [(8, .int 0), (7, .int x60), (6, .int x21), (4, .long z20), (2, .int z4), (1, .int z2), (0, .ref h0)]) hx hb dX12_setUp_147 hl (by decide) rfl (fun ls hl => ?_)
              refine w_loop (β := Int32 × Int32) (fun x65 => [(8, .int x65.1), (7, .int x65.2), (6, .int x21), (4, .long z20), (2, .int z4), (1, .int z2), (0, .ref h0)]) (0, x60) hl hw hH (fun K67 x65 σ66 ls H locs hl hw hH ih68 => ?_)
              have hl : lv_has ls 9 [(8, .int x65.1), (7, .int x65.2), (6, .int x21), (4, .long z20), (2, .int z4), (1, .int z2), (0, .ref h0)] := hl
              refine lv_iload hx hb dX12_setUp_149 (lv_at hl 0 rfl) ?_
              refine lv_iload_n hx hb dX12_setUp_151 rfl (lv_at hl 4 rfl) ?_
              obtain ⟨K71, hK72, hw⟩ := jn_open hw
              refine w_join (K := K71) 201 (fun (x69 : Unit) => [(7, .int x65.2), (6, .int x21), (4, .long z20), (2, .int z4), (1, .int z2), (0, .ref h0)]) (fun (x69 : Unit) => []) hl hH (fun x69 σ70 ls H locs hl hw hH => ?_) (fun jn73 => ?_)
              · have hw := hK72 x69 σ70 hw
                have hl : lv_has ls 9 [(7, .int x65.2), (6, .int x21), (4, .long z20), (2, .int z4), (1, .int z2), (0, .ref h0)] := hl
                refine lv_iload hx hb dX12_setUp_201 (lv_at hl 0 rfl) ?_
                refine w_if_eq (tgt := 215) hF dX12_setUp_203 rfl hw (fun hw => ?_) (fun hw => ?_)
                · obtain ⟨z74, ez74⟩ : ∃ z : Int32, z = x21 + 1 := ⟨_, rfl⟩
                  have hw := hw z74 ez74
                  refine lv_iinc (lv' := [(6, .int z74), (7, .int x65.2), (4, .long z20), (2, .int z4), (1, .int z2), (0, .ref h0)]) (k := 1) (v := z74) hx hb dX12_setUp_215 hl rfl ez74.symm (by decide) rfl (fun ls hl => ?_)
                  refine lv_goto (tgt := 101) hx hb dX12_setUp_218 rfl ?_
                  have hl : lv_has ls 9 [(6, .int z74), (4, .long z20), (2, .int z4), (1, .int z2), (0, .ref h0)] := lv_sub hl [0, 2, 3, 4, 5] rfl
                  exact ih24 z74 σ70 ls _ _ hl hw hH
                · refine lv_aload_n hx hb dX12_setUp_206 rfl (lv_at hl 5 rfl) ?_
                  refine lv_iload hx hb dX12_setUp_207 (lv_at hl 1 rfl) ?_
                  refine w_cVv (As := [.int x21]) (rest := []) hF hH hA mv_X12_338 (fun sz => c_X12_endSession l D t h0 L _ hH.2 x21 _ hw sz) dX12_setUp_209 rfl rfl (by decide) rfl hl.1 (Nat.le_of_ble_eq_true rfl) (by decide) rfl (fun σ75 H locs hw hH => ?_)
                  refine lv_goto (tgt := 221) hx hb dX12_setUp_212 rfl ?_
                  have hl : lv_has ls 9 [(2, .int z4), (1, .int z2), (0, .ref h0)] := lv_sub hl [3, 4, 5] rfl
                  exact jn29 () σ75 ls _ _ hl hw hH
              · skip
                refine w_icmp_ge (tgt := 201) hF dX12_setUp_152 rfl hw (fun hw => ?_) (fun hw => ?_)
                · have hl : lv_has ls 9 [(7, .int x65.2), (6, .int x21), (4, .long z20), (2, .int z4), (1, .int z2), (0, .ref h0)] := lv_sub hl [1, 2, 3, 4, 5, 6] rfl
                  exact jn73 () σ66 ls _ _ hl hw hH
                · refine lv_iload hx hb dX12_setUp_155 (lv_at hl 1 rfl) ?_
                  refine w_if_eq (tgt := 201) hF dX12_setUp_157 rfl hw (fun hw => ?_) (fun hw => ?_)
                  · have hl : lv_has ls 9 [(7, .int x65.2), (6, .int x21), (4, .long z20), (2, .int z4), (1, .int z2), (0, .ref h0)] := lv_sub hl [1, 2, 3, 4, 5, 6] rfl
                    exact jn73 () σ66 ls _ _ hl hw hH
                  · refine lv_aload_n hx hb dX12_setUp_160 rfl (lv_at hl 6 rfl) ?_
                    refine w_getA 36 hF hH fk_X12_124 dX12_setUp_161 (by decide) rfl ?_
                    refine lv_bipush (v := 16) hx hb dX12_setUp_164 (by decide) ?_
                    refine lv_iload hx hb dX12_setUp_166 (lv_at hl 2 rfl) ?_
                    refine lv_imul hx hb dX12_setUp_168 ?_
                    refine w_nmi hw (fun z77 hw => ?_)
                    refine lv_iload hx hb dX12_setUp_169 (lv_at hl 0 rfl) ?_
                    refine lv_iadd hx hb dX12_setUp_171 ?_
                    refine w_nmi hw (fun z78 hw => ?_)
                    refine w_bald 36 128 hF hH dX12_setUp_172 (by decide) rfl rfl hw (fun z79 hw => ?_)
                    refine lv_sipush (v := 255) hx hb dX12_setUp_173 (by decide) ?_
                    refine lv_iand hx hb dX12_setUp_176 ?_
                    refine w_nmi hw (fun z80 hw => ?_)
                    refine lv_aload_n hx hb dX12_setUp_177 rfl (lv_at hl 6 rfl) ?_
                    refine lv_iload_n hx hb dX12_setUp_178 rfl (lv_at hl 5 rfl) ?_
                    refine lv_iload hx hb dX12_setUp_179 (lv_at hl 0 rfl) ?_
                    refine lv_iadd hx hb dX12_setUp_181 ?_
                    refine w_nmi hw (fun z81 hw => ?_)
                    refine w_cVi (As := [.int z81]) (rest := [.int z80]) hF hH hA mv_X12_600 (fun sz => c_X12_number1 l D t h0 L _ hH.2 z81 _ hw sz) dX12_setUp_182 rfl rfl (by decide) rfl hl.1 (Nat.le_of_ble_eq_true rfl) (by decide) rfl (fun z83 σ82 H locs hw hH => ?_)
                    obtain ⟨K86, hK87, hw⟩ := jn_open hw
                    refine w_join (K := K86) 193 (fun (x84 : Int32) => [(8, .int x65.1), (6, .int x21), (4, .long z20), (2, .int z4), (1, .int z2), (0, .ref h0)]) (fun (x84 : Int32) => [.int x84]) hl hH (fun x84 σ85 ls H locs hl hw hH => ?_) (fun jn88 => ?_)
                    · have hw := hK87 x84 σ85 hw
                      have hl : lv_has ls 9 [(8, .int x65.1), (6, .int x21), (4, .long z20), (2, .int z4), (1, .int z2), (0, .ref h0)] := hl
                      refine lv_istore (lv' := [(7, .int x84), (8, .int x65.1), (6, .int x21), (4, .long z20), (2, .int z4), (1, .int z2), (0, .ref h0)]) hx hb dX12_setUp_193 hl (by decide) rfl (fun ls hl => ?_)
                      obtain ⟨z89, ez89⟩ : ∃ z : Int32, z = x65.1 + 1 := ⟨_, rfl⟩
                      have hw := hw z89 ez89
                      refine lv_iinc (lv' := [(8, .int z89), (7, .int x84), (6, .int x21), (4, .long z20), (2, .int z4), (1, .int z2), (0, .ref h0)]) (k := 1) (v := z89) hx hb dX12_setUp_195 hl rfl ez89.symm (by decide) rfl (fun ls hl => ?_)
                      refine lv_goto (tgt := 149) hx hb dX12_setUp_198 rfl ?_
                      exact ih68 (z89, x84) σ85 ls _ _ hl hw hH
                    · skip
                      refine w_icmp_ne (tgt := 192) hF dX12_setUp_185 rfl hw (fun hw => ?_) (fun hw => ?_)
                      · refine lv_iconst (v := 0) hx hb dX12_setUp_192 (by decide) ?_
                        have hl : lv_has ls 9 [(8, .int x65.1), (6, .int x21), (4, .long z20), (2, .int z4), (1, .int z2), (0, .ref h0)] := lv_sub hl [0, 2, 3, 4, 5, 6] rfl
                        exact jn88 0 σ82 ls _ _ hl hw hH
                      · refine lv_iconst (v := 1) hx hb dX12_setUp_188 (by decide) ?_
                        refine lv_goto (tgt := 193) hx hb dX12_setUp_189 rfl ?_
                        have hl : lv_has ls 9 [(8, .int x65.1), (6, .int x21), (4, .long z20), (2, .int z4), (1, .int z2), (0, .ref h0)] := lv_sub hl [0, 2, 3, 4, 5, 6] rfl
                        exact jn88 1 σ82 ls _ _ hl hw hH
            · skip
              obtain ⟨K92, hK93, hw⟩ := jn_open hw
              refine w_join (K := K92) 143 (fun (x90 : Unit) => [(6, .int x21), (4, .long z20), (2, .int z4), (1, .int z2), (0, .ref h0)]) (fun (x90 : Unit) => []) hl hH (fun x90 σ91 ls H locs hl hw hH => ?_) (fun jn94 => ?_)
              · have hw := hK93 x90 σ91 hw
                have hl : lv_has ls 9 [(6, .int x21), (4, .long z20), (2, .int z4), (1, .int z2), (0, .ref h0)] := hl
                refine lv_iconst (v := 0) hx hb dX12_setUp_143 (by decide) ?_
                exact jn64 0 σ91 ls _ _ hl hw hH
              · skip
                refine w_lif_eq (tgt := 143) hF dX12_setUp_111 dX12_setUp_112 rfl hw (fun hw => ?_) (fun hw => ?_)
                · exact jn94 () σ22 ls _ _ hl hw hH
                · refine lv_aload_n hx hb dX12_setUp_115 rfl (lv_at hl 4 rfl) ?_
                  refine w_getA 34 hF hH fk_X12_118 dX12_setUp_116 (by decide) rfl ?_
                  refine lv_iload hx hb dX12_setUp_119 (lv_at hl 0 rfl) ?_
                  refine w_lald 34 8 hF hH dX12_setUp_121 (by decide) rfl rfl hw (fun z95 hw => ?_)
                  refine lv_lload hx hb dX12_setUp_122 (lv_at hl 1 rfl) ?_
                  refine w_lif_ne (tgt := 143) hF dX12_setUp_124 dX12_setUp_125 rfl hw (fun hw => ?_) (fun hw => ?_)
                  · exact jn94 () σ22 ls _ _ hl hw hH
                  · refine lv_aload_n hx hb dX12_setUp_128 rfl (lv_at hl 4 rfl) ?_
                    refine w_getA 37 hF hH fk_X12_127 dX12_setUp_129 (by decide) rfl ?_
                    refine lv_iload hx hb dX12_setUp_132 (lv_at hl 0 rfl) ?_
                    refine w_iald 37 8 hF hH dX12_setUp_134 (by decide) rfl rfl hw (fun z96 hw => ?_)
                    refine lv_iload_n hx hb dX12_setUp_135 rfl (lv_at hl 2 rfl) ?_
                    refine w_icmp_ne (tgt := 143) hF dX12_setUp_136 rfl hw (fun hw => ?_) (fun hw => ?_)
                    · exact jn94 () σ22 ls _ _ hl hw hH
                    · refine lv_iconst (v := 1) hx hb dX12_setUp_139 (by decide) ?_
                      refine lv_goto (tgt := 144) hx hb dX12_setUp_140 rfl ?_
                      exact jn64 1 σ22 ls _ _ hl hw hH
      · refine lv_ldc2 (v := 3221225485) hx hb hF.1.2.2.2.1 (hF.1.2.2.2.2 _ (wc_47 33 rfl)) dX12_setUp_84 ?_
        exact w_retl hF hH hr hlk dX12_setUp_87 hw
    · skip
      refine w_icmp_ge (tgt := 80) hF dX12_setUp_37 rfl hw (fun hw => ?_) (fun hw => ?_)
      · have hl : lv_has ls 9 [(3, .int x10.2), (2, .int z4), (1, .int z2), (0, .ref h0)] := lv_sub hl [1, 2, 3, 4] rfl
        exact jn18 () σ11 ls _ _ hl hw hH
      · refine lv_iload_n hx hb dX12_setUp_40 rfl (lv_at hl 1 rfl) ?_
        refine w_if_eq (tgt := 80) hF dX12_setUp_41 rfl hw (fun hw => ?_) (fun hw => ?_)
        · have hl : lv_has ls 9 [(3, .int x10.2), (2, .int z4), (1, .int z2), (0, .ref h0)] := lv_sub hl [1, 2, 3, 4] rfl
          exact jn18 () σ11 ls _ _ hl hw hH
        · refine lv_aload_n hx hb dX12_setUp_44 rfl (lv_at hl 4 rfl) ?_
          refine lv_iload_n hx hb dX12_setUp_45 rfl (lv_at hl 3 rfl) ?_
          refine lv_iload hx hb dX12_setUp_46 (lv_at hl 0 rfl) ?_
          refine lv_iadd hx hb dX12_setUp_48 ?_
          refine w_nmi hw (fun z97 hw => ?_)
          refine w_cVi (As := [.int z97]) (rest := []) hF hH hA mv_X12_600 (fun sz => c_X12_number1 l D t h0 L _ hH.2 z97 _ hw sz) dX12_setUp_49 rfl rfl (by decide) rfl hl.1 (Nat.le_of_ble_eq_true rfl) (by decide) rfl (fun z99 σ98 H locs hw hH => ?_)
          refine lv_istore (lv' := [(5, .int z99), (4, .int x10.1), (3, .int x10.2), (2, .int z4), (1, .int z2), (0, .ref h0)]) hx hb dX12_setUp_52 hl (by decide) rfl (fun ls hl => ?_)
          refine lv_iload hx hb dX12_setUp_54 (lv_at hl 0 rfl) ?_
          refine lv_bipush (v := 33) hx hb dX12_setUp_56 (by decide) ?_
          obtain ⟨K102, hK103, hw⟩ := jn_open hw
          refine w_join (K := K102) 73 (fun (x100 : Int32) => [(4, .int x10.1), (2, .int z4), (1, .int z2), (0, .ref h0)]) (fun (x100 : Int32) => [.int x100]) hl hH (fun x100 σ101 ls H locs hl hw hH => ?_) (fun jn104 => ?_)
          · have hw := hK103 x100 σ101 hw
            have hl : lv_has ls 9 [(4, .int x10.1), (2, .int z4), (1, .int z2), (0, .ref h0)] := hl
            refine lv_istore_n (lv' := [(3, .int x100), (4, .int x10.1), (2, .int z4), (1, .int z2), (0, .ref h0)]) hx hb dX12_setUp_73 rfl hl (by decide) rfl (fun ls hl => ?_)
            obtain ⟨z105, ez105⟩ : ∃ z : Int32, z = x10.1 + 1 := ⟨_, rfl⟩
            have hw := hw z105 ez105
            refine lv_iinc (lv' := [(4, .int z105), (3, .int x100), (2, .int z4), (1, .int z2), (0, .ref h0)]) (k := 1) (v := z105) hx hb dX12_setUp_74 hl rfl ez105.symm (by decide) rfl (fun ls hl => ?_)
            refine lv_goto (tgt := 34) hx hb dX12_setUp_77 rfl ?_
            exact ih13 (z105, x100) σ101 ls _ _ hl hw hH
          · skip
            obtain ⟨K108, hK109, hw⟩ := jn_open hw
            refine w_join (K := K108) 72 (fun (x106 : Unit) => [(4, .int x10.1), (2, .int z4), (1, .int z2), (0, .ref h0)]) (fun (x106 : Unit) => []) hl hH (fun x106 σ107 ls H locs hl hw hH => ?_) (fun jn110 => ?_)
            · have hw := hK109 x106 σ107 hw
              have hl : lv_has ls 9 [(4, .int x10.1), (2, .int z4), (1, .int z2), (0, .ref h0)] := hl
              refine lv_iconst (v := 0) hx hb dX12_setUp_72 (by decide) ?_
              exact jn104 0 σ107 ls _ _ hl hw hH
            · skip
              refine w_icmp_lt (tgt := 72) hF dX12_setUp_58 rfl hw (fun hw => ?_) (fun hw => ?_)
              · have hl : lv_has ls 9 [(4, .int x10.1), (2, .int z4), (1, .int z2), (0, .ref h0)] := lv_sub hl [1, 3, 4, 5] rfl
                exact jn110 () σ98 ls _ _ hl hw hH
              · refine lv_iload hx hb dX12_setUp_61 (lv_at hl 0 rfl) ?_
                refine lv_bipush (v := 126) hx hb dX12_setUp_63 (by decide) ?_
                refine w_icmp_gt (tgt := 72) hF dX12_setUp_65 rfl hw (fun hw => ?_) (fun hw => ?_)
                · have hl : lv_has ls 9 [(4, .int x10.1), (2, .int z4), (1, .int z2), (0, .ref h0)] := lv_sub hl [1, 3, 4, 5] rfl
                  exact jn110 () σ98 ls _ _ hl hw hH
                · refine lv_iconst (v := 1) hx hb dX12_setUp_68 (by decide) ?_
                  refine lv_goto (tgt := 73) hx hb dX12_setUp_69 rfl ?_
                  have hl : lv_has ls 9 [(4, .int x10.1), (2, .int z4), (1, .int z2), (0, .ref h0)] := lv_sub hl [1, 3, 4, 5] rfl
                  exact jn104 1 σ98 ls _ _ hl hw hH
  · skip
    obtain ⟨K113, hK114, hw⟩ := jn_open hw
    refine w_join (K := K113) 29 (fun (x111 : Unit) => [(2, .int z4), (1, .int z2), (0, .ref h0)]) (fun (x111 : Unit) => []) hl hH (fun x111 σ112 ls H locs hl hw hH => ?_) (fun jn115 => ?_)
    · have hw := hK114 x111 σ112 hw
      have hl : lv_has ls 9 [(2, .int z4), (1, .int z2), (0, .ref h0)] := hl
      refine lv_iconst (v := 0) hx hb dX12_setUp_29 (by decide) ?_
      exact jn9 0 σ112 ls _ _ hl hw hH
    · skip
      refine w_icmp_lt (tgt := 29) hF dX12_setUp_16 rfl hw (fun hw => ?_) (fun hw => ?_)
      · exact jn115 () σ3 ls _ _ hl hw hH
      · refine lv_iload_n hx hb dX12_setUp_19 rfl (lv_at hl 0 rfl) ?_
        refine lv_bipush (v := 16) hx hb dX12_setUp_20 (by decide) ?_
        refine w_icmp_gt (tgt := 29) hF dX12_setUp_22 rfl hw (fun hw => ?_) (fun hw => ?_)
        · exact jn115 () σ3 ls _ _ hl hw hH
        · refine lv_iconst (v := 1) hx hb dX12_setUp_25 (by decide) ?_
          refine lv_goto (tgt := 30) hx hb dX12_setUp_26 rfl ?_
          exact jn9 1 σ3 ls _ _ hl hw hH

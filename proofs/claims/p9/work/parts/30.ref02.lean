/-! the reference, lifted: 2 -/
def F_X12_eldestTree (h0 : Nat) (L : Nat → Nat) (a1 : Int32) (post : Int32 → HS → Prop) (σ : HS) : Prop := lw (fun (K3 : (Int32 × Int32) → HS → Prop) (x1 : Int32 × Int32) (σ2 : HS) => (((16 : Int32).toInt ≤ x1.1.toInt) → post x1.2 σ2) ∧ ((x1.1.toInt < (16 : Int32).toInt) → (0 ≤ x1.1.toInt ∧ x1.1.toInt < 16) ∧ ∀ z5 : Int64, z5 = sJ σ2 (L 38) x1.1.toInt.toNat → jn (fun (K8 : Int32 → HS → Prop) => jn (fun (K31 : Unit → HS → Prop) => ((z5.toInt ≤ (0 : Int64).toInt) → K31 () σ2) ∧ (((0 : Int64).toInt < z5.toInt) → (0 ≤ x1.1.toInt ∧ x1.1.toInt < 16) ∧ ∀ z34 : Int32, z34 = sI σ2 (L 39) x1.1.toInt.toNat → ((¬ z34.toInt = a1.toInt) → K31 () σ2) ∧ ((z34.toInt = a1.toInt) → K8 1 σ2))) (fun (x29 : Unit) (σ30 : HS) => K8 0 σ30)) (fun (x6 : Int32) (σ7 : HS) => jn (fun (K13 : Int32 → HS → Prop) => jn (fun (K19 : Unit → HS → Prop) => ((x6.toInt = 0) → K19 () σ7) ∧ ((¬ x6.toInt = 0) → jn (fun (K24 : Unit → HS → Prop) => ((x1.2.toInt < 0) → K24 () σ7) ∧ ((0 ≤ x1.2.toInt) → (0 ≤ x1.1.toInt ∧ x1.1.toInt < 16) ∧ ∀ z27 : Int64, z27 = sJ σ7 (L 38) x1.1.toInt.toNat → (0 ≤ x1.2.toInt ∧ x1.2.toInt < 16) ∧ ∀ z28 : Int64, z28 = sJ σ7 (L 38) x1.2.toInt.toNat → ((z28.toInt ≤ z27.toInt) → K19 () σ7) ∧ ((z27.toInt < z28.toInt) → K24 () σ7))) (fun (x22 : Unit) (σ23 : HS) => K13 x1.1 σ23))) (fun (x17 : Unit) (σ18 : HS) => K13 x1.2 σ18)) (fun (x11 : Int32) (σ12 : HS) => ∀ z16 : Int32, z16 = x1.1 + 1 → K3 (z16, x11) σ12)))) (0, (-1)) σ
theorem dX12_eldestTree_0 : decode cX12_eldestTree 0 = .ok (.iconst (-1), 1) := by decide +kernel
theorem dX12_eldestTree_1 : decode cX12_eldestTree 1 = .ok (.istore_n 2, 1) := by decide +kernel
theorem dX12_eldestTree_2 : decode cX12_eldestTree 2 = .ok (.iconst 0, 1) := by decide +kernel
theorem dX12_eldestTree_3 : decode cX12_eldestTree 3 = .ok (.istore_n 3, 1) := by decide +kernel
theorem dX12_eldestTree_4 : decode cX12_eldestTree 4 = .ok (.iload_n 3, 1) := by decide +kernel
theorem dX12_eldestTree_5 : decode cX12_eldestTree 5 = .ok (.bipush 16, 2) := by decide +kernel
theorem dX12_eldestTree_7 : decode cX12_eldestTree 7 = .ok (.if_icmp .ge 68, 3) := by decide +kernel
theorem dX12_eldestTree_10 : decode cX12_eldestTree 10 = .ok (.aload_n 0, 1) := by decide +kernel
theorem dX12_eldestTree_11 : decode cX12_eldestTree 11 = .ok (.getfield 130, 3) := by decide +kernel
theorem dX12_eldestTree_14 : decode cX12_eldestTree 14 = .ok (.iload_n 3, 1) := by decide +kernel
theorem dX12_eldestTree_15 : decode cX12_eldestTree 15 = .ok (.laload, 1) := by decide +kernel
theorem dX12_eldestTree_16 : decode cX12_eldestTree 16 = .ok (.lconst 0, 1) := by decide +kernel
theorem dX12_eldestTree_17 : decode cX12_eldestTree 17 = .ok (.lcmp, 1) := by decide +kernel
theorem dX12_eldestTree_18 : decode cX12_eldestTree 18 = .ok (.ifCond .le 17, 3) := by decide +kernel
theorem dX12_eldestTree_21 : decode cX12_eldestTree 21 = .ok (.aload_n 0, 1) := by decide +kernel
theorem dX12_eldestTree_22 : decode cX12_eldestTree 22 = .ok (.getfield 133, 3) := by decide +kernel
theorem dX12_eldestTree_25 : decode cX12_eldestTree 25 = .ok (.iload_n 3, 1) := by decide +kernel
theorem dX12_eldestTree_26 : decode cX12_eldestTree 26 = .ok (.iaload, 1) := by decide +kernel
theorem dX12_eldestTree_27 : decode cX12_eldestTree 27 = .ok (.iload_n 1, 1) := by decide +kernel
theorem dX12_eldestTree_28 : decode cX12_eldestTree 28 = .ok (.if_icmp .ne 7, 3) := by decide +kernel
theorem dX12_eldestTree_31 : decode cX12_eldestTree 31 = .ok (.iconst 1, 1) := by decide +kernel
theorem dX12_eldestTree_32 : decode cX12_eldestTree 32 = .ok (.goto 4, 3) := by decide +kernel
theorem dX12_eldestTree_35 : decode cX12_eldestTree 35 = .ok (.iconst 0, 1) := by decide +kernel
theorem dX12_eldestTree_36 : decode cX12_eldestTree 36 = .ok (.istore 4, 2) := by decide +kernel
theorem dX12_eldestTree_38 : decode cX12_eldestTree 38 = .ok (.iload 4, 2) := by decide +kernel
theorem dX12_eldestTree_40 : decode cX12_eldestTree 40 = .ok (.ifCond .eq 27, 3) := by decide +kernel
theorem dX12_eldestTree_43 : decode cX12_eldestTree 43 = .ok (.iload_n 2, 1) := by decide +kernel
theorem dX12_eldestTree_44 : decode cX12_eldestTree 44 = .ok (.ifCond .lt 19, 3) := by decide +kernel
theorem dX12_eldestTree_47 : decode cX12_eldestTree 47 = .ok (.aload_n 0, 1) := by decide +kernel
theorem dX12_eldestTree_48 : decode cX12_eldestTree 48 = .ok (.getfield 130, 3) := by decide +kernel
theorem dX12_eldestTree_51 : decode cX12_eldestTree 51 = .ok (.iload_n 3, 1) := by decide +kernel
theorem dX12_eldestTree_52 : decode cX12_eldestTree 52 = .ok (.laload, 1) := by decide +kernel
theorem dX12_eldestTree_53 : decode cX12_eldestTree 53 = .ok (.aload_n 0, 1) := by decide +kernel
theorem dX12_eldestTree_54 : decode cX12_eldestTree 54 = .ok (.getfield 130, 3) := by decide +kernel
theorem dX12_eldestTree_57 : decode cX12_eldestTree 57 = .ok (.iload_n 2, 1) := by decide +kernel
theorem dX12_eldestTree_58 : decode cX12_eldestTree 58 = .ok (.laload, 1) := by decide +kernel
theorem dX12_eldestTree_59 : decode cX12_eldestTree 59 = .ok (.lcmp, 1) := by decide +kernel
theorem dX12_eldestTree_60 : decode cX12_eldestTree 60 = .ok (.ifCond .ge 7, 3) := by decide +kernel
theorem dX12_eldestTree_63 : decode cX12_eldestTree 63 = .ok (.iload_n 3, 1) := by decide +kernel
theorem dX12_eldestTree_64 : decode cX12_eldestTree 64 = .ok (.goto 4, 3) := by decide +kernel
theorem dX12_eldestTree_67 : decode cX12_eldestTree 67 = .ok (.iload_n 2, 1) := by decide +kernel
theorem dX12_eldestTree_68 : decode cX12_eldestTree 68 = .ok (.istore_n 2, 1) := by decide +kernel
theorem dX12_eldestTree_69 : decode cX12_eldestTree 69 = .ok (.iinc 3 1, 3) := by decide +kernel
theorem dX12_eldestTree_72 : decode cX12_eldestTree 72 = .ok (.goto (-68), 3) := by decide +kernel
theorem dX12_eldestTree_75 : decode cX12_eldestTree 75 = .ok (.iload_n 2, 1) := by decide +kernel
theorem dX12_eldestTree_76 : decode cX12_eldestTree 76 = .ok (.ireturn, 1) := by decide +kernel
set_option maxRecDepth 100000 in
set_option maxHeartbeats 4000000 in
theorem c_X12_eldestTree (l : Launch) (D : va_G) (t : Nat → ClassId) (h0 : Nat) (L : Nat → Nat) (σ : HS) (hM : MdI h0 L σ) (a1 : Int32) (post : Int32 → HS → Prop) (hw : F_X12_eldestTree h0 L a1 post σ) (sz : Nat) : RMi l D t yX12_eldestTree cX12_eldestTree 5 (some .int) ({ frames := 0, cells := 0, slots := 0, locals := 0 }) h0 L σ sz [.ref h0, .int a1] post := by
  refine h_go (τ := τT) okT (by decide) (Nat.le_of_ble_eq_true rfl) ?_
  intro p e s m below meth c ls A hF hr hlk hAe hH0 hA hl
  unfold hB
  rw [hAe]
  clear hAe
  have hF : FX p m c cX12_eldestTree 5 s _ RX12 D t := hF
  have hx := hF.1.1
  have hb := hF.1.2.1
  have hH : RT D t A s.heap h0 L σ s.heap [] := ⟨hH0, hM⟩
  have hl : lv_has ls 5 [(0, .ref h0), (1, .int a1)] := hl
  unfold F_X12_eldestTree at hw
  refine lv_iconst (v := (-1)) hx hb dX12_eldestTree_0 (by decide) ?_
  refine lv_istore_n (lv' := [(2, .int (-1)), (0, .ref h0), (1, .int a1)]) hx hb dX12_eldestTree_1 rfl hl (by decide) rfl (fun ls hl => ?_)
  refine lv_iconst (v := 0) hx hb dX12_eldestTree_2 (by decide) ?_
  refine lv_istore_n (lv' := [(3, .int 0), (2, .int (-1)), (0, .ref h0), (1, .int a1)]) hx hb dX12_eldestTree_3 rfl hl (by decide) rfl (fun ls hl => ?_)
  have hl : lv_has ls 5 [(3, .int 0), (2, .int (-1)), (1, .int a1), (0, .ref h0)] := lv_sub hl [0, 1, 3, 2] rfl
  refine w_loop (β := Int32 × Int32) (fun x1 => [(3, .int x1.1), (2, .int x1.2), (1, .int a1), (0, .ref h0)]) (0, (-1)) hl hw hH (fun K3 x1 σ2 ls H locs hl hw hH ih4 => ?_)
  have hl : lv_has ls 5 [(3, .int x1.1), (2, .int x1.2), (1, .int a1), (0, .ref h0)] := hl
  refine lv_iload_n hx hb dX12_eldestTree_4 rfl (lv_at hl 0 rfl) ?_
  refine lv_bipush (v := 16) hx hb dX12_eldestTree_5 (by decide) ?_
  refine w_icmp_ge (tgt := 75) hF dX12_eldestTree_7 rfl hw (fun hw => ?_) (fun hw => ?_)
  · refine lv_iload_n hx hb dX12_eldestTree_75 rfl (lv_at hl 1 rfl) ?_
    exact w_reti hF hH hr hlk rfl dX12_eldestTree_76 hw
  · refine lv_aload_n hx hb dX12_eldestTree_10 rfl (lv_at hl 3 rfl) ?_
    refine w_getA 38 hF hH fk_X12_130 dX12_eldestTree_11 (by decide) rfl ?_
    refine lv_iload_n hx hb dX12_eldestTree_14 rfl (lv_at hl 0 rfl) ?_
    refine w_lald 38 16 hF hH dX12_eldestTree_15 (by decide) rfl rfl hw (fun z5 hw => ?_)
    refine lv_lconst (v := 0) hx hb dX12_eldestTree_16 (by decide) ?_
    obtain ⟨K8, hK9, hw⟩ := jn_open hw
    refine w_join (K := K8) 36 (fun (x6 : Int32) => [(3, .int x1.1), (2, .int x1.2), (1, .int a1), (0, .ref h0)]) (fun (x6 : Int32) => [.int x6]) hl hH (fun x6 σ7 ls H locs hl hw hH => ?_) (fun jn10 => ?_)
    · have hw := hK9 x6 σ7 hw
      have hl : lv_has ls 5 [(3, .int x1.1), (2, .int x1.2), (1, .int a1), (0, .ref h0)] := hl
      refine lv_istore (lv' := [(4, .int x6), (3, .int x1.1), (2, .int x1.2), (1, .int a1), (0, .ref h0)]) hx hb dX12_eldestTree_36 hl (by decide) rfl (fun ls hl => ?_)
      refine lv_iload hx hb dX12_eldestTree_38 (lv_at hl 0 rfl) ?_
      obtain ⟨K13, hK14, hw⟩ := jn_open hw
      refine w_join (K := K13) 68 (fun (x11 : Int32) => [(3, .int x1.1), (1, .int a1), (0, .ref h0)]) (fun (x11 : Int32) => [.int x11]) hl hH (fun x11 σ12 ls H locs hl hw hH => ?_) (fun jn15 => ?_)
      · have hw := hK14 x11 σ12 hw
        have hl : lv_has ls 5 [(3, .int x1.1), (1, .int a1), (0, .ref h0)] := hl
        refine lv_istore_n (lv' := [(2, .int x11), (3, .int x1.1), (1, .int a1), (0, .ref h0)]) hx hb dX12_eldestTree_68 rfl hl (by decide) rfl (fun ls hl => ?_)
        obtain ⟨z16, ez16⟩ : ∃ z : Int32, z = x1.1 + 1 := ⟨_, rfl⟩
        have hw := hw z16 ez16
        refine lv_iinc (lv' := [(3, .int z16), (2, .int x11), (1, .int a1), (0, .ref h0)]) (k := 1) (v := z16) hx hb dX12_eldestTree_69 hl rfl ez16.symm (by decide) rfl (fun ls hl => ?_)
        refine lv_goto (tgt := 4) hx hb dX12_eldestTree_72 rfl ?_
        exact ih4 (z16, x11) σ12 ls _ _ hl hw hH
      · skip
        obtain ⟨K19, hK20, hw⟩ := jn_open hw
        refine w_join (K := K19) 67 (fun (x17 : Unit) => [(3, .int x1.1), (2, .int x1.2), (1, .int a1), (0, .ref h0)]) (fun (x17 : Unit) => []) hl hH (fun x17 σ18 ls H locs hl hw hH => ?_) (fun jn21 => ?_)
        · have hw := hK20 x17 σ18 hw
          have hl : lv_has ls 5 [(3, .int x1.1), (2, .int x1.2), (1, .int a1), (0, .ref h0)] := hl
          refine lv_iload_n hx hb dX12_eldestTree_67 rfl (lv_at hl 1 rfl) ?_
          have hl : lv_has ls 5 [(3, .int x1.1), (1, .int a1), (0, .ref h0)] := lv_sub hl [0, 2, 3] rfl
          exact jn15 x1.2 σ18 ls _ _ hl hw hH
        · skip
          refine w_if_eq (tgt := 67) hF dX12_eldestTree_40 rfl hw (fun hw => ?_) (fun hw => ?_)
          · have hl : lv_has ls 5 [(3, .int x1.1), (2, .int x1.2), (1, .int a1), (0, .ref h0)] := lv_sub hl [1, 2, 3, 4] rfl
            exact jn21 () σ7 ls _ _ hl hw hH
          · refine lv_iload_n hx hb dX12_eldestTree_43 rfl (lv_at hl 2 rfl) ?_
            obtain ⟨K24, hK25, hw⟩ := jn_open hw
            refine w_join (K := K24) 63 (fun (x22 : Unit) => [(3, .int x1.1), (1, .int a1), (0, .ref h0)]) (fun (x22 : Unit) => []) hl hH (fun x22 σ23 ls H locs hl hw hH => ?_) (fun jn26 => ?_)
            · have hw := hK25 x22 σ23 hw
              have hl : lv_has ls 5 [(3, .int x1.1), (1, .int a1), (0, .ref h0)] := hl
              refine lv_iload_n hx hb dX12_eldestTree_63 rfl (lv_at hl 0 rfl) ?_
              refine lv_goto (tgt := 68) hx hb dX12_eldestTree_64 rfl ?_
              exact jn15 x1.1 σ23 ls _ _ hl hw hH
            · skip
              refine w_if_lt (tgt := 63) hF dX12_eldestTree_44 rfl hw (fun hw => ?_) (fun hw => ?_)
              · have hl : lv_has ls 5 [(3, .int x1.1), (1, .int a1), (0, .ref h0)] := lv_sub hl [1, 3, 4] rfl
                exact jn26 () σ7 ls _ _ hl hw hH
              · refine lv_aload_n hx hb dX12_eldestTree_47 rfl (lv_at hl 4 rfl) ?_
                refine w_getA 38 hF hH fk_X12_130 dX12_eldestTree_48 (by decide) rfl ?_
                refine lv_iload_n hx hb dX12_eldestTree_51 rfl (lv_at hl 1 rfl) ?_
                refine w_lald 38 16 hF hH dX12_eldestTree_52 (by decide) rfl rfl hw (fun z27 hw => ?_)
                refine lv_aload_n hx hb dX12_eldestTree_53 rfl (lv_at hl 4 rfl) ?_
                refine w_getA 38 hF hH fk_X12_130 dX12_eldestTree_54 (by decide) rfl ?_
                refine lv_iload_n hx hb dX12_eldestTree_57 rfl (lv_at hl 2 rfl) ?_
                refine w_lald 38 16 hF hH dX12_eldestTree_58 (by decide) rfl rfl hw (fun z28 hw => ?_)
                refine w_lif_ge (tgt := 67) hF dX12_eldestTree_59 dX12_eldestTree_60 rfl hw (fun hw => ?_) (fun hw => ?_)
                · have hl : lv_has ls 5 [(3, .int x1.1), (2, .int x1.2), (1, .int a1), (0, .ref h0)] := lv_sub hl [1, 2, 3, 4] rfl
                  exact jn21 () σ7 ls _ _ hl hw hH
                · have hl : lv_has ls 5 [(3, .int x1.1), (1, .int a1), (0, .ref h0)] := lv_sub hl [1, 3, 4] rfl
                  exact jn26 () σ7 ls _ _ hl hw hH
    · skip
      obtain ⟨K31, hK32, hw⟩ := jn_open hw
      refine w_join (K := K31) 35 (fun (x29 : Unit) => [(3, .int x1.1), (2, .int x1.2), (1, .int a1), (0, .ref h0)]) (fun (x29 : Unit) => []) hl hH (fun x29 σ30 ls H locs hl hw hH => ?_) (fun jn33 => ?_)
      · have hw := hK32 x29 σ30 hw
        have hl : lv_has ls 5 [(3, .int x1.1), (2, .int x1.2), (1, .int a1), (0, .ref h0)] := hl
        refine lv_iconst (v := 0) hx hb dX12_eldestTree_35 (by decide) ?_
        exact jn10 0 σ30 ls _ _ hl hw hH
      · skip
        refine w_lif_le (tgt := 35) hF dX12_eldestTree_17 dX12_eldestTree_18 rfl hw (fun hw => ?_) (fun hw => ?_)
        · exact jn33 () σ2 ls _ _ hl hw hH
        · refine lv_aload_n hx hb dX12_eldestTree_21 rfl (lv_at hl 3 rfl) ?_
          refine w_getA 39 hF hH fk_X12_133 dX12_eldestTree_22 (by decide) rfl ?_
          refine lv_iload_n hx hb dX12_eldestTree_25 rfl (lv_at hl 0 rfl) ?_
          refine w_iald 39 16 hF hH dX12_eldestTree_26 (by decide) rfl rfl hw (fun z34 hw => ?_)
          refine lv_iload_n hx hb dX12_eldestTree_27 rfl (lv_at hl 2 rfl) ?_
          refine w_icmp_ne (tgt := 35) hF dX12_eldestTree_28 rfl hw (fun hw => ?_) (fun hw => ?_)
          · exact jn33 () σ2 ls _ _ hl hw hH
          · refine lv_iconst (v := 1) hx hb dX12_eldestTree_31 (by decide) ?_
            refine lv_goto (tgt := 36) hx hb dX12_eldestTree_32 rfl ?_
            exact jn10 1 σ2 ls _ _ hl hw hH
def F_X12_eldestOpen (h0 : Nat) (L : Nat → Nat) (a1 : Int32) (post : Int32 → HS → Prop) (σ : HS) : Prop := lw (fun (K3 : (Int32 × Int32) → HS → Prop) (x1 : Int32 × Int32) (σ2 : HS) => (((40 : Int32).toInt ≤ x1.1.toInt) → post x1.2 σ2) ∧ ((x1.1.toInt < (40 : Int32).toInt) → (0 ≤ x1.1.toInt ∧ x1.1.toInt < 40) ∧ ∀ z5 : Int64, z5 = sJ σ2 (L 41) x1.1.toInt.toNat → jn (fun (K8 : Int32 → HS → Prop) => jn (fun (K31 : Unit → HS → Prop) => ((z5.toInt ≤ (0 : Int64).toInt) → K31 () σ2) ∧ (((0 : Int64).toInt < z5.toInt) → (0 ≤ x1.1.toInt ∧ x1.1.toInt < 40) ∧ ∀ z34 : Int32, z34 = sI σ2 (L 42) x1.1.toInt.toNat → ((¬ z34.toInt = a1.toInt) → K31 () σ2) ∧ ((z34.toInt = a1.toInt) → K8 1 σ2))) (fun (x29 : Unit) (σ30 : HS) => K8 0 σ30)) (fun (x6 : Int32) (σ7 : HS) => jn (fun (K13 : Int32 → HS → Prop) => jn (fun (K19 : Unit → HS → Prop) => ((x6.toInt = 0) → K19 () σ7) ∧ ((¬ x6.toInt = 0) → jn (fun (K24 : Unit → HS → Prop) => ((x1.2.toInt < 0) → K24 () σ7) ∧ ((0 ≤ x1.2.toInt) → (0 ≤ x1.1.toInt ∧ x1.1.toInt < 40) ∧ ∀ z27 : Int64, z27 = sJ σ7 (L 41) x1.1.toInt.toNat → (0 ≤ x1.2.toInt ∧ x1.2.toInt < 40) ∧ ∀ z28 : Int64, z28 = sJ σ7 (L 41) x1.2.toInt.toNat → ((z28.toInt ≤ z27.toInt) → K19 () σ7) ∧ ((z27.toInt < z28.toInt) → K24 () σ7))) (fun (x22 : Unit) (σ23 : HS) => K13 x1.1 σ23))) (fun (x17 : Unit) (σ18 : HS) => K13 x1.2 σ18)) (fun (x11 : Int32) (σ12 : HS) => ∀ z16 : Int32, z16 = x1.1 + 1 → K3 (z16, x11) σ12)))) (0, (-1)) σ
theorem dX12_eldestOpen_0 : decode cX12_eldestOpen 0 = .ok (.iconst (-1), 1) := by decide +kernel
theorem dX12_eldestOpen_1 : decode cX12_eldestOpen 1 = .ok (.istore_n 2, 1) := by decide +kernel
theorem dX12_eldestOpen_2 : decode cX12_eldestOpen 2 = .ok (.iconst 0, 1) := by decide +kernel
theorem dX12_eldestOpen_3 : decode cX12_eldestOpen 3 = .ok (.istore_n 3, 1) := by decide +kernel
theorem dX12_eldestOpen_4 : decode cX12_eldestOpen 4 = .ok (.iload_n 3, 1) := by decide +kernel
theorem dX12_eldestOpen_5 : decode cX12_eldestOpen 5 = .ok (.bipush 40, 2) := by decide +kernel
theorem dX12_eldestOpen_7 : decode cX12_eldestOpen 7 = .ok (.if_icmp .ge 68, 3) := by decide +kernel
theorem dX12_eldestOpen_10 : decode cX12_eldestOpen 10 = .ok (.aload_n 0, 1) := by decide +kernel
theorem dX12_eldestOpen_11 : decode cX12_eldestOpen 11 = .ok (.getfield 139, 3) := by decide +kernel
theorem dX12_eldestOpen_14 : decode cX12_eldestOpen 14 = .ok (.iload_n 3, 1) := by decide +kernel
theorem dX12_eldestOpen_15 : decode cX12_eldestOpen 15 = .ok (.laload, 1) := by decide +kernel
theorem dX12_eldestOpen_16 : decode cX12_eldestOpen 16 = .ok (.lconst 0, 1) := by decide +kernel
theorem dX12_eldestOpen_17 : decode cX12_eldestOpen 17 = .ok (.lcmp, 1) := by decide +kernel
theorem dX12_eldestOpen_18 : decode cX12_eldestOpen 18 = .ok (.ifCond .le 17, 3) := by decide +kernel
theorem dX12_eldestOpen_21 : decode cX12_eldestOpen 21 = .ok (.aload_n 0, 1) := by decide +kernel
theorem dX12_eldestOpen_22 : decode cX12_eldestOpen 22 = .ok (.getfield 142, 3) := by decide +kernel
theorem dX12_eldestOpen_25 : decode cX12_eldestOpen 25 = .ok (.iload_n 3, 1) := by decide +kernel
theorem dX12_eldestOpen_26 : decode cX12_eldestOpen 26 = .ok (.iaload, 1) := by decide +kernel
theorem dX12_eldestOpen_27 : decode cX12_eldestOpen 27 = .ok (.iload_n 1, 1) := by decide +kernel
theorem dX12_eldestOpen_28 : decode cX12_eldestOpen 28 = .ok (.if_icmp .ne 7, 3) := by decide +kernel
theorem dX12_eldestOpen_31 : decode cX12_eldestOpen 31 = .ok (.iconst 1, 1) := by decide +kernel
theorem dX12_eldestOpen_32 : decode cX12_eldestOpen 32 = .ok (.goto 4, 3) := by decide +kernel
theorem dX12_eldestOpen_35 : decode cX12_eldestOpen 35 = .ok (.iconst 0, 1) := by decide +kernel
theorem dX12_eldestOpen_36 : decode cX12_eldestOpen 36 = .ok (.istore 4, 2) := by decide +kernel
theorem dX12_eldestOpen_38 : decode cX12_eldestOpen 38 = .ok (.iload 4, 2) := by decide +kernel
theorem dX12_eldestOpen_40 : decode cX12_eldestOpen 40 = .ok (.ifCond .eq 27, 3) := by decide +kernel
theorem dX12_eldestOpen_43 : decode cX12_eldestOpen 43 = .ok (.iload_n 2, 1) := by decide +kernel
theorem dX12_eldestOpen_44 : decode cX12_eldestOpen 44 = .ok (.ifCond .lt 19, 3) := by decide +kernel
theorem dX12_eldestOpen_47 : decode cX12_eldestOpen 47 = .ok (.aload_n 0, 1) := by decide +kernel
theorem dX12_eldestOpen_48 : decode cX12_eldestOpen 48 = .ok (.getfield 139, 3) := by decide +kernel
theorem dX12_eldestOpen_51 : decode cX12_eldestOpen 51 = .ok (.iload_n 3, 1) := by decide +kernel
theorem dX12_eldestOpen_52 : decode cX12_eldestOpen 52 = .ok (.laload, 1) := by decide +kernel
theorem dX12_eldestOpen_53 : decode cX12_eldestOpen 53 = .ok (.aload_n 0, 1) := by decide +kernel
theorem dX12_eldestOpen_54 : decode cX12_eldestOpen 54 = .ok (.getfield 139, 3) := by decide +kernel
theorem dX12_eldestOpen_57 : decode cX12_eldestOpen 57 = .ok (.iload_n 2, 1) := by decide +kernel
theorem dX12_eldestOpen_58 : decode cX12_eldestOpen 58 = .ok (.laload, 1) := by decide +kernel
theorem dX12_eldestOpen_59 : decode cX12_eldestOpen 59 = .ok (.lcmp, 1) := by decide +kernel
theorem dX12_eldestOpen_60 : decode cX12_eldestOpen 60 = .ok (.ifCond .ge 7, 3) := by decide +kernel
theorem dX12_eldestOpen_63 : decode cX12_eldestOpen 63 = .ok (.iload_n 3, 1) := by decide +kernel
theorem dX12_eldestOpen_64 : decode cX12_eldestOpen 64 = .ok (.goto 4, 3) := by decide +kernel
theorem dX12_eldestOpen_67 : decode cX12_eldestOpen 67 = .ok (.iload_n 2, 1) := by decide +kernel
theorem dX12_eldestOpen_68 : decode cX12_eldestOpen 68 = .ok (.istore_n 2, 1) := by decide +kernel
theorem dX12_eldestOpen_69 : decode cX12_eldestOpen 69 = .ok (.iinc 3 1, 3) := by decide +kernel
theorem dX12_eldestOpen_72 : decode cX12_eldestOpen 72 = .ok (.goto (-68), 3) := by decide +kernel
theorem dX12_eldestOpen_75 : decode cX12_eldestOpen 75 = .ok (.iload_n 2, 1) := by decide +kernel
theorem dX12_eldestOpen_76 : decode cX12_eldestOpen 76 = .ok (.ireturn, 1) := by decide +kernel
set_option maxRecDepth 100000 in
set_option maxHeartbeats 4000000 in
theorem c_X12_eldestOpen (l : Launch) (D : va_G) (t : Nat → ClassId) (h0 : Nat) (L : Nat → Nat) (σ : HS) (hM : MdI h0 L σ) (a1 : Int32) (post : Int32 → HS → Prop) (hw : F_X12_eldestOpen h0 L a1 post σ) (sz : Nat) : RMi l D t yX12_eldestOpen cX12_eldestOpen 5 (some .int) ({ frames := 0, cells := 0, slots := 0, locals := 0 }) h0 L σ sz [.ref h0, .int a1] post := by
  refine h_go (τ := τT) okT (by decide) (Nat.le_of_ble_eq_true rfl) ?_
  intro p e s m below meth c ls A hF hr hlk hAe hH0 hA hl
  unfold hB
  rw [hAe]
  clear hAe
  have hF : FX p m c cX12_eldestOpen 5 s _ RX12 D t := hF
  have hx := hF.1.1
  have hb := hF.1.2.1
  have hH : RT D t A s.heap h0 L σ s.heap [] := ⟨hH0, hM⟩
  have hl : lv_has ls 5 [(0, .ref h0), (1, .int a1)] := hl
  unfold F_X12_eldestOpen at hw
  refine lv_iconst (v := (-1)) hx hb dX12_eldestOpen_0 (by decide) ?_
  refine lv_istore_n (lv' := [(2, .int (-1)), (0, .ref h0), (1, .int a1)]) hx hb dX12_eldestOpen_1 rfl hl (by decide) rfl (fun ls hl => ?_)
  refine lv_iconst (v := 0) hx hb dX12_eldestOpen_2 (by decide) ?_
  refine lv_istore_n (lv' := [(3, .int 0), (2, .int (-1)), (0, .ref h0), (1, .int a1)]) hx hb dX12_eldestOpen_3 rfl hl (by decide) rfl (fun ls hl => ?_)
  have hl : lv_has ls 5 [(3, .int 0), (2, .int (-1)), (1, .int a1), (0, .ref h0)] := lv_sub hl [0, 1, 3, 2] rfl
  refine w_loop (β := Int32 × Int32) (fun x1 => [(3, .int x1.1), (2, .int x1.2), (1, .int a1), (0, .ref h0)]) (0, (-1)) hl hw hH (fun K3 x1 σ2 ls H locs hl hw hH ih4 => ?_)
  have hl : lv_has ls 5 [(3, .int x1.1), (2, .int x1.2), (1, .int a1), (0, .ref h0)] := hl
  refine lv_iload_n hx hb dX12_eldestOpen_4 rfl (lv_at hl 0 rfl) ?_
  refine lv_bipush (v := 40) hx hb dX12_eldestOpen_5 (by decide) ?_
  refine w_icmp_ge (tgt := 75) hF dX12_eldestOpen_7 rfl hw (fun hw => ?_) (fun hw => ?_)
  · refine lv_iload_n hx hb dX12_eldestOpen_75 rfl (lv_at hl 1 rfl) ?_
    exact w_reti hF hH hr hlk rfl dX12_eldestOpen_76 hw
  · refine lv_aload_n hx hb dX12_eldestOpen_10 rfl (lv_at hl 3 rfl) ?_
    refine w_getA 41 hF hH fk_X12_139 dX12_eldestOpen_11 (by decide) rfl ?_
    refine lv_iload_n hx hb dX12_eldestOpen_14 rfl (lv_at hl 0 rfl) ?_
    refine w_lald 41 40 hF hH dX12_eldestOpen_15 (by decide) rfl rfl hw (fun z5 hw => ?_)
    refine lv_lconst (v := 0) hx hb dX12_eldestOpen_16 (by decide) ?_
    obtain ⟨K8, hK9, hw⟩ := jn_open hw
    refine w_join (K := K8) 36 (fun (x6 : Int32) => [(3, .int x1.1), (2, .int x1.2), (1, .int a1), (0, .ref h0)]) (fun (x6 : Int32) => [.int x6]) hl hH (fun x6 σ7 ls H locs hl hw hH => ?_) (fun jn10 => ?_)
    · have hw := hK9 x6 σ7 hw
      have hl : lv_has ls 5 [(3, .int x1.1), (2, .int x1.2), (1, .int a1), (0, .ref h0)] := hl
      refine lv_istore (lv' := [(4, .int x6), (3, .int x1.1), (2, .int x1.2), (1, .int a1), (0, .ref h0)]) hx hb dX12_eldestOpen_36 hl (by decide) rfl (fun ls hl => ?_)
      refine lv_iload hx hb dX12_eldestOpen_38 (lv_at hl 0 rfl) ?_
      obtain ⟨K13, hK14, hw⟩ := jn_open hw
      refine w_join (K := K13) 68 (fun (x11 : Int32) => [(3, .int x1.1), (1, .int a1), (0, .ref h0)]) (fun (x11 : Int32) => [.int x11]) hl hH (fun x11 σ12 ls H locs hl hw hH => ?_) (fun jn15 => ?_)
      · have hw := hK14 x11 σ12 hw
        have hl : lv_has ls 5 [(3, .int x1.1), (1, .int a1), (0, .ref h0)] := hl
        refine lv_istore_n (lv' := [(2, .int x11), (3, .int x1.1), (1, .int a1), (0, .ref h0)]) hx hb dX12_eldestOpen_68 rfl hl (by decide) rfl (fun ls hl => ?_)
        obtain ⟨z16, ez16⟩ : ∃ z : Int32, z = x1.1 + 1 := ⟨_, rfl⟩
        have hw := hw z16 ez16
        refine lv_iinc (lv' := [(3, .int z16), (2, .int x11), (1, .int a1), (0, .ref h0)]) (k := 1) (v := z16) hx hb dX12_eldestOpen_69 hl rfl ez16.symm (by decide) rfl (fun ls hl => ?_)
        refine lv_goto (tgt := 4) hx hb dX12_eldestOpen_72 rfl ?_
        exact ih4 (z16, x11) σ12 ls _ _ hl hw hH
      · skip
        obtain ⟨K19, hK20, hw⟩ := jn_open hw
        refine w_join (K := K19) 67 (fun (x17 : Unit) => [(3, .int x1.1), (2, .int x1.2), (1, .int a1), (0, .ref h0)]) (fun (x17 : Unit) => []) hl hH (fun x17 σ18 ls H locs hl hw hH => ?_) (fun jn21 => ?_)
        · have hw := hK20 x17 σ18 hw
          have hl : lv_has ls 5 [(3, .int x1.1), (2, .int x1.2), (1, .int a1), (0, .ref h0)] := hl
          refine lv_iload_n hx hb dX12_eldestOpen_67 rfl (lv_at hl 1 rfl) ?_
          have hl : lv_has ls 5 [(3, .int x1.1), (1, .int a1), (0, .ref h0)] := lv_sub hl [0, 2, 3] rfl
          exact jn15 x1.2 σ18 ls _ _ hl hw hH
        · skip
          refine w_if_eq (tgt := 67) hF dX12_eldestOpen_40 rfl hw (fun hw => ?_) (fun hw => ?_)
          · have hl : lv_has ls 5 [(3, .int x1.1), (2, .int x1.2), (1, .int a1), (0, .ref h0)] := lv_sub hl [1, 2, 3, 4] rfl
            exact jn21 () σ7 ls _ _ hl hw hH
          · refine lv_iload_n hx hb dX12_eldestOpen_43 rfl (lv_at hl 2 rfl) ?_
            obtain ⟨K24, hK25, hw⟩ := jn_open hw
            refine w_join (K := K24) 63 (fun (x22 : Unit) => [(3, .int x1.1), (1, .int a1), (0, .ref h0)]) (fun (x22 : Unit) => []) hl hH (fun x22 σ23 ls H locs hl hw hH => ?_) (fun jn26 => ?_)
            · have hw := hK25 x22 σ23 hw
              have hl : lv_has ls 5 [(3, .int x1.1), (1, .int a1), (0, .ref h0)] := hl
              refine lv_iload_n hx hb dX12_eldestOpen_63 rfl (lv_at hl 0 rfl) ?_
              refine lv_goto (tgt := 68) hx hb dX12_eldestOpen_64 rfl ?_
              exact jn15 x1.1 σ23 ls _ _ hl hw hH
            · skip
              refine w_if_lt (tgt := 63) hF dX12_eldestOpen_44 rfl hw (fun hw => ?_) (fun hw => ?_)
              · have hl : lv_has ls 5 [(3, .int x1.1), (1, .int a1), (0, .ref h0)] := lv_sub hl [1, 3, 4] rfl
                exact jn26 () σ7 ls _ _ hl hw hH
              · refine lv_aload_n hx hb dX12_eldestOpen_47 rfl (lv_at hl 4 rfl) ?_
                refine w_getA 41 hF hH fk_X12_139 dX12_eldestOpen_48 (by decide) rfl ?_
                refine lv_iload_n hx hb dX12_eldestOpen_51 rfl (lv_at hl 1 rfl) ?_
                refine w_lald 41 40 hF hH dX12_eldestOpen_52 (by decide) rfl rfl hw (fun z27 hw => ?_)
                refine lv_aload_n hx hb dX12_eldestOpen_53 rfl (lv_at hl 4 rfl) ?_
                refine w_getA 41 hF hH fk_X12_139 dX12_eldestOpen_54 (by decide) rfl ?_
                refine lv_iload_n hx hb dX12_eldestOpen_57 rfl (lv_at hl 2 rfl) ?_
                refine w_lald 41 40 hF hH dX12_eldestOpen_58 (by decide) rfl rfl hw (fun z28 hw => ?_)
                refine w_lif_ge (tgt := 67) hF dX12_eldestOpen_59 dX12_eldestOpen_60 rfl hw (fun hw => ?_) (fun hw => ?_)
                · have hl : lv_has ls 5 [(3, .int x1.1), (2, .int x1.2), (1, .int a1), (0, .ref h0)] := lv_sub hl [1, 2, 3, 4] rfl
                  exact jn21 () σ7 ls _ _ hl hw hH
                · have hl : lv_has ls 5 [(3, .int x1.1), (1, .int a1), (0, .ref h0)] := lv_sub hl [1, 3, 4] rfl
                  exact jn26 () σ7 ls _ _ hl hw hH
    · skip
      obtain ⟨K31, hK32, hw⟩ := jn_open hw
      refine w_join (K := K31) 35 (fun (x29 : Unit) => [(3, .int x1.1), (2, .int x1.2), (1, .int a1), (0, .ref h0)]) (fun (x29 : Unit) => []) hl hH (fun x29 σ30 ls H locs hl hw hH => ?_) (fun jn33 => ?_)
      · have hw := hK32 x29 σ30 hw
        have hl : lv_has ls 5 [(3, .int x1.1), (2, .int x1.2), (1, .int a1), (0, .ref h0)] := hl
        refine lv_iconst (v := 0) hx hb dX12_eldestOpen_35 (by decide) ?_
        exact jn10 0 σ30 ls _ _ hl hw hH
      · skip
        refine w_lif_le (tgt := 35) hF dX12_eldestOpen_17 dX12_eldestOpen_18 rfl hw (fun hw => ?_) (fun hw => ?_)
        · exact jn33 () σ2 ls _ _ hl hw hH
        · refine lv_aload_n hx hb dX12_eldestOpen_21 rfl (lv_at hl 3 rfl) ?_
          refine w_getA 42 hF hH fk_X12_142 dX12_eldestOpen_22 (by decide) rfl ?_
          refine lv_iload_n hx hb dX12_eldestOpen_25 rfl (lv_at hl 0 rfl) ?_
          refine w_iald 42 40 hF hH dX12_eldestOpen_26 (by decide) rfl rfl hw (fun z34 hw => ?_)
          refine lv_iload_n hx hb dX12_eldestOpen_27 rfl (lv_at hl 2 rfl) ?_
          refine w_icmp_ne (tgt := 35) hF dX12_eldestOpen_28 rfl hw (fun hw => ?_) (fun hw => ?_)
          · exact jn33 () σ2 ls _ _ hl hw hH
          · refine lv_iconst (v := 1) hx hb dX12_eldestOpen_31 (by decide) ?_
            refine lv_goto (tgt := 36) hx hb dX12_eldestOpen_32 rfl ?_
            exact jn10 1 σ2 ls _ _ hl hw hH
def F_X12_body (h0 : Nat) (L : Nat → Nat) (a1 : Int32) (post : HS → Prop) (σ : HS) : Prop := lw (fun (K3 : Int32 → HS → Prop) (x1 : Int32) (σ2 : HS) => ∀ z5 : Int32, z5 = 64 + a1 → ((z5.toInt ≤ x1.toInt) → ∀ z6 : Int32, z6 = 64 + a1 → ∀ σ7 : HS, σ7 = h_uI σ2 h0 91 z6 → post σ7) ∧ ((x1.toInt < z5.toInt) → ∀ z8 : Int32, z8 = sI σ2 h0 90 → ∀ z9 : Int32, z9 = z8 + x1 → (0 ≤ z9.toInt ∧ z9.toInt < 90000) ∧ ∀ σ10 : HS, σ10 = h_uI σ2 (L 76) z9.toInt.toNat (vp_nar .byte 0) → ∀ z11 : Int32, z11 = x1 + 1 → K3 z11 σ10)) 64 σ
theorem dX12_body_0 : decode cX12_body 0 = .ok (.bipush 64, 2) := by decide +kernel
theorem dX12_body_2 : decode cX12_body 2 = .ok (.istore_n 2, 1) := by decide +kernel
theorem dX12_body_3 : decode cX12_body 3 = .ok (.iload_n 2, 1) := by decide +kernel
theorem dX12_body_4 : decode cX12_body 4 = .ok (.bipush 64, 2) := by decide +kernel
theorem dX12_body_6 : decode cX12_body 6 = .ok (.iload_n 1, 1) := by decide +kernel
theorem dX12_body_7 : decode cX12_body 7 = .ok (.iadd, 1) := by decide +kernel
theorem dX12_body_8 : decode cX12_body 8 = .ok (.if_icmp .ge 21, 3) := by decide +kernel
theorem dX12_body_11 : decode cX12_body 11 = .ok (.aload_n 0, 1) := by decide +kernel
theorem dX12_body_12 : decode cX12_body 12 = .ok (.getfield 246, 3) := by decide +kernel
theorem dX12_body_15 : decode cX12_body 15 = .ok (.aload_n 0, 1) := by decide +kernel
theorem dX12_body_16 : decode cX12_body 16 = .ok (.getfield 368, 3) := by decide +kernel
theorem dX12_body_19 : decode cX12_body 19 = .ok (.iload_n 2, 1) := by decide +kernel
theorem dX12_body_20 : decode cX12_body 20 = .ok (.iadd, 1) := by decide +kernel
theorem dX12_body_21 : decode cX12_body 21 = .ok (.iconst 0, 1) := by decide +kernel
theorem dX12_body_22 : decode cX12_body 22 = .ok (.bastore, 1) := by decide +kernel
theorem dX12_body_23 : decode cX12_body 23 = .ok (.iinc 2 1, 3) := by decide +kernel
theorem dX12_body_26 : decode cX12_body 26 = .ok (.goto (-23), 3) := by decide +kernel
theorem dX12_body_29 : decode cX12_body 29 = .ok (.aload_n 0, 1) := by decide +kernel
theorem dX12_body_30 : decode cX12_body 30 = .ok (.bipush 64, 2) := by decide +kernel
theorem dX12_body_32 : decode cX12_body 32 = .ok (.iload_n 1, 1) := by decide +kernel
theorem dX12_body_33 : decode cX12_body 33 = .ok (.iadd, 1) := by decide +kernel
theorem dX12_body_34 : decode cX12_body 34 = .ok (.putfield 371, 3) := by decide +kernel
theorem dX12_body_37 : decode cX12_body 37 = .ok (.return_, 1) := by decide +kernel
set_option maxRecDepth 100000 in
set_option maxHeartbeats 4000000 in
theorem c_X12_body (l : Launch) (D : va_G) (t : Nat → ClassId) (h0 : Nat) (L : Nat → Nat) (σ : HS) (hM : MdI h0 L σ) (a1 : Int32) (post : HS → Prop) (hw : F_X12_body h0 L a1 post σ) (sz : Nat) : RMv l D t yX12_body cX12_body 3 ({ frames := 0, cells := 0, slots := 0, locals := 0 }) h0 L σ sz [.ref h0, .int a1] post := by
  refine h_go (τ := τT) okT (by decide) (Nat.le_of_ble_eq_true rfl) ?_
  intro p e s m below meth c ls A hF hr hlk hAe hH0 hA hl
  unfold hB
  rw [hAe]
  clear hAe
  have hF : FX p m c cX12_body 3 s _ RX12 D t := hF
  have hx := hF.1.1
  have hb := hF.1.2.1
  have hH : RT D t A s.heap h0 L σ s.heap [] := ⟨hH0, hM⟩
  have hl : lv_has ls 3 [(0, .ref h0), (1, .int a1)] := hl
  unfold F_X12_body at hw
  refine lv_bipush (v := 64) hx hb dX12_body_0 (by decide) ?_
  refine lv_istore_n (lv' := [(2, .int 64), (0, .ref h0), (1, .int a1)]) hx hb dX12_body_2 rfl hl (by decide) rfl (fun ls hl => ?_)
  have hl : lv_has ls 3 [(2, .int 64), (1, .int a1), (0, .ref h0)] := lv_sub hl [0, 2, 1] rfl
  refine w_loop (β := Int32) (fun x1 => [(2, .int x1), (1, .int a1), (0, .ref h0)]) 64 hl hw hH (fun K3 x1 σ2 ls H locs hl hw hH ih4 => ?_)
  have hl : lv_has ls 3 [(2, .int x1), (1, .int a1), (0, .ref h0)] := hl
  refine lv_iload_n hx hb dX12_body_3 rfl (lv_at hl 0 rfl) ?_
  refine lv_bipush (v := 64) hx hb dX12_body_4 (by decide) ?_
  refine lv_iload_n hx hb dX12_body_6 rfl (lv_at hl 1 rfl) ?_
  refine lv_iadd hx hb dX12_body_7 ?_
  refine w_nmi hw (fun z5 hw => ?_)
  refine w_icmp_ge (tgt := 29) hF dX12_body_8 rfl hw (fun hw => ?_) (fun hw => ?_)
  · refine lv_aload_n hx hb dX12_body_29 rfl (lv_at hl 2 rfl) ?_
    refine lv_bipush (v := 64) hx hb dX12_body_30 (by decide) ?_
    refine lv_iload_n hx hb dX12_body_32 rfl (lv_at hl 1 rfl) ?_
    refine lv_iadd hx hb dX12_body_33 ?_
    refine w_nmi hw (fun z6 hw => ?_)
    refine w_putI hF hH fk_X12_371 dX12_body_34 rfl rfl rfl hw (fun σ7 H locs hw hH => ?_)
    exact w_retv hF hH hr hlk dX12_body_37 hw
  · refine lv_aload_n hx hb dX12_body_11 rfl (lv_at hl 2 rfl) ?_
    refine w_getA 76 hF hH fk_X12_246 dX12_body_12 (by decide) rfl ?_
    refine lv_aload_n hx hb dX12_body_15 rfl (lv_at hl 2 rfl) ?_
    refine w_getI hF hH fk_X12_368 dX12_body_16 hw (fun z8 hw => ?_)
    refine lv_iload_n hx hb dX12_body_19 rfl (lv_at hl 0 rfl) ?_
    refine lv_iadd hx hb dX12_body_20 ?_
    refine w_nmi hw (fun z9 hw => ?_)
    refine lv_iconst (v := 0) hx hb dX12_body_21 (by decide) ?_
    refine w_bast 76 90000 hF hH dX12_body_22 (by decide) rfl rfl hw (fun σ10 H locs hw hH => ?_)
    obtain ⟨z11, ez11⟩ : ∃ z : Int32, z = x1 + 1 := ⟨_, rfl⟩
    have hw := hw z11 ez11
    refine lv_iinc (lv' := [(2, .int z11), (1, .int a1), (0, .ref h0)]) (k := 0) (v := z11) hx hb dX12_body_23 hl rfl ez11.symm (by decide) rfl (fun ls hl => ?_)
    refine lv_goto (tgt := 3) hx hb dX12_body_26 rfl ?_
    exact ih4 z11 σ10 ls _ _ hl hw hH
def F_X12_set (h0 : Nat) (L : Nat → Nat) (a1 : Int32) (a2 : Int32) (a3 : Int64) (post : HS → Prop) (σ : HS) : Prop := lw (fun (K3 : Int32 → HS → Prop) (x1 : Int32) (σ2 : HS) => ((a2.toInt ≤ x1.toInt) → post σ2) ∧ ((x1.toInt < a2.toInt) → ∀ z5 : Int32, z5 = sI σ2 h0 90 → ∀ z6 : Int32, z6 = z5 + a1 → ∀ z7 : Int32, z7 = z6 + x1 → ∀ z8 : Int32, z8 = 8 * x1 → ∀ z9 : Int64, z9 = ((a3 : Int64).toUInt64 >>> ((z8 : Int32).toInt64.toUInt64 &&& Int64.toUInt64 63)).toInt64 → ∀ z10 : Int32, z10 = (z9 : Int64).toInt32 → ∀ z11 : Int32, z11 = (z10 : Int32).toInt8.toInt32 → (0 ≤ z7.toInt ∧ z7.toInt < 90000) ∧ ∀ σ12 : HS, σ12 = h_uI σ2 (L 76) z7.toInt.toNat (vp_nar .byte z11) → ∀ z13 : Int32, z13 = x1 + 1 → K3 z13 σ12)) 0 σ
theorem dX12_set_0 : decode cX12_set 0 = .ok (.iconst 0, 1) := by decide +kernel
theorem dX12_set_1 : decode cX12_set 1 = .ok (.istore 5, 2) := by decide +kernel
theorem dX12_set_3 : decode cX12_set 3 = .ok (.iload 5, 2) := by decide +kernel
theorem dX12_set_5 : decode cX12_set 5 = .ok (.iload_n 2, 1) := by decide +kernel
theorem dX12_set_6 : decode cX12_set 6 = .ok (.if_icmp .ge 32, 3) := by decide +kernel
theorem dX12_set_9 : decode cX12_set 9 = .ok (.aload_n 0, 1) := by decide +kernel
theorem dX12_set_10 : decode cX12_set 10 = .ok (.getfield 246, 3) := by decide +kernel
theorem dX12_set_13 : decode cX12_set 13 = .ok (.aload_n 0, 1) := by decide +kernel
theorem dX12_set_14 : decode cX12_set 14 = .ok (.getfield 368, 3) := by decide +kernel
theorem dX12_set_17 : decode cX12_set 17 = .ok (.iload_n 1, 1) := by decide +kernel
theorem dX12_set_18 : decode cX12_set 18 = .ok (.iadd, 1) := by decide +kernel
theorem dX12_set_19 : decode cX12_set 19 = .ok (.iload 5, 2) := by decide +kernel
theorem dX12_set_21 : decode cX12_set 21 = .ok (.iadd, 1) := by decide +kernel
theorem dX12_set_22 : decode cX12_set 22 = .ok (.lload_n 3, 1) := by decide +kernel
theorem dX12_set_23 : decode cX12_set 23 = .ok (.bipush 8, 2) := by decide +kernel
theorem dX12_set_25 : decode cX12_set 25 = .ok (.iload 5, 2) := by decide +kernel
theorem dX12_set_27 : decode cX12_set 27 = .ok (.imul, 1) := by decide +kernel
theorem dX12_set_28 : decode cX12_set 28 = .ok (.lushr, 1) := by decide +kernel
theorem dX12_set_29 : decode cX12_set 29 = .ok (.l2i, 1) := by decide +kernel
theorem dX12_set_30 : decode cX12_set 30 = .ok (.i2b, 1) := by decide +kernel
theorem dX12_set_31 : decode cX12_set 31 = .ok (.bastore, 1) := by decide +kernel
theorem dX12_set_32 : decode cX12_set 32 = .ok (.iinc 5 1, 3) := by decide +kernel
theorem dX12_set_35 : decode cX12_set 35 = .ok (.goto (-32), 3) := by decide +kernel
theorem dX12_set_38 : decode cX12_set 38 = .ok (.return_, 1) := by decide +kernel
set_option maxRecDepth 100000 in
set_option maxHeartbeats 4000000 in
theorem c_X12_set (l : Launch) (D : va_G) (t : Nat → ClassId) (h0 : Nat) (L : Nat → Nat) (σ : HS) (hM : MdI h0 L σ) (a1 : Int32) (a2 : Int32) (a3 : Int64) (post : HS → Prop) (hw : F_X12_set h0 L a1 a2 a3 post σ) (sz : Nat) : RMv l D t yX12_set cX12_set 6 ({ frames := 0, cells := 0, slots := 0, locals := 0 }) h0 L σ sz [.ref h0, .int a1, .int a2, .long a3] post := by
  refine h_go (τ := τT) okT (by decide) (Nat.le_of_ble_eq_true rfl) ?_
  intro p e s m below meth c ls A hF hr hlk hAe hH0 hA hl
  unfold hB
  rw [hAe]
  clear hAe
  have hF : FX p m c cX12_set 6 s _ RX12 D t := hF
  have hx := hF.1.1
  have hb := hF.1.2.1
  have hH : RT D t A s.heap h0 L σ s.heap [] := ⟨hH0, hM⟩
  have hl : lv_has ls 6 [(0, .ref h0), (1, .int a1), (2, .int a2), (3, .long a3)] := hl
  unfold F_X12_set at hw
  refine lv_iconst (v := 0) hx hb dX12_set_0 (by decide) ?_
  refine lv_istore (lv' := [(5, .int 0), (0, .ref h0), (1, .int a1), (2, .int a2), (3, .long a3)]) hx hb dX12_set_1 hl (by decide) rfl (fun ls hl => ?_)
  have hl : lv_has ls 6 [(5, .int 0), (3, .long a3), (2, .int a2), (1, .int a1), (0, .ref h0)] := lv_sub hl [0, 4, 3, 2, 1] rfl
  refine w_loop (β := Int32) (fun x1 => [(5, .int x1), (3, .long a3), (2, .int a2), (1, .int a1), (0, .ref h0)]) 0 hl hw hH (fun K3 x1 σ2 ls H locs hl hw hH ih4 => ?_)
  have hl : lv_has ls 6 [(5, .int x1), (3, .long a3), (2, .int a2), (1, .int a1), (0, .ref h0)] := hl
  refine lv_iload hx hb dX12_set_3 (lv_at hl 0 rfl) ?_
  refine lv_iload_n hx hb dX12_set_5 rfl (lv_at hl 2 rfl) ?_
  refine w_icmp_ge (tgt := 38) hF dX12_set_6 rfl hw (fun hw => ?_) (fun hw => ?_)
  · exact w_retv hF hH hr hlk dX12_set_38 hw
  · refine lv_aload_n hx hb dX12_set_9 rfl (lv_at hl 4 rfl) ?_
    refine w_getA 76 hF hH fk_X12_246 dX12_set_10 (by decide) rfl ?_
    refine lv_aload_n hx hb dX12_set_13 rfl (lv_at hl 4 rfl) ?_
    refine w_getI hF hH fk_X12_368 dX12_set_14 hw (fun z5 hw => ?_)
    refine lv_iload_n hx hb dX12_set_17 rfl (lv_at hl 3 rfl) ?_
    refine lv_iadd hx hb dX12_set_18 ?_
    refine w_nmi hw (fun z6 hw => ?_)
    refine lv_iload hx hb dX12_set_19 (lv_at hl 0 rfl) ?_
    refine lv_iadd hx hb dX12_set_21 ?_
    refine w_nmi hw (fun z7 hw => ?_)
    refine lv_lload_n hx hb dX12_set_22 rfl (lv_at hl 1 rfl) ?_
    refine lv_bipush (v := 8) hx hb dX12_set_23 (by decide) ?_
    refine lv_iload hx hb dX12_set_25 (lv_at hl 0 rfl) ?_
    refine lv_imul hx hb dX12_set_27 ?_
    refine w_nmi hw (fun z8 hw => ?_)
    refine lv_lushr hx hb dX12_set_28 rfl ?_
    refine w_nml hw (fun z9 hw => ?_)
    refine lv_l2i hx hb dX12_set_29 rfl ?_
    refine w_nmi hw (fun z10 hw => ?_)
    refine lv_i2b hx hb dX12_set_30 rfl ?_
    refine w_nmi hw (fun z11 hw => ?_)
    refine w_bast 76 90000 hF hH dX12_set_31 (by decide) rfl rfl hw (fun σ12 H locs hw hH => ?_)
    obtain ⟨z13, ez13⟩ : ∃ z : Int32, z = x1 + 1 := ⟨_, rfl⟩
    have hw := hw z13 ez13
    refine lv_iinc (lv' := [(5, .int z13), (3, .long a3), (2, .int a2), (1, .int a1), (0, .ref h0)]) (k := 0) (v := z13) hx hb dX12_set_32 hl rfl ez13.symm (by decide) rfl (fun ls hl => ?_)
    refine lv_goto (tgt := 3) hx hb dX12_set_35 rfl ?_
    exact ih4 z13 σ12 ls _ _ hl hw hH
def F_X12_small (h0 : Nat) (L : Nat → Nat) (a1 : Int32) (post : Int64 → HS → Prop) (σ : HS) : Prop := F_X12_body h0 L a1 (fun (σ1 : HS) => ∀ z3 : Int64, z3 = (a1 : Int32).toInt64 → F_X12_set h0 L 64 2 z3 (fun (σ4 : HS) => post 0 σ4) σ1) σ
theorem dX12_small_0 : decode cX12_small 0 = .ok (.aload_n 0, 1) := by decide +kernel
theorem dX12_small_1 : decode cX12_small 1 = .ok (.iload_n 1, 1) := by decide +kernel
theorem dX12_small_2 : decode cX12_small 2 = .ok (.invokevirtual 456, 3) := by decide +kernel
theorem dX12_small_5 : decode cX12_small 5 = .ok (.aload_n 0, 1) := by decide +kernel
theorem dX12_small_6 : decode cX12_small 6 = .ok (.bipush 64, 2) := by decide +kernel
theorem dX12_small_8 : decode cX12_small 8 = .ok (.iconst 2, 1) := by decide +kernel
theorem dX12_small_9 : decode cX12_small 9 = .ok (.iload_n 1, 1) := by decide +kernel
theorem dX12_small_10 : decode cX12_small 10 = .ok (.i2l, 1) := by decide +kernel
theorem dX12_small_11 : decode cX12_small 11 = .ok (.invokevirtual 376, 3) := by decide +kernel
theorem dX12_small_14 : decode cX12_small 14 = .ok (.lconst 0, 1) := by decide +kernel
theorem dX12_small_15 : decode cX12_small 15 = .ok (.lreturn, 1) := by decide +kernel
set_option maxRecDepth 100000 in
set_option maxHeartbeats 4000000 in
theorem c_X12_small (l : Launch) (D : va_G) (t : Nat → ClassId) (h0 : Nat) (L : Nat → Nat) (σ : HS) (hM : MdI h0 L σ) (a1 : Int32) (post : Int64 → HS → Prop) (hw : F_X12_small h0 L a1 post σ) (sz : Nat) : RMl l D t yX12_small cX12_small 2 (some .long) ({ frames := 1, cells := 0, slots := 0, locals := 25 }) h0 L σ sz [.ref h0, .int a1] post := by
  refine h_go (τ := τT) okT (by decide) (Nat.le_of_ble_eq_true rfl) ?_
  intro p e s m below meth c ls A hF hr hlk hAe hH0 hA hl
  unfold hB
  rw [hAe]
  clear hAe
  have hF : FX p m c cX12_small 2 s _ RX12 D t := hF
  have hx := hF.1.1
  have hb := hF.1.2.1
  have hH : RT D t A s.heap h0 L σ s.heap [] := ⟨hH0, hM⟩
  have hl : lv_has ls 2 [(0, .ref h0), (1, .int a1)] := hl
  unfold F_X12_small at hw
  refine lv_aload_n hx hb dX12_small_0 rfl (lv_at hl 0 rfl) ?_
  refine lv_iload_n hx hb dX12_small_1 rfl (lv_at hl 1 rfl) ?_
  refine w_cVv (As := [.int a1]) (rest := []) hF hH hA mv_X12_456 (fun sz => c_X12_body l D t h0 L _ hH.2 a1 _ hw sz) dX12_small_2 rfl rfl (by decide) rfl hl.1 (Nat.le_of_ble_eq_true rfl) (by decide) rfl (fun σ1 H locs hw hH => ?_)
  refine lv_aload_n hx hb dX12_small_5 rfl (lv_at hl 0 rfl) ?_
  refine lv_bipush (v := 64) hx hb dX12_small_6 (by decide) ?_
  refine lv_iconst (v := 2) hx hb dX12_small_8 (by decide) ?_
  refine lv_iload_n hx hb dX12_small_9 rfl (lv_at hl 1 rfl) ?_
  refine lv_i2l hx hb dX12_small_10 rfl ?_
  refine w_nml hw (fun z3 hw => ?_)
  refine w_cVv (As := [.int 64, .int 2, .long z3]) (rest := []) hF hH hA mv_X12_376 (fun sz => c_X12_set l D t h0 L _ hH.2 64 2 z3 _ hw sz) dX12_small_11 rfl rfl (by decide) rfl hl.1 (Nat.le_of_ble_eq_true rfl) (by decide) rfl (fun σ4 H locs hw hH => ?_)
  refine lv_lconst (v := 0) hx hb dX12_small_14 (by decide) ?_
  exact w_retl hF hH hr hlk dX12_small_15 hw
def F_X12_header (h0 : Nat) (L : Nat → Nat) (a1 : Int64) (a3 : Int32) (a4 : Int32) (a5 : Int32) (a6 : Int64) (a8 : Int64) (a10 : Int64) (a12 : Int64) (post : HS → Prop) (σ : HS) : Prop := lw (fun (K3 : Int32 → HS → Prop) (x1 : Int32) (σ2 : HS) => (((64 : Int32).toInt ≤ x1.toInt) → F_X12_set h0 L 0 4 1112364030 (fun (σ5 : HS) => F_X12_set h0 L 4 2 64 (fun (σ7 : HS) => ∀ z9 : Int64, z9 = (a4 : Int32).toInt64 → F_X12_set h0 L 6 2 z9 (fun (σ10 : HS) => F_X12_set h0 L 8 4 a1 (fun (σ12 : HS) => ∀ z14 : Int64, z14 = (a3 : Int32).toInt64 → F_X12_set h0 L 12 2 z14 (fun (σ15 : HS) => ∀ z17 : Int64, z17 = (a5 : Int32).toInt64 → F_X12_set h0 L 14 2 z17 (fun (σ18 : HS) => F_X12_set h0 L 16 4 a6 (fun (σ20 : HS) => F_X12_set h0 L 24 8 a8 (fun (σ22 : HS) => F_X12_set h0 L 32 8 a10 (fun (σ24 : HS) => F_X12_set h0 L 40 8 a12 (fun (σ26 : HS) => post σ26) σ24) σ22) σ20) σ18) σ15) σ12) σ10) σ7) σ5) σ2) ∧ ((x1.toInt < (64 : Int32).toInt) → ∀ z28 : Int32, z28 = sI σ2 h0 90 → ∀ z29 : Int32, z29 = z28 + x1 → (0 ≤ z29.toInt ∧ z29.toInt < 90000) ∧ ∀ σ30 : HS, σ30 = h_uI σ2 (L 76) z29.toInt.toNat (vp_nar .byte 0) → ∀ z31 : Int32, z31 = x1 + 1 → K3 z31 σ30)) 0 σ
theorem dX12_header_0 : decode cX12_header 0 = .ok (.iconst 0, 1) := by decide +kernel
theorem dX12_header_1 : decode cX12_header 1 = .ok (.istore 14, 2) := by decide +kernel
theorem dX12_header_3 : decode cX12_header 3 = .ok (.iload 14, 2) := by decide +kernel
theorem dX12_header_5 : decode cX12_header 5 = .ok (.bipush 64, 2) := by decide +kernel
theorem dX12_header_7 : decode cX12_header 7 = .ok (.if_icmp .ge 22, 3) := by decide +kernel
theorem dX12_header_10 : decode cX12_header 10 = .ok (.aload_n 0, 1) := by decide +kernel
theorem dX12_header_11 : decode cX12_header 11 = .ok (.getfield 246, 3) := by decide +kernel
theorem dX12_header_14 : decode cX12_header 14 = .ok (.aload_n 0, 1) := by decide +kernel
theorem dX12_header_15 : decode cX12_header 15 = .ok (.getfield 368, 3) := by decide +kernel
theorem dX12_header_18 : decode cX12_header 18 = .ok (.iload 14, 2) := by decide +kernel
theorem dX12_header_20 : decode cX12_header 20 = .ok (.iadd, 1) := by decide +kernel
theorem dX12_header_21 : decode cX12_header 21 = .ok (.iconst 0, 1) := by decide +kernel
theorem dX12_header_22 : decode cX12_header 22 = .ok (.bastore, 1) := by decide +kernel
theorem dX12_header_23 : decode cX12_header 23 = .ok (.iinc 14 1, 3) := by decide +kernel
theorem dX12_header_26 : decode cX12_header 26 = .ok (.goto (-23), 3) := by decide +kernel
theorem dX12_header_29 : decode cX12_header 29 = .ok (.aload_n 0, 1) := by decide +kernel
theorem dX12_header_30 : decode cX12_header 30 = .ok (.iconst 0, 1) := by decide +kernel
theorem dX12_header_31 : decode cX12_header 31 = .ok (.iconst 4, 1) := by decide +kernel
theorem dX12_header_32 : decode cX12_header 32 = .ok (.ldc2_w 374, 3) := by decide +kernel
theorem dX12_header_35 : decode cX12_header 35 = .ok (.invokevirtual 376, 3) := by decide +kernel
theorem dX12_header_38 : decode cX12_header 38 = .ok (.aload_n 0, 1) := by decide +kernel
theorem dX12_header_39 : decode cX12_header 39 = .ok (.iconst 4, 1) := by decide +kernel
theorem dX12_header_40 : decode cX12_header 40 = .ok (.iconst 2, 1) := by decide +kernel
theorem dX12_header_41 : decode cX12_header 41 = .ok (.ldc2_w 380, 3) := by decide +kernel
theorem dX12_header_44 : decode cX12_header 44 = .ok (.invokevirtual 376, 3) := by decide +kernel
theorem dX12_header_47 : decode cX12_header 47 = .ok (.aload_n 0, 1) := by decide +kernel
theorem dX12_header_48 : decode cX12_header 48 = .ok (.bipush 6, 2) := by decide +kernel
theorem dX12_header_50 : decode cX12_header 50 = .ok (.iconst 2, 1) := by decide +kernel
theorem dX12_header_51 : decode cX12_header 51 = .ok (.iload 4, 2) := by decide +kernel
theorem dX12_header_53 : decode cX12_header 53 = .ok (.i2l, 1) := by decide +kernel
theorem dX12_header_54 : decode cX12_header 54 = .ok (.invokevirtual 376, 3) := by decide +kernel
theorem dX12_header_57 : decode cX12_header 57 = .ok (.aload_n 0, 1) := by decide +kernel
theorem dX12_header_58 : decode cX12_header 58 = .ok (.bipush 8, 2) := by decide +kernel
theorem dX12_header_60 : decode cX12_header 60 = .ok (.iconst 4, 1) := by decide +kernel
theorem dX12_header_61 : decode cX12_header 61 = .ok (.lload_n 1, 1) := by decide +kernel
theorem dX12_header_62 : decode cX12_header 62 = .ok (.invokevirtual 376, 3) := by decide +kernel
theorem dX12_header_65 : decode cX12_header 65 = .ok (.aload_n 0, 1) := by decide +kernel
theorem dX12_header_66 : decode cX12_header 66 = .ok (.bipush 12, 2) := by decide +kernel
theorem dX12_header_68 : decode cX12_header 68 = .ok (.iconst 2, 1) := by decide +kernel
theorem dX12_header_69 : decode cX12_header 69 = .ok (.iload_n 3, 1) := by decide +kernel
theorem dX12_header_70 : decode cX12_header 70 = .ok (.i2l, 1) := by decide +kernel
theorem dX12_header_71 : decode cX12_header 71 = .ok (.invokevirtual 376, 3) := by decide +kernel
theorem dX12_header_74 : decode cX12_header 74 = .ok (.aload_n 0, 1) := by decide +kernel
theorem dX12_header_75 : decode cX12_header 75 = .ok (.bipush 14, 2) := by decide +kernel
theorem dX12_header_77 : decode cX12_header 77 = .ok (.iconst 2, 1) := by decide +kernel
theorem dX12_header_78 : decode cX12_header 78 = .ok (.iload 5, 2) := by decide +kernel
theorem dX12_header_80 : decode cX12_header 80 = .ok (.i2l, 1) := by decide +kernel
theorem dX12_header_81 : decode cX12_header 81 = .ok (.invokevirtual 376, 3) := by decide +kernel
theorem dX12_header_84 : decode cX12_header 84 = .ok (.aload_n 0, 1) := by decide +kernel
theorem dX12_header_85 : decode cX12_header 85 = .ok (.bipush 16, 2) := by decide +kernel
theorem dX12_header_87 : decode cX12_header 87 = .ok (.iconst 4, 1) := by decide +kernel
theorem dX12_header_88 : decode cX12_header 88 = .ok (.lload 6, 2) := by decide +kernel
theorem dX12_header_90 : decode cX12_header 90 = .ok (.invokevirtual 376, 3) := by decide +kernel
theorem dX12_header_93 : decode cX12_header 93 = .ok (.aload_n 0, 1) := by decide +kernel
theorem dX12_header_94 : decode cX12_header 94 = .ok (.bipush 24, 2) := by decide +kernel
theorem dX12_header_96 : decode cX12_header 96 = .ok (.bipush 8, 2) := by decide +kernel
theorem dX12_header_98 : decode cX12_header 98 = .ok (.lload 8, 2) := by decide +kernel
theorem dX12_header_100 : decode cX12_header 100 = .ok (.invokevirtual 376, 3) := by decide +kernel
theorem dX12_header_103 : decode cX12_header 103 = .ok (.aload_n 0, 1) := by decide +kernel
theorem dX12_header_104 : decode cX12_header 104 = .ok (.bipush 32, 2) := by decide +kernel
theorem dX12_header_106 : decode cX12_header 106 = .ok (.bipush 8, 2) := by decide +kernel
theorem dX12_header_108 : decode cX12_header 108 = .ok (.lload 10, 2) := by decide +kernel
theorem dX12_header_110 : decode cX12_header 110 = .ok (.invokevirtual 376, 3) := by decide +kernel
theorem dX12_header_113 : decode cX12_header 113 = .ok (.aload_n 0, 1) := by decide +kernel
theorem dX12_header_114 : decode cX12_header 114 = .ok (.bipush 40, 2) := by decide +kernel
theorem dX12_header_116 : decode cX12_header 116 = .ok (.bipush 8, 2) := by decide +kernel
theorem dX12_header_118 : decode cX12_header 118 = .ok (.lload 12, 2) := by decide +kernel
theorem dX12_header_120 : decode cX12_header 120 = .ok (.invokevirtual 376, 3) := by decide +kernel
theorem dX12_header_123 : decode cX12_header 123 = .ok (.return_, 1) := by decide +kernel
set_option maxRecDepth 100000 in
set_option maxHeartbeats 4000000 in
theorem c_X12_header (l : Launch) (D : va_G) (t : Nat → ClassId) (h0 : Nat) (L : Nat → Nat) (σ : HS) (hM : MdI h0 L σ) (a1 : Int64) (a3 : Int32) (a4 : Int32) (a5 : Int32) (a6 : Int64) (a8 : Int64) (a10 : Int64) (a12 : Int64) (post : HS → Prop) (hw : F_X12_header h0 L a1 a3 a4 a5 a6 a8 a10 a12 post σ) (sz : Nat) : RMv l D t yX12_header cX12_header 15 ({ frames := 1, cells := 0, slots := 0, locals := 25 }) h0 L σ sz [.ref h0, .long a1, .int a3, .int a4, .int a5, .long a6, .long a8, .long a10, .long a12] post := by
  refine h_go (τ := τT) okT (by decide) (Nat.le_of_ble_eq_true rfl) ?_
  intro p e s m below meth c ls A hF hr hlk hAe hH0 hA hl
  unfold hB
  rw [hAe]
  clear hAe
  have hF : FX p m c cX12_header 15 s _ RX12 D t := hF
  have hx := hF.1.1
  have hb := hF.1.2.1
  have hH : RT D t A s.heap h0 L σ s.heap [] := ⟨hH0, hM⟩
  have hl : lv_has ls 15 [(0, .ref h0), (1, .long a1), (3, .int a3), (4, .int a4), (5, .int a5), (6, .long a6), (8, .long a8), (10, .long a10), (12, .long a12)] := hl
  unfold F_X12_header at hw
  refine lv_iconst (v := 0) hx hb dX12_header_0 (by decide) ?_
  refine lv_istore (lv' := [(14, .int 0), (0, .ref h0), (1, .long a1), (3, .int a3), (4, .int a4), (5, .int a5), (6, .long a6), (8, .long a8), (10, .long a10), (12, .long a12)]) hx hb dX12_header_1 hl (by decide) rfl (fun ls hl => ?_)
  have hl : lv_has ls 15 [(14, .int 0), (12, .long a12), (10, .long a10), (8, .long a8), (6, .long a6), (5, .int a5), (4, .int a4), (3, .int a3), (1, .long a1), (0, .ref h0)] := lv_sub hl [0, 9, 8, 7, 6, 5, 4, 3, 2, 1] rfl
  refine w_loop (β := Int32) (fun x1 => [(14, .int x1), (12, .long a12), (10, .long a10), (8, .long a8), (6, .long a6), (5, .int a5), (4, .int a4), (3, .int a3), (1, .long a1), (0, .ref h0)]) 0 hl hw hH (fun K3 x1 σ2 ls H locs hl hw hH ih4 => ?_)
  have hl : lv_has ls 15 [(14, .int x1), (12, .long a12), (10, .long a10), (8, .long a8), (6, .long a6), (5, .int a5), (4, .int a4), (3, .int a3), (1, .long a1), (0, .ref h0)] := hl
  refine lv_iload hx hb dX12_header_3 (lv_at hl 0 rfl) ?_
  refine lv_bipush (v := 64) hx hb dX12_header_5 (by decide) ?_
  refine w_icmp_ge (tgt := 29) hF dX12_header_7 rfl hw (fun hw => ?_) (fun hw => ?_)
  · refine lv_aload_n hx hb dX12_header_29 rfl (lv_at hl 9 rfl) ?_
    refine lv_iconst (v := 0) hx hb dX12_header_30 (by decide) ?_
    refine lv_iconst (v := 4) hx hb dX12_header_31 (by decide) ?_
    refine lv_ldc2 (v := 1112364030) hx hb hF.1.2.2.2.1 (hF.1.2.2.2.2 _ (wc_47 17 rfl)) dX12_header_32 ?_
    refine w_cVv (As := [.int 0, .int 4, .long 1112364030]) (rest := []) hF hH hA mv_X12_376 (fun sz => c_X12_set l D t h0 L _ hH.2 0 4 1112364030 _ hw sz) dX12_header_35 rfl rfl (by decide) rfl hl.1 (Nat.le_of_ble_eq_true rfl) (by decide) rfl (fun σ5 H locs hw hH => ?_)
    refine lv_aload_n hx hb dX12_header_38 rfl (lv_at hl 9 rfl) ?_
    refine lv_iconst (v := 4) hx hb dX12_header_39 (by decide) ?_
    refine lv_iconst (v := 2) hx hb dX12_header_40 (by decide) ?_
    refine lv_ldc2 (v := 64) hx hb hF.1.2.2.2.1 (hF.1.2.2.2.2 _ (wc_47 21 rfl)) dX12_header_41 ?_
    refine w_cVv (As := [.int 4, .int 2, .long 64]) (rest := []) hF hH hA mv_X12_376 (fun sz => c_X12_set l D t h0 L _ hH.2 4 2 64 _ hw sz) dX12_header_44 rfl rfl (by decide) rfl hl.1 (Nat.le_of_ble_eq_true rfl) (by decide) rfl (fun σ7 H locs hw hH => ?_)
    refine lv_aload_n hx hb dX12_header_47 rfl (lv_at hl 9 rfl) ?_
    refine lv_bipush (v := 6) hx hb dX12_header_48 (by decide) ?_
    refine lv_iconst (v := 2) hx hb dX12_header_50 (by decide) ?_
    refine lv_iload hx hb dX12_header_51 (lv_at hl 6 rfl) ?_
    refine lv_i2l hx hb dX12_header_53 rfl ?_
    refine w_nml hw (fun z9 hw => ?_)
    refine w_cVv (As := [.int 6, .int 2, .long z9]) (rest := []) hF hH hA mv_X12_376 (fun sz => c_X12_set l D t h0 L _ hH.2 6 2 z9 _ hw sz) dX12_header_54 rfl rfl (by decide) rfl hl.1 (Nat.le_of_ble_eq_true rfl) (by decide) rfl (fun σ10 H locs hw hH => ?_)
    refine lv_aload_n hx hb dX12_header_57 rfl (lv_at hl 9 rfl) ?_
    refine lv_bipush (v := 8) hx hb dX12_header_58 (by decide) ?_
    refine lv_iconst (v := 4) hx hb dX12_header_60 (by decide) ?_
    refine lv_lload_n hx hb dX12_header_61 rfl (lv_at hl 8 rfl) ?_
    refine w_cVv (As := [.int 8, .int 4, .long a1]) (rest := []) hF hH hA mv_X12_376 (fun sz => c_X12_set l D t h0 L _ hH.2 8 4 a1 _ hw sz) dX12_header_62 rfl rfl (by decide) rfl hl.1 (Nat.le_of_ble_eq_true rfl) (by decide) rfl (fun σ12 H locs hw hH => ?_)
    refine lv_aload_n hx hb dX12_header_65 rfl (lv_at hl 9 rfl) ?_
    refine lv_bipush (v := 12) hx hb dX12_header_66 (by decide) ?_
    refine lv_iconst (v := 2) hx hb dX12_header_68 (by decide) ?_
    refine lv_iload_n hx hb dX12_header_69 rfl (lv_at hl 7 rfl) ?_
    refine lv_i2l hx hb dX12_header_70 rfl ?_
    refine w_nml hw (fun z14 hw => ?_)
    refine w_cVv (As := [.int 12, .int 2, .long z14]) (rest := []) hF hH hA mv_X12_376 (fun sz => c_X12_set l D t h0 L _ hH.2 12 2 z14 _ hw sz) dX12_header_71 rfl rfl (by decide) rfl hl.1 (Nat.le_of_ble_eq_true rfl) (by decide) rfl (fun σ15 H locs hw hH => ?_)
    refine lv_aload_n hx hb dX12_header_74 rfl (lv_at hl 9 rfl) ?_
    refine lv_bipush (v := 14) hx hb dX12_header_75 (by decide) ?_
    refine lv_iconst (v := 2) hx hb dX12_header_77 (by decide) ?_
    refine lv_iload hx hb dX12_header_78 (lv_at hl 5 rfl) ?_
    refine lv_i2l hx hb dX12_header_80 rfl ?_
    refine w_nml hw (fun z17 hw => ?_)
    refine w_cVv (As := [.int 14, .int 2, .long z17]) (rest := []) hF hH hA mv_X12_376 (fun sz => c_X12_set l D t h0 L _ hH.2 14 2 z17 _ hw sz) dX12_header_81 rfl rfl (by decide) rfl hl.1 (Nat.le_of_ble_eq_true rfl) (by decide) rfl (fun σ18 H locs hw hH => ?_)
    refine lv_aload_n hx hb dX12_header_84 rfl (lv_at hl 9 rfl) ?_
    refine lv_bipush (v := 16) hx hb dX12_header_85 (by decide) ?_
    refine lv_iconst (v := 4) hx hb dX12_header_87 (by decide) ?_
    refine lv_lload hx hb dX12_header_88 (lv_at hl 4 rfl) ?_
    refine w_cVv (As := [.int 16, .int 4, .long a6]) (rest := []) hF hH hA mv_X12_376 (fun sz => c_X12_set l D t h0 L _ hH.2 16 4 a6 _ hw sz) dX12_header_90 rfl rfl (by decide) rfl hl.1 (Nat.le_of_ble_eq_true rfl) (by decide) rfl (fun σ20 H locs hw hH => ?_)
    refine lv_aload_n hx hb dX12_header_93 rfl (lv_at hl 9 rfl) ?_
    refine lv_bipush (v := 24) hx hb dX12_header_94 (by decide) ?_
    refine lv_bipush (v := 8) hx hb dX12_header_96 (by decide) ?_
    refine lv_lload hx hb dX12_header_98 (lv_at hl 3 rfl) ?_
    refine w_cVv (As := [.int 24, .int 8, .long a8]) (rest := []) hF hH hA mv_X12_376 (fun sz => c_X12_set l D t h0 L _ hH.2 24 8 a8 _ hw sz) dX12_header_100 rfl rfl (by decide) rfl hl.1 (Nat.le_of_ble_eq_true rfl) (by decide) rfl (fun σ22 H locs hw hH => ?_)
    refine lv_aload_n hx hb dX12_header_103 rfl (lv_at hl 9 rfl) ?_
    refine lv_bipush (v := 32) hx hb dX12_header_104 (by decide) ?_
    refine lv_bipush (v := 8) hx hb dX12_header_106 (by decide) ?_
    refine lv_lload hx hb dX12_header_108 (lv_at hl 2 rfl) ?_
    refine w_cVv (As := [.int 32, .int 8, .long a10]) (rest := []) hF hH hA mv_X12_376 (fun sz => c_X12_set l D t h0 L _ hH.2 32 8 a10 _ hw sz) dX12_header_110 rfl rfl (by decide) rfl hl.1 (Nat.le_of_ble_eq_true rfl) (by decide) rfl (fun σ24 H locs hw hH => ?_)
    refine lv_aload_n hx hb dX12_header_113 rfl (lv_at hl 9 rfl) ?_
    refine lv_bipush (v := 40) hx hb dX12_header_114 (by decide) ?_
    refine lv_bipush (v := 8) hx hb dX12_header_116 (by decide) ?_
    refine lv_lload hx hb dX12_header_118 (lv_at hl 1 rfl) ?_
    refine w_cVv (As := [.int 40, .int 8, .long a12]) (rest := []) hF hH hA mv_X12_376 (fun sz => c_X12_set l D t h0 L _ hH.2 40 8 a12 _ hw sz) dX12_header_120 rfl rfl (by decide) rfl hl.1 (Nat.le_of_ble_eq_true rfl) (by decide) rfl (fun σ26 H locs hw hH => ?_)
    exact w_retv hF hH hr hlk dX12_header_123 hw
  · refine lv_aload_n hx hb dX12_header_10 rfl (lv_at hl 9 rfl) ?_
    refine w_getA 76 hF hH fk_X12_246 dX12_header_11 (by decide) rfl ?_
    refine lv_aload_n hx hb dX12_header_14 rfl (lv_at hl 9 rfl) ?_
    refine w_getI hF hH fk_X12_368 dX12_header_15 hw (fun z28 hw => ?_)
    refine lv_iload hx hb dX12_header_18 (lv_at hl 0 rfl) ?_
    refine lv_iadd hx hb dX12_header_20 ?_
    refine w_nmi hw (fun z29 hw => ?_)
    refine lv_iconst (v := 0) hx hb dX12_header_21 (by decide) ?_
    refine w_bast 76 90000 hF hH dX12_header_22 (by decide) rfl rfl hw (fun σ30 H locs hw hH => ?_)
    obtain ⟨z31, ez31⟩ : ∃ z : Int32, z = x1 + 1 := ⟨_, rfl⟩
    have hw := hw z31 ez31
    refine lv_iinc (lv' := [(14, .int z31), (12, .long a12), (10, .long a10), (8, .long a8), (6, .long a6), (5, .int a5), (4, .int a4), (3, .int a3), (1, .long a1), (0, .ref h0)]) (k := 0) (v := z31) hx hb dX12_header_23 hl rfl ez31.symm (by decide) rfl (fun ls hl => ?_)
    refine lv_goto (tgt := 3) hx hb dX12_header_26 rfl ?_
    exact ih4 z31 σ30 ls _ _ hl hw hH
def F_X12_send (h0 : Nat) (L : Nat → Nat) (a1 : Int32) (a2 : Int32) (a3 : Int32) (post : HS → Prop) (σ : HS) : Prop := (0 ≤ a1.toInt ∧ a1.toInt < 6) ∧ ∀ z1 : Int32, z1 = sI σ (L 25) a1.toInt.toNat → jn (fun (K4 : Unit → HS → Prop) => ((z1.toInt = 0) → K4 () σ) ∧ ((¬ z1.toInt = 0) → (0 ≤ a1.toInt ∧ a1.toInt < 6) ∧ ∀ z7 : Int32, z7 = sI σ (L 28) a1.toInt.toNat → ∀ z8 : Int32, z8 = z7 + 4 → ∀ z9 : Int32, z9 = z8 + a3 → ((z9.toInt ≤ (16000 : Int32).toInt) → ∀ z10 : Int32, z10 = 16000 * a1 → (0 ≤ a1.toInt ∧ a1.toInt < 6) ∧ ∀ z11 : Int32, z11 = sI σ (L 28) a1.toInt.toNat → ∀ z12 : Int32, z12 = z10 + z11 → (0 ≤ z12.toInt ∧ z12.toInt < 96000) ∧ ∀ σ13 : HS, σ13 = h_uI σ (L 27) z12.toInt.toNat (vp_nar .byte 0) → ∀ z14 : Int32, z14 = z12 + 1 → ∀ z15 : Int32, z15 = a3 >>> (16 &&& 31) → ∀ z16 : Int32, z16 = (z15 : Int32).toInt8.toInt32 → (0 ≤ z14.toInt ∧ z14.toInt < 96000) ∧ ∀ σ17 : HS, σ17 = h_uI σ13 (L 27) z14.toInt.toNat (vp_nar .byte z16) → ∀ z18 : Int32, z18 = z12 + 2 → ∀ z19 : Int32, z19 = a3 >>> (8 &&& 31) → ∀ z20 : Int32, z20 = (z19 : Int32).toInt8.toInt32 → (0 ≤ z18.toInt ∧ z18.toInt < 96000) ∧ ∀ σ21 : HS, σ21 = h_uI σ17 (L 27) z18.toInt.toNat (vp_nar .byte z20) → ∀ z22 : Int32, z22 = z12 + 3 → ∀ z23 : Int32, z23 = (a3 : Int32).toInt8.toInt32 → (0 ≤ z22.toInt ∧ z22.toInt < 96000) ∧ ∀ σ24 : HS, σ24 = h_uI σ21 (L 27) z22.toInt.toNat (vp_nar .byte z23) → lw (fun (K27 : Int32 → HS → Prop) (x25 : Int32) (σ26 : HS) => ((a3.toInt ≤ x25.toInt) → (0 ≤ a1.toInt ∧ a1.toInt < 6) ∧ ∀ z29 : Int32, z29 = sI σ26 (L 28) a1.toInt.toNat → ∀ z30 : Int32, z30 = 4 + a3 → ∀ z31 : Int32, z31 = z29 + z30 → (0 ≤ a1.toInt ∧ a1.toInt < 6) ∧ ∀ σ32 : HS, σ32 = h_uI σ26 (L 28) a1.toInt.toNat z31 → post σ32) ∧ ((x25.toInt < a3.toInt) → ∀ z33 : Int32, z33 = z12 + 4 → ∀ z34 : Int32, z34 = z33 + x25 → ∀ z35 : Int32, z35 = a2 + x25 → (0 ≤ z35.toInt ∧ z35.toInt < 90000) ∧ ∀ z36 : Int32, z36 = sI σ26 (L 76) z35.toInt.toNat → (0 ≤ z34.toInt ∧ z34.toInt < 96000) ∧ ∀ σ37 : HS, σ37 = h_uI σ26 (L 27) z34.toInt.toNat (vp_nar .byte z36) → ∀ z38 : Int32, z38 = x25 + 1 → K27 z38 σ37)) 0 σ24) ∧ (((16000 : Int32).toInt < z9.toInt) → K4 () σ))) (fun (x2 : Unit) (σ3 : HS) => post σ3)
theorem dX12_send_0 : decode cX12_send 0 = .ok (.aload_n 0, 1) := by decide +kernel
theorem dX12_send_1 : decode cX12_send 1 = .ok (.getfield 89, 3) := by decide +kernel
theorem dX12_send_4 : decode cX12_send 4 = .ok (.iload_n 1, 1) := by decide +kernel
theorem dX12_send_5 : decode cX12_send 5 = .ok (.baload, 1) := by decide +kernel
theorem dX12_send_6 : decode cX12_send 6 = .ok (.ifCond .eq 19, 3) := by decide +kernel
theorem dX12_send_9 : decode cX12_send 9 = .ok (.aload_n 0, 1) := by decide +kernel
theorem dX12_send_10 : decode cX12_send 10 = .ok (.getfield 99, 3) := by decide +kernel
theorem dX12_send_13 : decode cX12_send 13 = .ok (.iload_n 1, 1) := by decide +kernel
theorem dX12_send_14 : decode cX12_send 14 = .ok (.iaload, 1) := by decide +kernel
theorem dX12_send_15 : decode cX12_send 15 = .ok (.iconst 4, 1) := by decide +kernel
theorem dX12_send_16 : decode cX12_send 16 = .ok (.iadd, 1) := by decide +kernel
theorem dX12_send_17 : decode cX12_send 17 = .ok (.iload_n 3, 1) := by decide +kernel
theorem dX12_send_18 : decode cX12_send 18 = .ok (.iadd, 1) := by decide +kernel
theorem dX12_send_19 : decode cX12_send 19 = .ok (.sipush 16000, 3) := by decide +kernel
theorem dX12_send_22 : decode cX12_send 22 = .ok (.if_icmp .le 4, 3) := by decide +kernel
theorem dX12_send_25 : decode cX12_send 25 = .ok (.return_, 1) := by decide +kernel
theorem dX12_send_26 : decode cX12_send 26 = .ok (.sipush 16000, 3) := by decide +kernel
theorem dX12_send_29 : decode cX12_send 29 = .ok (.iload_n 1, 1) := by decide +kernel
theorem dX12_send_30 : decode cX12_send 30 = .ok (.imul, 1) := by decide +kernel
theorem dX12_send_31 : decode cX12_send 31 = .ok (.aload_n 0, 1) := by decide +kernel
theorem dX12_send_32 : decode cX12_send 32 = .ok (.getfield 99, 3) := by decide +kernel
theorem dX12_send_35 : decode cX12_send 35 = .ok (.iload_n 1, 1) := by decide +kernel
theorem dX12_send_36 : decode cX12_send 36 = .ok (.iaload, 1) := by decide +kernel
theorem dX12_send_37 : decode cX12_send 37 = .ok (.iadd, 1) := by decide +kernel
theorem dX12_send_38 : decode cX12_send 38 = .ok (.istore 4, 2) := by decide +kernel
theorem dX12_send_40 : decode cX12_send 40 = .ok (.aload_n 0, 1) := by decide +kernel
theorem dX12_send_41 : decode cX12_send 41 = .ok (.getfield 96, 3) := by decide +kernel
theorem dX12_send_44 : decode cX12_send 44 = .ok (.iload 4, 2) := by decide +kernel
theorem dX12_send_46 : decode cX12_send 46 = .ok (.iconst 0, 1) := by decide +kernel
theorem dX12_send_47 : decode cX12_send 47 = .ok (.bastore, 1) := by decide +kernel
theorem dX12_send_48 : decode cX12_send 48 = .ok (.aload_n 0, 1) := by decide +kernel
theorem dX12_send_49 : decode cX12_send 49 = .ok (.getfield 96, 3) := by decide +kernel
theorem dX12_send_52 : decode cX12_send 52 = .ok (.iload 4, 2) := by decide +kernel
theorem dX12_send_54 : decode cX12_send 54 = .ok (.iconst 1, 1) := by decide +kernel
theorem dX12_send_55 : decode cX12_send 55 = .ok (.iadd, 1) := by decide +kernel
theorem dX12_send_56 : decode cX12_send 56 = .ok (.iload_n 3, 1) := by decide +kernel
theorem dX12_send_57 : decode cX12_send 57 = .ok (.bipush 16, 2) := by decide +kernel
theorem dX12_send_59 : decode cX12_send 59 = .ok (.ishr, 1) := by decide +kernel
theorem dX12_send_60 : decode cX12_send 60 = .ok (.i2b, 1) := by decide +kernel
theorem dX12_send_61 : decode cX12_send 61 = .ok (.bastore, 1) := by decide +kernel
theorem dX12_send_62 : decode cX12_send 62 = .ok (.aload_n 0, 1) := by decide +kernel
theorem dX12_send_63 : decode cX12_send 63 = .ok (.getfield 96, 3) := by decide +kernel
theorem dX12_send_66 : decode cX12_send 66 = .ok (.iload 4, 2) := by decide +kernel
theorem dX12_send_68 : decode cX12_send 68 = .ok (.iconst 2, 1) := by decide +kernel
theorem dX12_send_69 : decode cX12_send 69 = .ok (.iadd, 1) := by decide +kernel
theorem dX12_send_70 : decode cX12_send 70 = .ok (.iload_n 3, 1) := by decide +kernel
theorem dX12_send_71 : decode cX12_send 71 = .ok (.bipush 8, 2) := by decide +kernel
theorem dX12_send_73 : decode cX12_send 73 = .ok (.ishr, 1) := by decide +kernel
theorem dX12_send_74 : decode cX12_send 74 = .ok (.i2b, 1) := by decide +kernel
theorem dX12_send_75 : decode cX12_send 75 = .ok (.bastore, 1) := by decide +kernel
theorem dX12_send_76 : decode cX12_send 76 = .ok (.aload_n 0, 1) := by decide +kernel
theorem dX12_send_77 : decode cX12_send 77 = .ok (.getfield 96, 3) := by decide +kernel
theorem dX12_send_80 : decode cX12_send 80 = .ok (.iload 4, 2) := by decide +kernel
theorem dX12_send_82 : decode cX12_send 82 = .ok (.iconst 3, 1) := by decide +kernel
theorem dX12_send_83 : decode cX12_send 83 = .ok (.iadd, 1) := by decide +kernel
theorem dX12_send_84 : decode cX12_send 84 = .ok (.iload_n 3, 1) := by decide +kernel
theorem dX12_send_85 : decode cX12_send 85 = .ok (.i2b, 1) := by decide +kernel
theorem dX12_send_86 : decode cX12_send 86 = .ok (.bastore, 1) := by decide +kernel
theorem dX12_send_87 : decode cX12_send 87 = .ok (.iconst 0, 1) := by decide +kernel
theorem dX12_send_88 : decode cX12_send 88 = .ok (.istore 5, 2) := by decide +kernel
theorem dX12_send_90 : decode cX12_send 90 = .ok (.iload 5, 2) := by decide +kernel
theorem dX12_send_92 : decode cX12_send 92 = .ok (.iload_n 3, 1) := by decide +kernel
theorem dX12_send_93 : decode cX12_send 93 = .ok (.if_icmp .ge 30, 3) := by decide +kernel
theorem dX12_send_96 : decode cX12_send 96 = .ok (.aload_n 0, 1) := by decide +kernel
theorem dX12_send_97 : decode cX12_send 97 = .ok (.getfield 96, 3) := by decide +kernel
theorem dX12_send_100 : decode cX12_send 100 = .ok (.iload 4, 2) := by decide +kernel
theorem dX12_send_102 : decode cX12_send 102 = .ok (.iconst 4, 1) := by decide +kernel
theorem dX12_send_103 : decode cX12_send 103 = .ok (.iadd, 1) := by decide +kernel
theorem dX12_send_104 : decode cX12_send 104 = .ok (.iload 5, 2) := by decide +kernel
theorem dX12_send_106 : decode cX12_send 106 = .ok (.iadd, 1) := by decide +kernel
theorem dX12_send_107 : decode cX12_send 107 = .ok (.aload_n 0, 1) := by decide +kernel
theorem dX12_send_108 : decode cX12_send 108 = .ok (.getfield 246, 3) := by decide +kernel
theorem dX12_send_111 : decode cX12_send 111 = .ok (.iload_n 2, 1) := by decide +kernel
theorem dX12_send_112 : decode cX12_send 112 = .ok (.iload 5, 2) := by decide +kernel
theorem dX12_send_114 : decode cX12_send 114 = .ok (.iadd, 1) := by decide +kernel
theorem dX12_send_115 : decode cX12_send 115 = .ok (.baload, 1) := by decide +kernel
theorem dX12_send_116 : decode cX12_send 116 = .ok (.bastore, 1) := by decide +kernel
theorem dX12_send_117 : decode cX12_send 117 = .ok (.iinc 5 1, 3) := by decide +kernel
theorem dX12_send_120 : decode cX12_send 120 = .ok (.goto (-30), 3) := by decide +kernel
theorem dX12_send_123 : decode cX12_send 123 = .ok (.aload_n 0, 1) := by decide +kernel
theorem dX12_send_124 : decode cX12_send 124 = .ok (.getfield 99, 3) := by decide +kernel
theorem dX12_send_127 : decode cX12_send 127 = .ok (.iload_n 1, 1) := by decide +kernel
theorem dX12_send_128 : decode cX12_send 128 = .ok (.dup2, 1) := by decide +kernel
theorem dX12_send_129 : decode cX12_send 129 = .ok (.iaload, 1) := by decide +kernel
theorem dX12_send_130 : decode cX12_send 130 = .ok (.iconst 4, 1) := by decide +kernel
theorem dX12_send_131 : decode cX12_send 131 = .ok (.iload_n 3, 1) := by decide +kernel
theorem dX12_send_132 : decode cX12_send 132 = .ok (.iadd, 1) := by decide +kernel
theorem dX12_send_133 : decode cX12_send 133 = .ok (.iadd, 1) := by decide +kernel
theorem dX12_send_134 : decode cX12_send 134 = .ok (.iastore, 1) := by decide +kernel
theorem dX12_send_135 : decode cX12_send 135 = .ok (.return_, 1) := by decide +kernel
set_option maxRecDepth 100000 in
set_option maxHeartbeats 4000000 in
theorem c_X12_send (l : Launch) (D : va_G) (t : Nat → ClassId) (h0 : Nat) (L : Nat → Nat) (σ : HS) (hM : MdI h0 L σ) (a1 : Int32) (a2 : Int32) (a3 : Int32) (post : HS → Prop) (hw : F_X12_send h0 L a1 a2 a3 post σ) (sz : Nat) : RMv l D t yX12_send cX12_send 6 ({ frames := 0, cells := 0, slots := 0, locals := 0 }) h0 L σ sz [.ref h0, .int a1, .int a2, .int a3] post := by
  refine h_go (τ := τT) okT (by decide) (Nat.le_of_ble_eq_true rfl) ?_
  intro p e s m below meth c ls A hF hr hlk hAe hH0 hA hl
  unfold hB
  rw [hAe]
  clear hAe
  have hF : FX p m c cX12_send 6 s _ RX12 D t := hF
  have hx := hF.1.1
  have hb := hF.1.2.1
  have hH : RT D t A s.heap h0 L σ s.heap [] := ⟨hH0, hM⟩
  have hl : lv_has ls 6 [(0, .ref h0), (1, .int a1), (2, .int a2), (3, .int a3)] := hl
  unfold F_X12_send at hw
  refine lv_aload_n hx hb dX12_send_0 rfl (lv_at hl 0 rfl) ?_
  refine w_getA 25 hF hH fk_X12_89 dX12_send_1 (by decide) rfl ?_
  refine lv_iload_n hx hb dX12_send_4 rfl (lv_at hl 1 rfl) ?_
  refine w_zald 25 6 hF hH dX12_send_5 (by decide) rfl rfl hw (fun z1 hw => ?_)
  obtain ⟨K4, hK5, hw⟩ := jn_open hw
  refine w_join (K := K4) 25 (fun (x2 : Unit) => []) (fun (x2 : Unit) => []) hl hH (fun x2 σ3 ls H locs hl hw hH => ?_) (fun jn6 => ?_)
  · have hw := hK5 x2 σ3 hw
    have hl : lv_has ls 6 [] := hl
    exact w_retv hF hH hr hlk dX12_send_25 hw
  · skip
    refine w_if_eq (tgt := 25) hF dX12_send_6 rfl hw (fun hw => ?_) (fun hw => ?_)
    · have hl : lv_has ls 6 [] := lv_sub hl [] rfl
      exact jn6 () σ ls _ _ hl hw hH
    · refine lv_aload_n hx hb dX12_send_9 rfl (lv_at hl 0 rfl) ?_
      refine w_getA 28 hF hH fk_X12_99 dX12_send_10 (by decide) rfl ?_
      refine lv_iload_n hx hb dX12_send_13 rfl (lv_at hl 1 rfl) ?_
      refine w_iald 28 6 hF hH dX12_send_14 (by decide) rfl rfl hw (fun z7 hw => ?_)
      refine lv_iconst (v := 4) hx hb dX12_send_15 (by decide) ?_
      refine lv_iadd hx hb dX12_send_16 ?_
      refine w_nmi hw (fun z8 hw => ?_)
      refine lv_iload_n hx hb dX12_send_17 rfl (lv_at hl 3 rfl) ?_
      refine lv_iadd hx hb dX12_send_18 ?_
      refine w_nmi hw (fun z9 hw => ?_)
      refine lv_sipush (v := 16000) hx hb dX12_send_19 (by decide) ?_
      refine w_icmp_le (tgt := 26) hF dX12_send_22 rfl hw (fun hw => ?_) (fun hw => ?_)
      · refine lv_sipush (v := 16000) hx hb dX12_send_26 (by decide) ?_
        refine lv_iload_n hx hb dX12_send_29 rfl (lv_at hl 1 rfl) ?_
        refine lv_imul hx hb dX12_send_30 ?_
        refine w_nmi hw (fun z10 hw => ?_)
        refine lv_aload_n hx hb dX12_send_31 rfl (lv_at hl 0 rfl) ?_
        refine w_getA 28 hF hH fk_X12_99 dX12_send_32 (by decide) rfl ?_
        refine lv_iload_n hx hb dX12_send_35 rfl (lv_at hl 1 rfl) ?_
        refine w_iald 28 6 hF hH dX12_send_36 (by decide) rfl rfl hw (fun z11 hw => ?_)
        refine lv_iadd hx hb dX12_send_37 ?_
        refine w_nmi hw (fun z12 hw => ?_)
        refine lv_istore (lv' := [(4, .int z12), (0, .ref h0), (1, .int a1), (2, .int a2), (3, .int a3)]) hx hb dX12_send_38 hl (by decide) rfl (fun ls hl => ?_)
        refine lv_aload_n hx hb dX12_send_40 rfl (lv_at hl 1 rfl) ?_
        refine w_getA 27 hF hH fk_X12_96 dX12_send_41 (by decide) rfl ?_
        refine lv_iload hx hb dX12_send_44 (lv_at hl 0 rfl) ?_
        refine lv_iconst (v := 0) hx hb dX12_send_46 (by decide) ?_
        refine w_bast 27 96000 hF hH dX12_send_47 (by decide) rfl rfl hw (fun σ13 H locs hw hH => ?_)
        refine lv_aload_n hx hb dX12_send_48 rfl (lv_at hl 1 rfl) ?_
        refine w_getA 27 hF hH fk_X12_96 dX12_send_49 (by decide) rfl ?_
        refine lv_iload hx hb dX12_send_52 (lv_at hl 0 rfl) ?_
        refine lv_iconst (v := 1) hx hb dX12_send_54 (by decide) ?_
        refine lv_iadd hx hb dX12_send_55 ?_
        refine w_nmi hw (fun z14 hw => ?_)
        refine lv_iload_n hx hb dX12_send_56 rfl (lv_at hl 4 rfl) ?_
        refine lv_bipush (v := 16) hx hb dX12_send_57 (by decide) ?_
        refine lv_ishr hx hb dX12_send_59 ?_
        refine w_nmi hw (fun z15 hw => ?_)
        refine lv_i2b hx hb dX12_send_60 rfl ?_
        refine w_nmi hw (fun z16 hw => ?_)
        refine w_bast 27 96000 hF hH dX12_send_61 (by decide) rfl rfl hw (fun σ17 H locs hw hH => ?_)
        refine lv_aload_n hx hb dX12_send_62 rfl (lv_at hl 1 rfl) ?_
        refine w_getA 27 hF hH fk_X12_96 dX12_send_63 (by decide) rfl ?_
        refine lv_iload hx hb dX12_send_66 (lv_at hl 0 rfl) ?_
        refine lv_iconst (v := 2) hx hb dX12_send_68 (by decide) ?_
        refine lv_iadd hx hb dX12_send_69 ?_
        refine w_nmi hw (fun z18 hw => ?_)
        refine lv_iload_n hx hb dX12_send_70 rfl (lv_at hl 4 rfl) ?_
        refine lv_bipush (v := 8) hx hb dX12_send_71 (by decide) ?_
        refine lv_ishr hx hb dX12_send_73 ?_
        refine w_nmi hw (fun z19 hw => ?_)
        refine lv_i2b hx hb dX12_send_74 rfl ?_
        refine w_nmi hw (fun z20 hw => ?_)
        refine w_bast 27 96000 hF hH dX12_send_75 (by decide) rfl rfl hw (fun σ21 H locs hw hH => ?_)
        refine lv_aload_n hx hb dX12_send_76 rfl (lv_at hl 1 rfl) ?_
        refine w_getA 27 hF hH fk_X12_96 dX12_send_77 (by decide) rfl ?_
        refine lv_iload hx hb dX12_send_80 (lv_at hl 0 rfl) ?_
        refine lv_iconst (v := 3) hx hb dX12_send_82 (by decide) ?_
        refine lv_iadd hx hb dX12_send_83 ?_
        refine w_nmi hw (fun z22 hw => ?_)
        refine lv_iload_n hx hb dX12_send_84 rfl (lv_at hl 4 rfl) ?_
        refine lv_i2b hx hb dX12_send_85 rfl ?_
        refine w_nmi hw (fun z23 hw => ?_)
        refine w_bast 27 96000 hF hH dX12_send_86 (by decide) rfl rfl hw (fun σ24 H locs hw hH => ?_)
        refine lv_iconst (v := 0) hx hb dX12_send_87 (by decide) ?_
        refine lv_istore (lv' := [(5, .int 0), (4, .int z12), (0, .ref h0), (1, .int a1), (2, .int a2), (3, .int a3)]) hx hb dX12_send_88 hl (by decide) rfl (fun ls hl => ?_)
        have hl : lv_has ls 6 [(5, .int 0), (4, .int z12), (3, .int a3), (2, .int a2), (1, .int a1), (0, .ref h0)] := lv_sub hl [0, 1, 5, 4, 3, 2] rfl
        refine w_loop (β := Int32) (fun x25 => [(5, .int x25), (4, .int z12), (3, .int a3), (2, .int a2), (1, .int a1), (0, .ref h0)]) 0 hl hw hH (fun K27 x25 σ26 ls H locs hl hw hH ih28 => ?_)
        have hl : lv_has ls 6 [(5, .int x25), (4, .int z12), (3, .int a3), (2, .int a2), (1, .int a1), (0, .ref h0)] := hl
        refine lv_iload hx hb dX12_send_90 (lv_at hl 0 rfl) ?_
        refine lv_iload_n hx hb dX12_send_92 rfl (lv_at hl 2 rfl) ?_
        refine w_icmp_ge (tgt := 123) hF dX12_send_93 rfl hw (fun hw => ?_) (fun hw => ?_)
        · refine lv_aload_n hx hb dX12_send_123 rfl (lv_at hl 5 rfl) ?_
          refine w_getA 28 hF hH fk_X12_99 dX12_send_124 (by decide) rfl ?_
          refine lv_iload_n hx hb dX12_send_127 rfl (lv_at hl 4 rfl) ?_
          refine lv_dup2_11 hx hb dX12_send_128 rfl rfl ?_
          refine w_iald 28 6 hF hH dX12_send_129 (by decide) rfl rfl hw (fun z29 hw => ?_)
          refine lv_iconst (v := 4) hx hb dX12_send_130 (by decide) ?_
          refine lv_iload_n hx hb dX12_send_131 rfl (lv_at hl 2 rfl) ?_
          refine lv_iadd hx hb dX12_send_132 ?_
          refine w_nmi hw (fun z30 hw => ?_)
          refine lv_iadd hx hb dX12_send_133 ?_
          refine w_nmi hw (fun z31 hw => ?_)
          refine w_iast 28 6 hF hH dX12_send_134 (by decide) rfl rfl hw (fun σ32 H locs hw hH => ?_)
          exact w_retv hF hH hr hlk dX12_send_135 hw
        · refine lv_aload_n hx hb dX12_send_96 rfl (lv_at hl 5 rfl) ?_
          refine w_getA 27 hF hH fk_X12_96 dX12_send_97 (by decide) rfl ?_
          refine lv_iload hx hb dX12_send_100 (lv_at hl 1 rfl) ?_
          refine lv_iconst (v := 4) hx hb dX12_send_102 (by decide) ?_
          refine lv_iadd hx hb dX12_send_103 ?_
          refine w_nmi hw (fun z33 hw => ?_)
          refine lv_iload hx hb dX12_send_104 (lv_at hl 0 rfl) ?_
          refine lv_iadd hx hb dX12_send_106 ?_
          refine w_nmi hw (fun z34 hw => ?_)
          refine lv_aload_n hx hb dX12_send_107 rfl (lv_at hl 5 rfl) ?_
          refine w_getA 76 hF hH fk_X12_246 dX12_send_108 (by decide) rfl ?_
          refine lv_iload_n hx hb dX12_send_111 rfl (lv_at hl 3 rfl) ?_
          refine lv_iload hx hb dX12_send_112 (lv_at hl 0 rfl) ?_
          refine lv_iadd hx hb dX12_send_114 ?_
          refine w_nmi hw (fun z35 hw => ?_)
          refine w_bald 76 90000 hF hH dX12_send_115 (by decide) rfl rfl hw (fun z36 hw => ?_)
          refine w_bast 27 96000 hF hH dX12_send_116 (by decide) rfl rfl hw (fun σ37 H locs hw hH => ?_)
          obtain ⟨z38, ez38⟩ : ∃ z : Int32, z = x25 + 1 := ⟨_, rfl⟩
          have hw := hw z38 ez38
          refine lv_iinc (lv' := [(5, .int z38), (4, .int z12), (3, .int a3), (2, .int a2), (1, .int a1), (0, .ref h0)]) (k := 0) (v := z38) hx hb dX12_send_117 hl rfl ez38.symm (by decide) rfl (fun ls hl => ?_)
          refine lv_goto (tgt := 90) hx hb dX12_send_120 rfl ?_
          exact ih28 z38 σ37 ls _ _ hl hw hH
      · have hl : lv_has ls 6 [] := lv_sub hl [] rfl
        exact jn6 () σ ls _ _ hl hw hH
def F_X12_late (h0 : Nat) (L : Nat → Nat) (a1 : Int32) (a2 : Int64) (post : HS → Prop) (σ : HS) : Prop := jn (fun (K3 : Unit → HS → Prop) => ((a2.toInt = (0 : Int64).toInt) → K3 () σ) ∧ ((¬ a2.toInt = (0 : Int64).toInt) → F_X12_body h0 L 9 (fun (σ26 : HS) => F_X12_set h0 L 64 2 9 (fun (σ28 : HS) => K3 () σ28) σ26) σ)) (fun (x1 : Unit) (σ2 : HS) => ∀ z6 : Int32, z6 = sI σ2 h0 91 → (0 ≤ a1.toInt ∧ a1.toInt < 16) ∧ ∀ z7 : Int32, z7 = sI σ2 (L 62) a1.toInt.toNat → (0 ≤ a1.toInt ∧ a1.toInt < 16) ∧ ∀ z8 : Int32, z8 = sI σ2 (L 63) a1.toInt.toNat → (0 ≤ a1.toInt ∧ a1.toInt < 16) ∧ ∀ z9 : Int32, z9 = sI σ2 (L 64) a1.toInt.toNat → jn (fun (K12 : Int64 → HS → Prop) => ((z9.toInt = 0) → K12 0 σ2) ∧ ((¬ z9.toInt = 0) → K12 4 σ2)) (fun (x10 : Int64) (σ11 : HS) => ∀ z15 : Int64, z15 = 3 ||| x10 → (0 ≤ a1.toInt ∧ a1.toInt < 16) ∧ ∀ z16 : Int64, z16 = sJ σ11 (L 65) a1.toInt.toNat → (0 ≤ a1.toInt ∧ a1.toInt < 16) ∧ ∀ z17 : Int64, z17 = sJ σ11 (L 66) a1.toInt.toNat → (0 ≤ a1.toInt ∧ a1.toInt < 16) ∧ ∀ z18 : Int32, z18 = sI σ11 (L 67) a1.toInt.toNat → (0 ≤ z18.toInt ∧ z18.toInt < 8) ∧ ∀ z19 : Int64, z19 = sJ σ11 (L 34) z18.toInt.toNat → F_X12_header h0 L a2 z7 z8 0 z15 z16 z17 z19 (fun (σ20 : HS) => (0 ≤ a1.toInt ∧ a1.toInt < 16) ∧ ∀ z22 : Int32, z22 = sI σ20 (L 61) a1.toInt.toNat → ∀ z23 : Int32, z23 = sI σ20 h0 90 → F_X12_send h0 L z22 z23 z6 (fun (σ24 : HS) => post σ24) σ20) σ11))
theorem dX12_late_0 : decode cX12_late 0 = .ok (.lload_n 2, 1) := by decide +kernel
theorem dX12_late_1 : decode cX12_late 1 = .ok (.lconst 0, 1) := by decide +kernel
theorem dX12_late_2 : decode cX12_late 2 = .ok (.lcmp, 1) := by decide +kernel
theorem dX12_late_3 : decode cX12_late 3 = .ok (.ifCond .eq 19, 3) := by decide +kernel
theorem dX12_late_6 : decode cX12_late 6 = .ok (.aload_n 0, 1) := by decide +kernel
theorem dX12_late_7 : decode cX12_late 7 = .ok (.bipush 9, 2) := by decide +kernel
theorem dX12_late_9 : decode cX12_late 9 = .ok (.invokevirtual 456, 3) := by decide +kernel
theorem dX12_late_12 : decode cX12_late 12 = .ok (.aload_n 0, 1) := by decide +kernel
theorem dX12_late_13 : decode cX12_late 13 = .ok (.bipush 64, 2) := by decide +kernel
theorem dX12_late_15 : decode cX12_late 15 = .ok (.iconst 2, 1) := by decide +kernel
theorem dX12_late_16 : decode cX12_late 16 = .ok (.ldc2_w 459, 3) := by decide +kernel
theorem dX12_late_19 : decode cX12_late 19 = .ok (.invokevirtual 376, 3) := by decide +kernel
theorem dX12_late_22 : decode cX12_late 22 = .ok (.aload_n 0, 1) := by decide +kernel
theorem dX12_late_23 : decode cX12_late 23 = .ok (.getfield 371, 3) := by decide +kernel
theorem dX12_late_26 : decode cX12_late 26 = .ok (.istore 4, 2) := by decide +kernel
theorem dX12_late_28 : decode cX12_late 28 = .ok (.aload_n 0, 1) := by decide +kernel
theorem dX12_late_29 : decode cX12_late 29 = .ok (.lload_n 2, 1) := by decide +kernel
theorem dX12_late_30 : decode cX12_late 30 = .ok (.aload_n 0, 1) := by decide +kernel
theorem dX12_late_31 : decode cX12_late 31 = .ok (.getfield 202, 3) := by decide +kernel
theorem dX12_late_34 : decode cX12_late 34 = .ok (.iload_n 1, 1) := by decide +kernel
theorem dX12_late_35 : decode cX12_late 35 = .ok (.iaload, 1) := by decide +kernel
theorem dX12_late_36 : decode cX12_late 36 = .ok (.aload_n 0, 1) := by decide +kernel
theorem dX12_late_37 : decode cX12_late 37 = .ok (.getfield 205, 3) := by decide +kernel
theorem dX12_late_40 : decode cX12_late 40 = .ok (.iload_n 1, 1) := by decide +kernel
theorem dX12_late_41 : decode cX12_late 41 = .ok (.iaload, 1) := by decide +kernel
theorem dX12_late_42 : decode cX12_late 42 = .ok (.iconst 0, 1) := by decide +kernel
theorem dX12_late_43 : decode cX12_late 43 = .ok (.ldc2_w 573, 3) := by decide +kernel
theorem dX12_late_46 : decode cX12_late 46 = .ok (.aload_n 0, 1) := by decide +kernel
theorem dX12_late_47 : decode cX12_late 47 = .ok (.getfield 208, 3) := by decide +kernel
theorem dX12_late_50 : decode cX12_late 50 = .ok (.iload_n 1, 1) := by decide +kernel
theorem dX12_late_51 : decode cX12_late 51 = .ok (.baload, 1) := by decide +kernel
theorem dX12_late_52 : decode cX12_late 52 = .ok (.ifCond .eq 9, 3) := by decide +kernel
theorem dX12_late_55 : decode cX12_late 55 = .ok (.ldc2_w 410, 3) := by decide +kernel
theorem dX12_late_58 : decode cX12_late 58 = .ok (.goto 4, 3) := by decide +kernel
theorem dX12_late_61 : decode cX12_late 61 = .ok (.lconst 0, 1) := by decide +kernel
theorem dX12_late_62 : decode cX12_late 62 = .ok (.lor, 1) := by decide +kernel
theorem dX12_late_63 : decode cX12_late 63 = .ok (.aload_n 0, 1) := by decide +kernel
theorem dX12_late_64 : decode cX12_late 64 = .ok (.getfield 211, 3) := by decide +kernel
theorem dX12_late_67 : decode cX12_late 67 = .ok (.iload_n 1, 1) := by decide +kernel
theorem dX12_late_68 : decode cX12_late 68 = .ok (.laload, 1) := by decide +kernel
theorem dX12_late_69 : decode cX12_late 69 = .ok (.aload_n 0, 1) := by decide +kernel
theorem dX12_late_70 : decode cX12_late 70 = .ok (.getfield 214, 3) := by decide +kernel
theorem dX12_late_73 : decode cX12_late 73 = .ok (.iload_n 1, 1) := by decide +kernel
theorem dX12_late_74 : decode cX12_late 74 = .ok (.laload, 1) := by decide +kernel
theorem dX12_late_75 : decode cX12_late 75 = .ok (.aload_n 0, 1) := by decide +kernel
theorem dX12_late_76 : decode cX12_late 76 = .ok (.getfield 118, 3) := by decide +kernel
theorem dX12_late_79 : decode cX12_late 79 = .ok (.aload_n 0, 1) := by decide +kernel
theorem dX12_late_80 : decode cX12_late 80 = .ok (.getfield 217, 3) := by decide +kernel
theorem dX12_late_83 : decode cX12_late 83 = .ok (.iload_n 1, 1) := by decide +kernel
theorem dX12_late_84 : decode cX12_late 84 = .ok (.iaload, 1) := by decide +kernel
theorem dX12_late_85 : decode cX12_late 85 = .ok (.laload, 1) := by decide +kernel
theorem dX12_late_86 : decode cX12_late 86 = .ok (.invokevirtual 467, 3) := by decide +kernel
theorem dX12_late_89 : decode cX12_late 89 = .ok (.aload_n 0, 1) := by decide +kernel
theorem dX12_late_90 : decode cX12_late 90 = .ok (.aload_n 0, 1) := by decide +kernel
theorem dX12_late_91 : decode cX12_late 91 = .ok (.getfield 199, 3) := by decide +kernel
theorem dX12_late_94 : decode cX12_late 94 = .ok (.iload_n 1, 1) := by decide +kernel
theorem dX12_late_95 : decode cX12_late 95 = .ok (.iaload, 1) := by decide +kernel
theorem dX12_late_96 : decode cX12_late 96 = .ok (.aload_n 0, 1) := by decide +kernel
theorem dX12_late_97 : decode cX12_late 97 = .ok (.getfield 368, 3) := by decide +kernel
theorem dX12_late_100 : decode cX12_late 100 = .ok (.iload 4, 2) := by decide +kernel
theorem dX12_late_102 : decode cX12_late 102 = .ok (.invokevirtual 429, 3) := by decide +kernel
theorem dX12_late_105 : decode cX12_late 105 = .ok (.return_, 1) := by decide +kernel
set_option maxRecDepth 100000 in
set_option maxHeartbeats 4000000 in
theorem c_X12_late (l : Launch) (D : va_G) (t : Nat → ClassId) (h0 : Nat) (L : Nat → Nat) (σ : HS) (hM : MdI h0 L σ) (a1 : Int32) (a2 : Int64) (post : HS → Prop) (hw : F_X12_late h0 L a1 a2 post σ) (sz : Nat) : RMv l D t yX12_late cX12_late 5 ({ frames := 2, cells := 0, slots := 0, locals := 59 }) h0 L σ sz [.ref h0, .int a1, .long a2] post := by
  refine h_go (τ := τT) okT (by decide) (Nat.le_of_ble_eq_true rfl) ?_
  intro p e s m below meth c ls A hF hr hlk hAe hH0 hA hl
  unfold hB
  rw [hAe]
  clear hAe
  have hF : FX p m c cX12_late 5 s _ RX12 D t := hF
  have hx := hF.1.1
  have hb := hF.1.2.1
  have hH : RT D t A s.heap h0 L σ s.heap [] := ⟨hH0, hM⟩
  have hl : lv_has ls 5 [(0, .ref h0), (1, .int a1), (2, .long a2)] := hl
  unfold F_X12_late at hw
  refine lv_lload_n hx hb dX12_late_0 rfl (lv_at hl 2 rfl) ?_
  refine lv_lconst (v := 0) hx hb dX12_late_1 (by decide) ?_
  obtain ⟨K3, hK4, hw⟩ := jn_open hw
  refine w_join (K := K3) 22 (fun (x1 : Unit) => [(2, .long a2), (1, .int a1), (0, .ref h0)]) (fun (x1 : Unit) => []) hl hH (fun x1 σ2 ls H locs hl hw hH => ?_) (fun jn5 => ?_)
  · have hw := hK4 x1 σ2 hw
    have hl : lv_has ls 5 [(2, .long a2), (1, .int a1), (0, .ref h0)] := hl
    refine lv_aload_n hx hb dX12_late_22 rfl (lv_at hl 2 rfl) ?_
    refine w_getI hF hH fk_X12_371 dX12_late_23 hw (fun z6 hw => ?_)
    refine lv_istore (lv' := [(4, .int z6), (2, .long a2), (1, .int a1), (0, .ref h0)]) hx hb dX12_late_26 hl (by decide) rfl (fun ls hl => ?_)
    refine lv_aload_n hx hb dX12_late_28 rfl (lv_at hl 3 rfl) ?_
    refine lv_lload_n hx hb dX12_late_29 rfl (lv_at hl 1 rfl) ?_
    refine lv_aload_n hx hb dX12_late_30 rfl (lv_at hl 3 rfl) ?_
    refine w_getA 62 hF hH fk_X12_202 dX12_late_31 (by decide) rfl ?_
    refine lv_iload_n hx hb dX12_late_34 rfl (lv_at hl 2 rfl) ?_
    refine w_iald 62 16 hF hH dX12_late_35 (by decide) rfl rfl hw (fun z7 hw => ?_)
    refine lv_aload_n hx hb dX12_late_36 rfl (lv_at hl 3 rfl) ?_
    refine w_getA 63 hF hH fk_X12_205 dX12_late_37 (by decide) rfl ?_
    refine lv_iload_n hx hb dX12_late_40 rfl (lv_at hl 2 rfl) ?_
    refine w_iald 63 16 hF hH dX12_late_41 (by decide) rfl rfl hw (fun z8 hw => ?_)
    refine lv_iconst (v := 0) hx hb dX12_late_42 (by decide) ?_
    refine lv_ldc2 (v := 3) hx hb hF.1.2.2.2.1 (hF.1.2.2.2.2 _ (wc_48 1 rfl)) dX12_late_43 ?_
    refine lv_aload_n hx hb dX12_late_46 rfl (lv_at hl 3 rfl) ?_
    refine w_getA 64 hF hH fk_X12_208 dX12_late_47 (by decide) rfl ?_
    refine lv_iload_n hx hb dX12_late_50 rfl (lv_at hl 2 rfl) ?_
    refine w_zald 64 16 hF hH dX12_late_51 (by decide) rfl rfl hw (fun z9 hw => ?_)
    obtain ⟨K12, hK13, hw⟩ := jn_open hw
    refine w_join (K := K12) 62 (fun (x10 : Int64) => [(4, .int z6), (1, .int a1), (0, .ref h0)]) (fun (x10 : Int64) => [.long x10, .long 3, .int 0, .int z8, .int z7, .long a2, .ref h0]) hl hH (fun x10 σ11 ls H locs hl hw hH => ?_) (fun jn14 => ?_)
    · have hw := hK13 x10 σ11 hw
      have hl : lv_has ls 5 [(4, .int z6), (1, .int a1), (0, .ref h0)] := hl
      refine lv_lor hx hb dX12_late_62 ?_
      refine w_nml hw (fun z15 hw => ?_)
      refine lv_aload_n hx hb dX12_late_63 rfl (lv_at hl 2 rfl) ?_
      refine w_getA 65 hF hH fk_X12_211 dX12_late_64 (by decide) rfl ?_
      refine lv_iload_n hx hb dX12_late_67 rfl (lv_at hl 1 rfl) ?_
      refine w_lald 65 16 hF hH dX12_late_68 (by decide) rfl rfl hw (fun z16 hw => ?_)
      refine lv_aload_n hx hb dX12_late_69 rfl (lv_at hl 2 rfl) ?_
      refine w_getA 66 hF hH fk_X12_214 dX12_late_70 (by decide) rfl ?_
      refine lv_iload_n hx hb dX12_late_73 rfl (lv_at hl 1 rfl) ?_
      refine w_lald 66 16 hF hH dX12_late_74 (by decide) rfl rfl hw (fun z17 hw => ?_)
      refine lv_aload_n hx hb dX12_late_75 rfl (lv_at hl 2 rfl) ?_
      refine w_getA 34 hF hH fk_X12_118 dX12_late_76 (by decide) rfl ?_
      refine lv_aload_n hx hb dX12_late_79 rfl (lv_at hl 2 rfl) ?_
      refine w_getA 67 hF hH fk_X12_217 dX12_late_80 (by decide) rfl ?_
      refine lv_iload_n hx hb dX12_late_83 rfl (lv_at hl 1 rfl) ?_
      refine w_iald 67 16 hF hH dX12_late_84 (by decide) rfl rfl hw (fun z18 hw => ?_)
      refine w_lald 34 8 hF hH dX12_late_85 (by decide) rfl rfl hw (fun z19 hw => ?_)
      refine w_cVv (As := [.long a2, .int z7, .int z8, .int 0, .long z15, .long z16, .long z17, .long z19]) (rest := []) hF hH hA mv_X12_467 (fun sz => c_X12_header l D t h0 L _ hH.2 a2 z7 z8 0 z15 z16 z17 z19 _ hw sz) dX12_late_86 rfl rfl (by decide) rfl hl.1 (Nat.le_of_ble_eq_true rfl) (by decide) rfl (fun σ20 H locs hw hH => ?_)
      refine lv_aload_n hx hb dX12_late_89 rfl (lv_at hl 2 rfl) ?_
      refine lv_aload_n hx hb dX12_late_90 rfl (lv_at hl 2 rfl) ?_
      refine w_getA 61 hF hH fk_X12_199 dX12_late_91 (by decide) rfl ?_
      refine lv_iload_n hx hb dX12_late_94 rfl (lv_at hl 1 rfl) ?_
      refine w_iald 61 16 hF hH dX12_late_95 (by decide) rfl rfl hw (fun z22 hw => ?_)
      refine lv_aload_n hx hb dX12_late_96 rfl (lv_at hl 2 rfl) ?_
      refine w_getI hF hH fk_X12_368 dX12_late_97 hw (fun z23 hw => ?_)
      refine lv_iload hx hb dX12_late_100 (lv_at hl 0 rfl) ?_
      refine w_cVv (As := [.int z22, .int z23, .int z6]) (rest := []) hF hH hA mv_X12_429 (fun sz => c_X12_send l D t h0 L _ hH.2 z22 z23 z6 _ hw sz) dX12_late_102 rfl rfl (by decide) rfl hl.1 (Nat.le_of_ble_eq_true rfl) (by decide) rfl (fun σ24 H locs hw hH => ?_)
      exact w_retv hF hH hr hlk dX12_late_105 hw
    · skip
      refine w_if_eq (tgt := 61) hF dX12_late_52 rfl hw (fun hw => ?_) (fun hw => ?_)
      · refine lv_lconst (v := 0) hx hb dX12_late_61 (by decide) ?_
        have hl : lv_has ls 5 [(4, .int z6), (1, .int a1), (0, .ref h0)] := lv_sub hl [0, 2, 3] rfl
        exact jn14 0 σ2 ls _ _ hl hw hH
      · refine lv_ldc2 (v := 4) hx hb hF.1.2.2.2.1 (hF.1.2.2.2.2 _ (wc_47 22 rfl)) dX12_late_55 ?_
        refine lv_goto (tgt := 62) hx hb dX12_late_58 rfl ?_
        have hl : lv_has ls 5 [(4, .int z6), (1, .int a1), (0, .ref h0)] := lv_sub hl [0, 2, 3] rfl
        exact jn14 4 σ2 ls _ _ hl hw hH
  · skip
    refine w_lif_eq (tgt := 22) hF dX12_late_2 dX12_late_3 rfl hw (fun hw => ?_) (fun hw => ?_)
    · have hl : lv_has ls 5 [(2, .long a2), (1, .int a1), (0, .ref h0)] := lv_sub hl [2, 1, 0] rfl
      exact jn5 () σ ls _ _ hl hw hH
    · refine lv_aload_n hx hb dX12_late_6 rfl (lv_at hl 0 rfl) ?_
      refine lv_bipush (v := 9) hx hb dX12_late_7 (by decide) ?_
      refine w_cVv (As := [.int 9]) (rest := []) hF hH hA mv_X12_456 (fun sz => c_X12_body l D t h0 L _ hH.2 9 _ hw sz) dX12_late_9 rfl rfl (by decide) rfl hl.1 (Nat.le_of_ble_eq_true rfl) (by decide) rfl (fun σ26 H locs hw hH => ?_)
      refine lv_aload_n hx hb dX12_late_12 rfl (lv_at hl 0 rfl) ?_
      refine lv_bipush (v := 64) hx hb dX12_late_13 (by decide) ?_
      refine lv_iconst (v := 2) hx hb dX12_late_15 (by decide) ?_
      refine lv_ldc2 (v := 9) hx hb hF.1.2.2.2.1 (hF.1.2.2.2.2 _ (wc_47 29 rfl)) dX12_late_16 ?_
      refine w_cVv (As := [.int 64, .int 2, .long 9]) (rest := []) hF hH hA mv_X12_376 (fun sz => c_X12_set l D t h0 L _ hH.2 64 2 9 _ hw sz) dX12_late_19 rfl rfl (by decide) rfl hl.1 (Nat.le_of_ble_eq_true rfl) (by decide) rfl (fun σ28 H locs hw hH => ?_)
      have hl : lv_has ls 5 [(2, .long a2), (1, .int a1), (0, .ref h0)] := lv_sub hl [2, 1, 0] rfl
      exact jn5 () σ28 ls _ _ hl hw hH
def F_X12_give (h0 : Nat) (L : Nat → Nat) (a1 : Int32) (a2 : Int64) (post : HS → Prop) (σ : HS) : Prop := ∀ z1 : Int32, z1 = sI σ h0 90 → ∀ z2 : Int32, z2 = sI σ h0 91 → ∀ σ3 : HS, σ3 = h_uI σ h0 90 85000 → jn (fun (K6 : Unit → HS → Prop) => ((¬ a2.toInt = (0 : Int64).toInt) → K6 () σ3) ∧ ((a2.toInt = (0 : Int64).toInt) → F_X12_small h0 L 4 (fun (z16 : Int64) (σ15 : HS) => K6 () σ15) σ3)) (fun (x4 : Unit) (σ5 : HS) => F_X12_late h0 L a1 a2 (fun (σ9 : HS) => F_X12_forget h0 L a1 (fun (σ11 : HS) => ∀ σ13 : HS, σ13 = h_uI σ11 h0 90 z1 → ∀ σ14 : HS, σ14 = h_uI σ13 h0 91 z2 → post σ14) σ9) σ5)
theorem dX12_give_0 : decode cX12_give 0 = .ok (.aload_n 0, 1) := by decide +kernel
theorem dX12_give_1 : decode cX12_give 1 = .ok (.getfield 368, 3) := by decide +kernel
theorem dX12_give_4 : decode cX12_give 4 = .ok (.istore 4, 2) := by decide +kernel
theorem dX12_give_6 : decode cX12_give 6 = .ok (.aload_n 0, 1) := by decide +kernel
theorem dX12_give_7 : decode cX12_give 7 = .ok (.getfield 371, 3) := by decide +kernel
theorem dX12_give_10 : decode cX12_give 10 = .ok (.istore 5, 2) := by decide +kernel
theorem dX12_give_12 : decode cX12_give 12 = .ok (.aload_n 0, 1) := by decide +kernel
theorem dX12_give_13 : decode cX12_give 13 = .ok (.ldc_w 575, 3) := by decide +kernel
theorem dX12_give_16 : decode cX12_give 16 = .ok (.putfield 368, 3) := by decide +kernel
theorem dX12_give_19 : decode cX12_give 19 = .ok (.lload_n 2, 1) := by decide +kernel
theorem dX12_give_20 : decode cX12_give 20 = .ok (.lconst 0, 1) := by decide +kernel
theorem dX12_give_21 : decode cX12_give 21 = .ok (.lcmp, 1) := by decide +kernel
theorem dX12_give_22 : decode cX12_give 22 = .ok (.ifCond .ne 9, 3) := by decide +kernel
theorem dX12_give_25 : decode cX12_give 25 = .ok (.aload_n 0, 1) := by decide +kernel
theorem dX12_give_26 : decode cX12_give 26 = .ok (.iconst 4, 1) := by decide +kernel
theorem dX12_give_27 : decode cX12_give 27 = .ok (.invokevirtual 536, 3) := by decide +kernel
theorem dX12_give_30 : decode cX12_give 30 = .ok (.pop2, 1) := by decide +kernel
theorem dX12_give_31 : decode cX12_give 31 = .ok (.aload_n 0, 1) := by decide +kernel
theorem dX12_give_32 : decode cX12_give 32 = .ok (.iload_n 1, 1) := by decide +kernel
theorem dX12_give_33 : decode cX12_give 33 = .ok (.lload_n 2, 1) := by decide +kernel
theorem dX12_give_34 : decode cX12_give 34 = .ok (.invokevirtual 576, 3) := by decide +kernel
theorem dX12_give_37 : decode cX12_give 37 = .ok (.aload_n 0, 1) := by decide +kernel
theorem dX12_give_38 : decode cX12_give 38 = .ok (.iload_n 1, 1) := by decide +kernel
theorem dX12_give_39 : decode cX12_give 39 = .ok (.invokevirtual 332, 3) := by decide +kernel
theorem dX12_give_42 : decode cX12_give 42 = .ok (.aload_n 0, 1) := by decide +kernel
theorem dX12_give_43 : decode cX12_give 43 = .ok (.iload 4, 2) := by decide +kernel
theorem dX12_give_45 : decode cX12_give 45 = .ok (.putfield 368, 3) := by decide +kernel
theorem dX12_give_48 : decode cX12_give 48 = .ok (.aload_n 0, 1) := by decide +kernel
theorem dX12_give_49 : decode cX12_give 49 = .ok (.iload 5, 2) := by decide +kernel
theorem dX12_give_51 : decode cX12_give 51 = .ok (.putfield 371, 3) := by decide +kernel
theorem dX12_give_54 : decode cX12_give 54 = .ok (.return_, 1) := by decide +kernel
set_option maxRecDepth 100000 in
set_option maxHeartbeats 4000000 in
theorem c_X12_give (l : Launch) (D : va_G) (t : Nat → ClassId) (h0 : Nat) (L : Nat → Nat) (σ : HS) (hM : MdI h0 L σ) (a1 : Int32) (a2 : Int64) (post : HS → Prop) (hw : F_X12_give h0 L a1 a2 post σ) (sz : Nat) : RMv l D t yX12_give cX12_give 6 ({ frames := 3, cells := 0, slots := 0, locals := 83 }) h0 L σ sz [.ref h0, .int a1, .long a2] post := by
  refine h_go (τ := τT) okT (by decide) (Nat.le_of_ble_eq_true rfl) ?_
  intro p e s m below meth c ls A hF hr hlk hAe hH0 hA hl
  unfold hB
  rw [hAe]
  clear hAe
  have hF : FX p m c cX12_give 6 s _ RX12 D t := hF
  have hx := hF.1.1
  have hb := hF.1.2.1
  have hH : RT D t A s.heap h0 L σ s.heap [] := ⟨hH0, hM⟩
  have hl : lv_has ls 6 [(0, .ref h0), (1, .int a1), (2, .long a2)] := hl
  unfold F_X12_give at hw
  refine lv_aload_n hx hb dX12_give_0 rfl (lv_at hl 0 rfl) ?_
  refine w_getI hF hH fk_X12_368 dX12_give_1 hw (fun z1 hw => ?_)
  refine lv_istore (lv' := [(4, .int z1), (0, .ref h0), (1, .int a1), (2, .long a2)]) hx hb dX12_give_4 hl (by decide) rfl (fun ls hl => ?_)
  refine lv_aload_n hx hb dX12_give_6 rfl (lv_at hl 1 rfl) ?_
  refine w_getI hF hH fk_X12_371 dX12_give_7 hw (fun z2 hw => ?_)
  refine lv_istore (lv' := [(5, .int z2), (4, .int z1), (0, .ref h0), (1, .int a1), (2, .long a2)]) hx hb dX12_give_10 hl (by decide) rfl (fun ls hl => ?_)
  refine lv_aload_n hx hb dX12_give_12 rfl (lv_at hl 2 rfl) ?_
  refine lv_ldcw (v := 85000) hx hb hF.1.2.2.2.1 (hF.1.2.2.2.2 _ (wc_48 2 rfl)) dX12_give_13 ?_
  refine w_putI hF hH fk_X12_368 dX12_give_16 rfl rfl rfl hw (fun σ3 H locs hw hH => ?_)
  refine lv_lload_n hx hb dX12_give_19 rfl (lv_at hl 4 rfl) ?_
  refine lv_lconst (v := 0) hx hb dX12_give_20 (by decide) ?_
  obtain ⟨K6, hK7, hw⟩ := jn_open hw
  refine w_join (K := K6) 31 (fun (x4 : Unit) => [(5, .int z2), (4, .int z1), (2, .long a2), (1, .int a1), (0, .ref h0)]) (fun (x4 : Unit) => []) hl hH (fun x4 σ5 ls H locs hl hw hH => ?_) (fun jn8 => ?_)
  · have hw := hK7 x4 σ5 hw
    have hl : lv_has ls 6 [(5, .int z2), (4, .int z1), (2, .long a2), (1, .int a1), (0, .ref h0)] := hl
    refine lv_aload_n hx hb dX12_give_31 rfl (lv_at hl 4 rfl) ?_
    refine lv_iload_n hx hb dX12_give_32 rfl (lv_at hl 3 rfl) ?_
    refine lv_lload_n hx hb dX12_give_33 rfl (lv_at hl 2 rfl) ?_
    refine w_cVv (As := [.int a1, .long a2]) (rest := []) hF hH hA mv_X12_576 (fun sz => c_X12_late l D t h0 L _ hH.2 a1 a2 _ hw sz) dX12_give_34 rfl rfl (by decide) rfl hl.1 (Nat.le_of_ble_eq_true rfl) (by decide) rfl (fun σ9 H locs hw hH => ?_)
    refine lv_aload_n hx hb dX12_give_37 rfl (lv_at hl 4 rfl) ?_
    refine lv_iload_n hx hb dX12_give_38 rfl (lv_at hl 3 rfl) ?_
    refine w_cVv (As := [.int a1]) (rest := []) hF hH hA mv_X12_332 (fun sz => c_X12_forget l D t h0 L _ hH.2 a1 _ hw sz) dX12_give_39 rfl rfl (by decide) rfl hl.1 (Nat.le_of_ble_eq_true rfl) (by decide) rfl (fun σ11 H locs hw hH => ?_)
    refine lv_aload_n hx hb dX12_give_42 rfl (lv_at hl 4 rfl) ?_
    refine lv_iload hx hb dX12_give_43 (lv_at hl 1 rfl) ?_
    refine w_putI hF hH fk_X12_368 dX12_give_45 rfl rfl rfl hw (fun σ13 H locs hw hH => ?_)
    refine lv_aload_n hx hb dX12_give_48 rfl (lv_at hl 4 rfl) ?_
    refine lv_iload hx hb dX12_give_49 (lv_at hl 0 rfl) ?_
    refine w_putI hF hH fk_X12_371 dX12_give_51 rfl rfl rfl hw (fun σ14 H locs hw hH => ?_)
    exact w_retv hF hH hr hlk dX12_give_54 hw
  · skip
    refine w_lif_ne (tgt := 31) hF dX12_give_21 dX12_give_22 rfl hw (fun hw => ?_) (fun hw => ?_)
    · have hl : lv_has ls 6 [(5, .int z2), (4, .int z1), (2, .long a2), (1, .int a1), (0, .ref h0)] := lv_sub hl [0, 1, 4, 3, 2] rfl
      exact jn8 () σ3 ls _ _ hl hw hH
    · refine lv_aload_n hx hb dX12_give_25 rfl (lv_at hl 2 rfl) ?_
      refine lv_iconst (v := 4) hx hb dX12_give_26 (by decide) ?_
      refine w_cVl (As := [.int 4]) (rest := []) hF hH hA mv_X12_536 (fun sz => c_X12_small l D t h0 L _ hH.2 4 _ hw sz) dX12_give_27 rfl rfl (by decide) rfl hl.1 (Nat.le_of_ble_eq_true rfl) (by decide) rfl (fun z16 σ15 H locs hw hH => ?_)
      refine lv_pop2_2 hx hb dX12_give_30 rfl ?_
      have hl : lv_has ls 6 [(5, .int z2), (4, .int z1), (2, .long a2), (1, .int a1), (0, .ref h0)] := lv_sub hl [0, 1, 4, 3, 2] rfl
      exact jn8 () σ15 ls _ _ hl hw hH
def F_X12_unlock (h0 : Nat) (L : Nat → Nat) (a1 : Int32) (post : HS → Prop) (σ : HS) : Prop := ∀ z1 : Int32, z1 = sI σ h0 63 → ∀ z2 : Int32, z2 = z1 - 1 → ∀ σ3 : HS, σ3 = h_uI σ h0 63 z2 → lw (fun (K6 : Int32 → HS → Prop) (x4 : Int32) (σ5 : HS) => ∀ z8 : Int32, z8 = sI σ5 h0 63 → ((z8.toInt ≤ x4.toInt) → post σ5) ∧ ((x4.toInt < z8.toInt) → ∀ z9 : Int32, z9 = x4 + 1 → (0 ≤ z9.toInt ∧ z9.toInt < 80) ∧ ∀ z10 : Int64, z10 = sJ σ5 (L 56) z9.toInt.toNat → (0 ≤ x4.toInt ∧ x4.toInt < 80) ∧ ∀ σ11 : HS, σ11 = h_uJ σ5 (L 56) x4.toInt.toNat z10 → ∀ z12 : Int32, z12 = x4 + 1 → (0 ≤ z12.toInt ∧ z12.toInt < 80) ∧ ∀ z13 : Int32, z13 = sI σ11 (L 57) z12.toInt.toNat → (0 ≤ x4.toInt ∧ x4.toInt < 80) ∧ ∀ σ14 : HS, σ14 = h_uI σ11 (L 57) x4.toInt.toNat z13 → ∀ z15 : Int32, z15 = x4 + 1 → (0 ≤ z15.toInt ∧ z15.toInt < 80) ∧ ∀ z16 : Int64, z16 = sJ σ14 (L 58) z15.toInt.toNat → (0 ≤ x4.toInt ∧ x4.toInt < 80) ∧ ∀ σ17 : HS, σ17 = h_uJ σ14 (L 58) x4.toInt.toNat z16 → ∀ z18 : Int32, z18 = x4 + 1 → (0 ≤ z18.toInt ∧ z18.toInt < 80) ∧ ∀ z19 : Int64, z19 = sJ σ17 (L 59) z18.toInt.toNat → (0 ≤ x4.toInt ∧ x4.toInt < 80) ∧ ∀ σ20 : HS, σ20 = h_uJ σ17 (L 59) x4.toInt.toNat z19 → ∀ z21 : Int32, z21 = x4 + 1 → (0 ≤ z21.toInt ∧ z21.toInt < 80) ∧ ∀ z22 : Int32, z22 = sI σ20 (L 60) z21.toInt.toNat → (0 ≤ x4.toInt ∧ x4.toInt < 80) ∧ ∀ σ23 : HS, σ23 = h_uI σ20 (L 60) x4.toInt.toNat (vp_nar .boolean z22) → ∀ z24 : Int32, z24 = x4 + 1 → K6 z24 σ23)) a1 σ3
theorem dX12_unlock_0 : decode cX12_unlock 0 = .ok (.aload_n 0, 1) := by decide +kernel
theorem dX12_unlock_1 : decode cX12_unlock 1 = .ok (.dup, 1) := by decide +kernel
theorem dX12_unlock_2 : decode cX12_unlock 2 = .ok (.getfield 289, 3) := by decide +kernel
theorem dX12_unlock_5 : decode cX12_unlock 5 = .ok (.iconst 1, 1) := by decide +kernel
theorem dX12_unlock_6 : decode cX12_unlock 6 = .ok (.isub, 1) := by decide +kernel
theorem dX12_unlock_7 : decode cX12_unlock 7 = .ok (.putfield 289, 3) := by decide +kernel
theorem dX12_unlock_10 : decode cX12_unlock 10 = .ok (.iload_n 1, 1) := by decide +kernel
theorem dX12_unlock_11 : decode cX12_unlock 11 = .ok (.istore_n 2, 1) := by decide +kernel
theorem dX12_unlock_12 : decode cX12_unlock 12 = .ok (.iload_n 2, 1) := by decide +kernel
theorem dX12_unlock_13 : decode cX12_unlock 13 = .ok (.aload_n 0, 1) := by decide +kernel
theorem dX12_unlock_14 : decode cX12_unlock 14 = .ok (.getfield 289, 3) := by decide +kernel
theorem dX12_unlock_17 : decode cX12_unlock 17 = .ok (.if_icmp .ge 79, 3) := by decide +kernel
theorem dX12_unlock_20 : decode cX12_unlock 20 = .ok (.aload_n 0, 1) := by decide +kernel
theorem dX12_unlock_21 : decode cX12_unlock 21 = .ok (.getfield 184, 3) := by decide +kernel
theorem dX12_unlock_24 : decode cX12_unlock 24 = .ok (.iload_n 2, 1) := by decide +kernel
theorem dX12_unlock_25 : decode cX12_unlock 25 = .ok (.aload_n 0, 1) := by decide +kernel
theorem dX12_unlock_26 : decode cX12_unlock 26 = .ok (.getfield 184, 3) := by decide +kernel
theorem dX12_unlock_29 : decode cX12_unlock 29 = .ok (.iload_n 2, 1) := by decide +kernel
theorem dX12_unlock_30 : decode cX12_unlock 30 = .ok (.iconst 1, 1) := by decide +kernel
theorem dX12_unlock_31 : decode cX12_unlock 31 = .ok (.iadd, 1) := by decide +kernel
theorem dX12_unlock_32 : decode cX12_unlock 32 = .ok (.laload, 1) := by decide +kernel
theorem dX12_unlock_33 : decode cX12_unlock 33 = .ok (.lastore, 1) := by decide +kernel
theorem dX12_unlock_34 : decode cX12_unlock 34 = .ok (.aload_n 0, 1) := by decide +kernel
theorem dX12_unlock_35 : decode cX12_unlock 35 = .ok (.getfield 187, 3) := by decide +kernel
theorem dX12_unlock_38 : decode cX12_unlock 38 = .ok (.iload_n 2, 1) := by decide +kernel
theorem dX12_unlock_39 : decode cX12_unlock 39 = .ok (.aload_n 0, 1) := by decide +kernel
theorem dX12_unlock_40 : decode cX12_unlock 40 = .ok (.getfield 187, 3) := by decide +kernel
theorem dX12_unlock_43 : decode cX12_unlock 43 = .ok (.iload_n 2, 1) := by decide +kernel
theorem dX12_unlock_44 : decode cX12_unlock 44 = .ok (.iconst 1, 1) := by decide +kernel
theorem dX12_unlock_45 : decode cX12_unlock 45 = .ok (.iadd, 1) := by decide +kernel
theorem dX12_unlock_46 : decode cX12_unlock 46 = .ok (.iaload, 1) := by decide +kernel
theorem dX12_unlock_47 : decode cX12_unlock 47 = .ok (.iastore, 1) := by decide +kernel
theorem dX12_unlock_48 : decode cX12_unlock 48 = .ok (.aload_n 0, 1) := by decide +kernel
theorem dX12_unlock_49 : decode cX12_unlock 49 = .ok (.getfield 190, 3) := by decide +kernel
theorem dX12_unlock_52 : decode cX12_unlock 52 = .ok (.iload_n 2, 1) := by decide +kernel
theorem dX12_unlock_53 : decode cX12_unlock 53 = .ok (.aload_n 0, 1) := by decide +kernel
theorem dX12_unlock_54 : decode cX12_unlock 54 = .ok (.getfield 190, 3) := by decide +kernel
theorem dX12_unlock_57 : decode cX12_unlock 57 = .ok (.iload_n 2, 1) := by decide +kernel
theorem dX12_unlock_58 : decode cX12_unlock 58 = .ok (.iconst 1, 1) := by decide +kernel
theorem dX12_unlock_59 : decode cX12_unlock 59 = .ok (.iadd, 1) := by decide +kernel
theorem dX12_unlock_60 : decode cX12_unlock 60 = .ok (.laload, 1) := by decide +kernel
theorem dX12_unlock_61 : decode cX12_unlock 61 = .ok (.lastore, 1) := by decide +kernel
theorem dX12_unlock_62 : decode cX12_unlock 62 = .ok (.aload_n 0, 1) := by decide +kernel
theorem dX12_unlock_63 : decode cX12_unlock 63 = .ok (.getfield 193, 3) := by decide +kernel
theorem dX12_unlock_66 : decode cX12_unlock 66 = .ok (.iload_n 2, 1) := by decide +kernel
theorem dX12_unlock_67 : decode cX12_unlock 67 = .ok (.aload_n 0, 1) := by decide +kernel
theorem dX12_unlock_68 : decode cX12_unlock 68 = .ok (.getfield 193, 3) := by decide +kernel
theorem dX12_unlock_71 : decode cX12_unlock 71 = .ok (.iload_n 2, 1) := by decide +kernel
theorem dX12_unlock_72 : decode cX12_unlock 72 = .ok (.iconst 1, 1) := by decide +kernel
theorem dX12_unlock_73 : decode cX12_unlock 73 = .ok (.iadd, 1) := by decide +kernel
theorem dX12_unlock_74 : decode cX12_unlock 74 = .ok (.laload, 1) := by decide +kernel
theorem dX12_unlock_75 : decode cX12_unlock 75 = .ok (.lastore, 1) := by decide +kernel
theorem dX12_unlock_76 : decode cX12_unlock 76 = .ok (.aload_n 0, 1) := by decide +kernel
theorem dX12_unlock_77 : decode cX12_unlock 77 = .ok (.getfield 196, 3) := by decide +kernel
theorem dX12_unlock_80 : decode cX12_unlock 80 = .ok (.iload_n 2, 1) := by decide +kernel
theorem dX12_unlock_81 : decode cX12_unlock 81 = .ok (.aload_n 0, 1) := by decide +kernel
theorem dX12_unlock_82 : decode cX12_unlock 82 = .ok (.getfield 196, 3) := by decide +kernel
theorem dX12_unlock_85 : decode cX12_unlock 85 = .ok (.iload_n 2, 1) := by decide +kernel
theorem dX12_unlock_86 : decode cX12_unlock 86 = .ok (.iconst 1, 1) := by decide +kernel
theorem dX12_unlock_87 : decode cX12_unlock 87 = .ok (.iadd, 1) := by decide +kernel
theorem dX12_unlock_88 : decode cX12_unlock 88 = .ok (.baload, 1) := by decide +kernel
theorem dX12_unlock_89 : decode cX12_unlock 89 = .ok (.bastore, 1) := by decide +kernel
theorem dX12_unlock_90 : decode cX12_unlock 90 = .ok (.iinc 2 1, 3) := by decide +kernel
theorem dX12_unlock_93 : decode cX12_unlock 93 = .ok (.goto (-81), 3) := by decide +kernel
theorem dX12_unlock_96 : decode cX12_unlock 96 = .ok (.return_, 1) := by decide +kernel
set_option maxRecDepth 100000 in
set_option maxHeartbeats 4000000 in
theorem c_X12_unlock (l : Launch) (D : va_G) (t : Nat → ClassId) (h0 : Nat) (L : Nat → Nat) (σ : HS) (hM : MdI h0 L σ) (a1 : Int32) (post : HS → Prop) (hw : F_X12_unlock h0 L a1 post σ) (sz : Nat) : RMv l D t yX12_unlock cX12_unlock 3 ({ frames := 0, cells := 0, slots := 0, locals := 0 }) h0 L σ sz [.ref h0, .int a1] post := by
  refine h_go (τ := τT) okT (by decide) (Nat.le_of_ble_eq_true rfl) ?_
  intro p e s m below meth c ls A hF hr hlk hAe hH0 hA hl
  unfold hB
  rw [hAe]
  clear hAe
  have hF : FX p m c cX12_unlock 3 s _ RX12 D t := hF
  have hx := hF.1.1
  have hb := hF.1.2.1
  have hH : RT D t A s.heap h0 L σ s.heap [] := ⟨hH0, hM⟩
  have hl : lv_has ls 3 [(0, .ref h0), (1, .int a1)] := hl
  unfold F_X12_unlock at hw
  refine lv_aload_n hx hb dX12_unlock_0 rfl (lv_at hl 0 rfl) ?_
  refine lv_dup hx hb dX12_unlock_1 rfl ?_
  refine w_getI hF hH fk_X12_289 dX12_unlock_2 hw (fun z1 hw => ?_)
  refine lv_iconst (v := 1) hx hb dX12_unlock_5 (by decide) ?_
  refine lv_isub hx hb dX12_unlock_6 ?_
  refine w_nmi hw (fun z2 hw => ?_)
  refine w_putI hF hH fk_X12_289 dX12_unlock_7 rfl rfl rfl hw (fun σ3 H locs hw hH => ?_)
  refine lv_iload_n hx hb dX12_unlock_10 rfl (lv_at hl 1 rfl) ?_
  refine lv_istore_n (lv' := [(2, .int a1), (0, .ref h0), (1, .int a1)]) hx hb dX12_unlock_11 rfl hl (by decide) rfl (fun ls hl => ?_)
  have hl : lv_has ls 3 [(2, .int a1), (0, .ref h0)] := lv_sub hl [0, 1] rfl
  refine w_loop (β := Int32) (fun x4 => [(2, .int x4), (0, .ref h0)]) a1 hl hw hH (fun K6 x4 σ5 ls H locs hl hw hH ih7 => ?_)
  have hl : lv_has ls 3 [(2, .int x4), (0, .ref h0)] := hl
  refine lv_iload_n hx hb dX12_unlock_12 rfl (lv_at hl 0 rfl) ?_
  refine lv_aload_n hx hb dX12_unlock_13 rfl (lv_at hl 1 rfl) ?_
  refine w_getI hF hH fk_X12_289 dX12_unlock_14 hw (fun z8 hw => ?_)
  refine w_icmp_ge (tgt := 96) hF dX12_unlock_17 rfl hw (fun hw => ?_) (fun hw => ?_)
  · exact w_retv hF hH hr hlk dX12_unlock_96 hw
  · refine lv_aload_n hx hb dX12_unlock_20 rfl (lv_at hl 1 rfl) ?_
    refine w_getA 56 hF hH fk_X12_184 dX12_unlock_21 (by decide) rfl ?_
    refine lv_iload_n hx hb dX12_unlock_24 rfl (lv_at hl 0 rfl) ?_
    refine lv_aload_n hx hb dX12_unlock_25 rfl (lv_at hl 1 rfl) ?_
    refine w_getA 56 hF hH fk_X12_184 dX12_unlock_26 (by decide) rfl ?_
    refine lv_iload_n hx hb dX12_unlock_29 rfl (lv_at hl 0 rfl) ?_
    refine lv_iconst (v := 1) hx hb dX12_unlock_30 (by decide) ?_
    refine lv_iadd hx hb dX12_unlock_31 ?_
    refine w_nmi hw (fun z9 hw => ?_)
    refine w_lald 56 80 hF hH dX12_unlock_32 (by decide) rfl rfl hw (fun z10 hw => ?_)
    refine w_last 56 80 hF hH dX12_unlock_33 (by decide) rfl rfl hw (fun σ11 H locs hw hH => ?_)
    refine lv_aload_n hx hb dX12_unlock_34 rfl (lv_at hl 1 rfl) ?_
    refine w_getA 57 hF hH fk_X12_187 dX12_unlock_35 (by decide) rfl ?_
    refine lv_iload_n hx hb dX12_unlock_38 rfl (lv_at hl 0 rfl) ?_
    refine lv_aload_n hx hb dX12_unlock_39 rfl (lv_at hl 1 rfl) ?_
    refine w_getA 57 hF hH fk_X12_187 dX12_unlock_40 (by decide) rfl ?_
    refine lv_iload_n hx hb dX12_unlock_43 rfl (lv_at hl 0 rfl) ?_
    refine lv_iconst (v := 1) hx hb dX12_unlock_44 (by decide) ?_
    refine lv_iadd hx hb dX12_unlock_45 ?_
    refine w_nmi hw (fun z12 hw => ?_)
    refine w_iald 57 80 hF hH dX12_unlock_46 (by decide) rfl rfl hw (fun z13 hw => ?_)
    refine w_iast 57 80 hF hH dX12_unlock_47 (by decide) rfl rfl hw (fun σ14 H locs hw hH => ?_)
    refine lv_aload_n hx hb dX12_unlock_48 rfl (lv_at hl 1 rfl) ?_
    refine w_getA 58 hF hH fk_X12_190 dX12_unlock_49 (by decide) rfl ?_
    refine lv_iload_n hx hb dX12_unlock_52 rfl (lv_at hl 0 rfl) ?_
    refine lv_aload_n hx hb dX12_unlock_53 rfl (lv_at hl 1 rfl) ?_
    refine w_getA 58 hF hH fk_X12_190 dX12_unlock_54 (by decide) rfl ?_
    refine lv_iload_n hx hb dX12_unlock_57 rfl (lv_at hl 0 rfl) ?_
    refine lv_iconst (v := 1) hx hb dX12_unlock_58 (by decide) ?_
    refine lv_iadd hx hb dX12_unlock_59 ?_
    refine w_nmi hw (fun z15 hw => ?_)
    refine w_lald 58 80 hF hH dX12_unlock_60 (by decide) rfl rfl hw (fun z16 hw => ?_)
    refine w_last 58 80 hF hH dX12_unlock_61 (by decide) rfl rfl hw (fun σ17 H locs hw hH => ?_)
    refine lv_aload_n hx hb dX12_unlock_62 rfl (lv_at hl 1 rfl) ?_
    refine w_getA 59 hF hH fk_X12_193 dX12_unlock_63 (by decide) rfl ?_
    refine lv_iload_n hx hb dX12_unlock_66 rfl (lv_at hl 0 rfl) ?_
    refine lv_aload_n hx hb dX12_unlock_67 rfl (lv_at hl 1 rfl) ?_
    refine w_getA 59 hF hH fk_X12_193 dX12_unlock_68 (by decide) rfl ?_
    refine lv_iload_n hx hb dX12_unlock_71 rfl (lv_at hl 0 rfl) ?_
    refine lv_iconst (v := 1) hx hb dX12_unlock_72 (by decide) ?_
    refine lv_iadd hx hb dX12_unlock_73 ?_
    refine w_nmi hw (fun z18 hw => ?_)
    refine w_lald 59 80 hF hH dX12_unlock_74 (by decide) rfl rfl hw (fun z19 hw => ?_)
    refine w_last 59 80 hF hH dX12_unlock_75 (by decide) rfl rfl hw (fun σ20 H locs hw hH => ?_)
    refine lv_aload_n hx hb dX12_unlock_76 rfl (lv_at hl 1 rfl) ?_
    refine w_getA 60 hF hH fk_X12_196 dX12_unlock_77 (by decide) rfl ?_
    refine lv_iload_n hx hb dX12_unlock_80 rfl (lv_at hl 0 rfl) ?_
    refine lv_aload_n hx hb dX12_unlock_81 rfl (lv_at hl 1 rfl) ?_
    refine w_getA 60 hF hH fk_X12_196 dX12_unlock_82 (by decide) rfl ?_
    refine lv_iload_n hx hb dX12_unlock_85 rfl (lv_at hl 0 rfl) ?_
    refine lv_iconst (v := 1) hx hb dX12_unlock_86 (by decide) ?_
    refine lv_iadd hx hb dX12_unlock_87 ?_
    refine w_nmi hw (fun z21 hw => ?_)
    refine w_zald 60 80 hF hH dX12_unlock_88 (by decide) rfl rfl hw (fun z22 hw => ?_)
    refine w_zast 60 80 hF hH dX12_unlock_89 (by decide) rfl rfl hw (fun σ23 H locs hw hH => ?_)
    obtain ⟨z24, ez24⟩ : ∃ z : Int32, z = x4 + 1 := ⟨_, rfl⟩
    have hw := hw z24 ez24
    refine lv_iinc (lv' := [(2, .int z24), (0, .ref h0)]) (k := 0) (v := z24) hx hb dX12_unlock_90 hl rfl ez24.symm (by decide) rfl (fun ls hl => ?_)
    refine lv_goto (tgt := 12) hx hb dX12_unlock_93 rfl ?_
    exact ih7 z24 σ23 ls _ _ hl hw hH
def F_X12_isOpened (h0 : Nat) (L : Nat → Nat) (a1 : Int32) (post : Int32 → HS → Prop) (σ : HS) : Prop := lw (fun (K3 : (Int32 × Int32) → HS → Prop) (x1 : Int32 × Int32) (σ2 : HS) => (((40 : Int32).toInt ≤ x1.1.toInt) → (0 ≤ x1.2.toInt ∧ x1.2.toInt ≤ 1) ∧ post x1.2 σ2) ∧ ((x1.1.toInt < (40 : Int32).toInt) → (0 ≤ x1.1.toInt ∧ x1.1.toInt < 40) ∧ ∀ z5 : Int64, z5 = sJ σ2 (L 41) x1.1.toInt.toNat → jn (fun (K8 : Int32 → HS → Prop) => jn (fun (K15 : Unit → HS → Prop) => ((z5.toInt ≤ (0 : Int64).toInt) → K15 () σ2) ∧ (((0 : Int64).toInt < z5.toInt) → (0 ≤ x1.1.toInt ∧ x1.1.toInt < 40) ∧ ∀ z18 : Int32, z18 = sI σ2 (L 43) x1.1.toInt.toNat → ((¬ z18.toInt = a1.toInt) → K15 () σ2) ∧ ((z18.toInt = a1.toInt) → K8 1 σ2))) (fun (x13 : Unit) (σ14 : HS) => K8 0 σ14)) (fun (x6 : Int32) (σ7 : HS) => ∀ z11 : Int32, z11 = x1.2 ||| x6 → ∀ z12 : Int32, z12 = x1.1 + 1 → K3 (z12, z11) σ7))) (0, 0) σ
theorem dX12_isOpened_0 : decode cX12_isOpened 0 = .ok (.iconst 0, 1) := by decide +kernel
theorem dX12_isOpened_1 : decode cX12_isOpened 1 = .ok (.istore_n 2, 1) := by decide +kernel
theorem dX12_isOpened_2 : decode cX12_isOpened 2 = .ok (.iconst 0, 1) := by decide +kernel
theorem dX12_isOpened_3 : decode cX12_isOpened 3 = .ok (.istore_n 3, 1) := by decide +kernel
theorem dX12_isOpened_4 : decode cX12_isOpened 4 = .ok (.iload_n 3, 1) := by decide +kernel
theorem dX12_isOpened_5 : decode cX12_isOpened 5 = .ok (.bipush 40, 2) := by decide +kernel
theorem dX12_isOpened_7 : decode cX12_isOpened 7 = .ok (.if_icmp .ge 38, 3) := by decide +kernel
theorem dX12_isOpened_10 : decode cX12_isOpened 10 = .ok (.iload_n 2, 1) := by decide +kernel
theorem dX12_isOpened_11 : decode cX12_isOpened 11 = .ok (.aload_n 0, 1) := by decide +kernel
theorem dX12_isOpened_12 : decode cX12_isOpened 12 = .ok (.getfield 139, 3) := by decide +kernel
theorem dX12_isOpened_15 : decode cX12_isOpened 15 = .ok (.iload_n 3, 1) := by decide +kernel
theorem dX12_isOpened_16 : decode cX12_isOpened 16 = .ok (.laload, 1) := by decide +kernel
theorem dX12_isOpened_17 : decode cX12_isOpened 17 = .ok (.lconst 0, 1) := by decide +kernel
theorem dX12_isOpened_18 : decode cX12_isOpened 18 = .ok (.lcmp, 1) := by decide +kernel
theorem dX12_isOpened_19 : decode cX12_isOpened 19 = .ok (.ifCond .le 17, 3) := by decide +kernel
theorem dX12_isOpened_22 : decode cX12_isOpened 22 = .ok (.aload_n 0, 1) := by decide +kernel
theorem dX12_isOpened_23 : decode cX12_isOpened 23 = .ok (.getfield 145, 3) := by decide +kernel
theorem dX12_isOpened_26 : decode cX12_isOpened 26 = .ok (.iload_n 3, 1) := by decide +kernel
theorem dX12_isOpened_27 : decode cX12_isOpened 27 = .ok (.iaload, 1) := by decide +kernel
theorem dX12_isOpened_28 : decode cX12_isOpened 28 = .ok (.iload_n 1, 1) := by decide +kernel
theorem dX12_isOpened_29 : decode cX12_isOpened 29 = .ok (.if_icmp .ne 7, 3) := by decide +kernel
theorem dX12_isOpened_32 : decode cX12_isOpened 32 = .ok (.iconst 1, 1) := by decide +kernel
theorem dX12_isOpened_33 : decode cX12_isOpened 33 = .ok (.goto 4, 3) := by decide +kernel
theorem dX12_isOpened_36 : decode cX12_isOpened 36 = .ok (.iconst 0, 1) := by decide +kernel
theorem dX12_isOpened_37 : decode cX12_isOpened 37 = .ok (.ior, 1) := by decide +kernel
theorem dX12_isOpened_38 : decode cX12_isOpened 38 = .ok (.istore_n 2, 1) := by decide +kernel
theorem dX12_isOpened_39 : decode cX12_isOpened 39 = .ok (.iinc 3 1, 3) := by decide +kernel
theorem dX12_isOpened_42 : decode cX12_isOpened 42 = .ok (.goto (-38), 3) := by decide +kernel
theorem dX12_isOpened_45 : decode cX12_isOpened 45 = .ok (.iload_n 2, 1) := by decide +kernel
theorem dX12_isOpened_46 : decode cX12_isOpened 46 = .ok (.ireturn, 1) := by decide +kernel
set_option maxRecDepth 100000 in
set_option maxHeartbeats 4000000 in
theorem c_X12_isOpened (l : Launch) (D : va_G) (t : Nat → ClassId) (h0 : Nat) (L : Nat → Nat) (σ : HS) (hM : MdI h0 L σ) (a1 : Int32) (post : Int32 → HS → Prop) (hw : F_X12_isOpened h0 L a1 post σ) (sz : Nat) : RMi l D t yX12_isOpened cX12_isOpened 4 (some .boolean) ({ frames := 0, cells := 0, slots := 0, locals := 0 }) h0 L σ sz [.ref h0, .int a1] post := by
  refine h_go (τ := τT) okT (by decide) (Nat.le_of_ble_eq_true rfl) ?_
  intro p e s m below meth c ls A hF hr hlk hAe hH0 hA hl
  unfold hB
  rw [hAe]
  clear hAe
  have hF : FX p m c cX12_isOpened 4 s _ RX12 D t := hF
  have hx := hF.1.1
  have hb := hF.1.2.1
  have hH : RT D t A s.heap h0 L σ s.heap [] := ⟨hH0, hM⟩
  have hl : lv_has ls 4 [(0, .ref h0), (1, .int a1)] := hl
  unfold F_X12_isOpened at hw
  refine lv_iconst (v := 0) hx hb dX12_isOpened_0 (by decide) ?_
  refine lv_istore_n (lv' := [(2, .int 0), (0, .ref h0), (1, .int a1)]) hx hb dX12_isOpened_1 rfl hl (by decide) rfl (fun ls hl => ?_)
  refine lv_iconst (v := 0) hx hb dX12_isOpened_2 (by decide) ?_
  refine lv_istore_n (lv' := [(3, .int 0), (2, .int 0), (0, .ref h0), (1, .int a1)]) hx hb dX12_isOpened_3 rfl hl (by decide) rfl (fun ls hl => ?_)
  have hl : lv_has ls 4 [(3, .int 0), (2, .int 0), (1, .int a1), (0, .ref h0)] := lv_sub hl [0, 1, 3, 2] rfl
  refine w_loop (β := Int32 × Int32) (fun x1 => [(3, .int x1.1), (2, .int x1.2), (1, .int a1), (0, .ref h0)]) (0, 0) hl hw hH (fun K3 x1 σ2 ls H locs hl hw hH ih4 => ?_)
  have hl : lv_has ls 4 [(3, .int x1.1), (2, .int x1.2), (1, .int a1), (0, .ref h0)] := hl
  refine lv_iload_n hx hb dX12_isOpened_4 rfl (lv_at hl 0 rfl) ?_
  refine lv_bipush (v := 40) hx hb dX12_isOpened_5 (by decide) ?_
  refine w_icmp_ge (tgt := 45) hF dX12_isOpened_7 rfl hw (fun hw => ?_) (fun hw => ?_)
  · refine lv_iload_n hx hb dX12_isOpened_45 rfl (lv_at hl 1 rfl) ?_
    exact w_retz hF hH hr hlk dX12_isOpened_46 hw
  · refine lv_iload_n hx hb dX12_isOpened_10 rfl (lv_at hl 1 rfl) ?_
    refine lv_aload_n hx hb dX12_isOpened_11 rfl (lv_at hl 3 rfl) ?_
    refine w_getA 41 hF hH fk_X12_139 dX12_isOpened_12 (by decide) rfl ?_
    refine lv_iload_n hx hb dX12_isOpened_15 rfl (lv_at hl 0 rfl) ?_
    refine w_lald 41 40 hF hH dX12_isOpened_16 (by decide) rfl rfl hw (fun z5 hw => ?_)
    refine lv_lconst (v := 0) hx hb dX12_isOpened_17 (by decide) ?_
    obtain ⟨K8, hK9, hw⟩ := jn_open hw
    refine w_join (K := K8) 37 (fun (x6 : Int32) => [(3, .int x1.1), (1, .int a1), (0, .ref h0)]) (fun (x6 : Int32) => [.int x6, .int x1.2]) hl hH (fun x6 σ7 ls H locs hl hw hH => ?_) (fun jn10 => ?_)
    · have hw := hK9 x6 σ7 hw
      have hl : lv_has ls 4 [(3, .int x1.1), (1, .int a1), (0, .ref h0)] := hl
      refine lv_ior hx hb dX12_isOpened_37 ?_
      refine w_nmi hw (fun z11 hw => ?_)
      refine lv_istore_n (lv' := [(2, .int z11), (3, .int x1.1), (1, .int a1), (0, .ref h0)]) hx hb dX12_isOpened_38 rfl hl (by decide) rfl (fun ls hl => ?_)
      obtain ⟨z12, ez12⟩ : ∃ z : Int32, z = x1.1 + 1 := ⟨_, rfl⟩
      have hw := hw z12 ez12
      refine lv_iinc (lv' := [(3, .int z12), (2, .int z11), (1, .int a1), (0, .ref h0)]) (k := 1) (v := z12) hx hb dX12_isOpened_39 hl rfl ez12.symm (by decide) rfl (fun ls hl => ?_)
      refine lv_goto (tgt := 4) hx hb dX12_isOpened_42 rfl ?_
      exact ih4 (z12, z11) σ7 ls _ _ hl hw hH
    · skip
      obtain ⟨K15, hK16, hw⟩ := jn_open hw
      refine w_join (K := K15) 36 (fun (x13 : Unit) => [(3, .int x1.1), (1, .int a1), (0, .ref h0)]) (fun (x13 : Unit) => [.int x1.2]) hl hH (fun x13 σ14 ls H locs hl hw hH => ?_) (fun jn17 => ?_)
      · have hw := hK16 x13 σ14 hw
        have hl : lv_has ls 4 [(3, .int x1.1), (1, .int a1), (0, .ref h0)] := hl
        refine lv_iconst (v := 0) hx hb dX12_isOpened_36 (by decide) ?_
        exact jn10 0 σ14 ls _ _ hl hw hH
      · skip
        refine w_lif_le (tgt := 36) hF dX12_isOpened_18 dX12_isOpened_19 rfl hw (fun hw => ?_) (fun hw => ?_)
        · have hl : lv_has ls 4 [(3, .int x1.1), (1, .int a1), (0, .ref h0)] := lv_sub hl [0, 2, 3] rfl
          exact jn17 () σ2 ls _ _ hl hw hH
        · refine lv_aload_n hx hb dX12_isOpened_22 rfl (lv_at hl 3 rfl) ?_
          refine w_getA 43 hF hH fk_X12_145 dX12_isOpened_23 (by decide) rfl ?_
          refine lv_iload_n hx hb dX12_isOpened_26 rfl (lv_at hl 0 rfl) ?_
          refine w_iald 43 40 hF hH dX12_isOpened_27 (by decide) rfl rfl hw (fun z18 hw => ?_)
          refine lv_iload_n hx hb dX12_isOpened_28 rfl (lv_at hl 2 rfl) ?_
          refine w_icmp_ne (tgt := 36) hF dX12_isOpened_29 rfl hw (fun hw => ?_) (fun hw => ?_)
          · have hl : lv_has ls 4 [(3, .int x1.1), (1, .int a1), (0, .ref h0)] := lv_sub hl [0, 2, 3] rfl
            exact jn17 () σ2 ls _ _ hl hw hH
          · refine lv_iconst (v := 1) hx hb dX12_isOpened_32 (by decide) ?_
            refine lv_goto (tgt := 37) hx hb dX12_isOpened_33 rfl ?_
            have hl : lv_has ls 4 [(3, .int x1.1), (1, .int a1), (0, .ref h0)] := lv_sub hl [0, 2, 3] rfl
            exact jn10 1 σ2 ls _ _ hl hw hH
def F_X12_isEmpty (h0 : Nat) (L : Nat → Nat) (a1 : Int32) (post : Int32 → HS → Prop) (σ : HS) : Prop := lw (fun (K3 : (Int32 × Int32) → HS → Prop) (x1 : Int32 × Int32) (σ2 : HS) => (((80 : Int32).toInt ≤ x1.1.toInt) → jn (fun (K7 : Int32 → HS → Prop) => ((¬ x1.2.toInt = 0) → K7 0 σ2) ∧ ((x1.2.toInt = 0) → K7 1 σ2)) (fun (x5 : Int32) (σ6 : HS) => (0 ≤ x5.toInt ∧ x5.toInt ≤ 1) ∧ post x5 σ6)) ∧ ((x1.1.toInt < (80 : Int32).toInt) → (0 ≤ x1.1.toInt ∧ x1.1.toInt < 160) ∧ ∀ z10 : Int32, z10 = sI σ2 (L 1) x1.1.toInt.toNat → jn (fun (K13 : Int32 → HS → Prop) => jn (fun (K20 : Unit → HS → Prop) => ((z10.toInt = 0) → K20 () σ2) ∧ ((¬ z10.toInt = 0) → (0 ≤ x1.1.toInt ∧ x1.1.toInt < 160) ∧ ∀ z23 : Int32, z23 = sI σ2 (L 2) x1.1.toInt.toNat → ((¬ z23.toInt = a1.toInt) → K20 () σ2) ∧ ((z23.toInt = a1.toInt) → K13 1 σ2))) (fun (x18 : Unit) (σ19 : HS) => K13 0 σ19)) (fun (x11 : Int32) (σ12 : HS) => ∀ z16 : Int32, z16 = x1.2 ||| x11 → ∀ z17 : Int32, z17 = x1.1 + 1 → K3 (z17, z16) σ12))) (0, 0) σ
theorem dX12_isEmpty_0 : decode cX12_isEmpty 0 = .ok (.iconst 0, 1) := by decide +kernel
theorem dX12_isEmpty_1 : decode cX12_isEmpty 1 = .ok (.istore_n 2, 1) := by decide +kernel
theorem dX12_isEmpty_2 : decode cX12_isEmpty 2 = .ok (.iconst 0, 1) := by decide +kernel
theorem dX12_isEmpty_3 : decode cX12_isEmpty 3 = .ok (.istore_n 3, 1) := by decide +kernel
theorem dX12_isEmpty_4 : decode cX12_isEmpty 4 = .ok (.iload_n 3, 1) := by decide +kernel
theorem dX12_isEmpty_5 : decode cX12_isEmpty 5 = .ok (.bipush 80, 2) := by decide +kernel
theorem dX12_isEmpty_7 : decode cX12_isEmpty 7 = .ok (.if_icmp .ge 36, 3) := by decide +kernel
theorem dX12_isEmpty_10 : decode cX12_isEmpty 10 = .ok (.iload_n 2, 1) := by decide +kernel
theorem dX12_isEmpty_11 : decode cX12_isEmpty 11 = .ok (.aload_n 0, 1) := by decide +kernel
theorem dX12_isEmpty_12 : decode cX12_isEmpty 12 = .ok (.getfield 13, 3) := by decide +kernel
theorem dX12_isEmpty_15 : decode cX12_isEmpty 15 = .ok (.iload_n 3, 1) := by decide +kernel
theorem dX12_isEmpty_16 : decode cX12_isEmpty 16 = .ok (.baload, 1) := by decide +kernel
theorem dX12_isEmpty_17 : decode cX12_isEmpty 17 = .ok (.ifCond .eq 17, 3) := by decide +kernel
theorem dX12_isEmpty_20 : decode cX12_isEmpty 20 = .ok (.aload_n 0, 1) := by decide +kernel
theorem dX12_isEmpty_21 : decode cX12_isEmpty 21 = .ok (.getfield 17, 3) := by decide +kernel
theorem dX12_isEmpty_24 : decode cX12_isEmpty 24 = .ok (.iload_n 3, 1) := by decide +kernel
theorem dX12_isEmpty_25 : decode cX12_isEmpty 25 = .ok (.iaload, 1) := by decide +kernel
theorem dX12_isEmpty_26 : decode cX12_isEmpty 26 = .ok (.iload_n 1, 1) := by decide +kernel
theorem dX12_isEmpty_27 : decode cX12_isEmpty 27 = .ok (.if_icmp .ne 7, 3) := by decide +kernel
theorem dX12_isEmpty_30 : decode cX12_isEmpty 30 = .ok (.iconst 1, 1) := by decide +kernel
theorem dX12_isEmpty_31 : decode cX12_isEmpty 31 = .ok (.goto 4, 3) := by decide +kernel
theorem dX12_isEmpty_34 : decode cX12_isEmpty 34 = .ok (.iconst 0, 1) := by decide +kernel
theorem dX12_isEmpty_35 : decode cX12_isEmpty 35 = .ok (.ior, 1) := by decide +kernel
theorem dX12_isEmpty_36 : decode cX12_isEmpty 36 = .ok (.istore_n 2, 1) := by decide +kernel
theorem dX12_isEmpty_37 : decode cX12_isEmpty 37 = .ok (.iinc 3 1, 3) := by decide +kernel
theorem dX12_isEmpty_40 : decode cX12_isEmpty 40 = .ok (.goto (-36), 3) := by decide +kernel
theorem dX12_isEmpty_43 : decode cX12_isEmpty 43 = .ok (.iload_n 2, 1) := by decide +kernel
theorem dX12_isEmpty_44 : decode cX12_isEmpty 44 = .ok (.ifCond .ne 7, 3) := by decide +kernel
theorem dX12_isEmpty_47 : decode cX12_isEmpty 47 = .ok (.iconst 1, 1) := by decide +kernel
theorem dX12_isEmpty_48 : decode cX12_isEmpty 48 = .ok (.goto 4, 3) := by decide +kernel
theorem dX12_isEmpty_51 : decode cX12_isEmpty 51 = .ok (.iconst 0, 1) := by decide +kernel
theorem dX12_isEmpty_52 : decode cX12_isEmpty 52 = .ok (.ireturn, 1) := by decide +kernel
set_option maxRecDepth 100000 in
set_option maxHeartbeats 4000000 in
theorem c_X12_isEmpty (l : Launch) (D : va_G) (t : Nat → ClassId) (h0 : Nat) (L : Nat → Nat) (σ : HS) (hM : MdI h0 L σ) (a1 : Int32) (post : Int32 → HS → Prop) (hw : F_X12_isEmpty h0 L a1 post σ) (sz : Nat) : RMi l D t yX12_isEmpty cX12_isEmpty 4 (some .boolean) ({ frames := 0, cells := 0, slots := 0, locals := 0 }) h0 L σ sz [.ref h0, .int a1] post := by
  refine h_go (τ := τT) okT (by decide) (Nat.le_of_ble_eq_true rfl) ?_
  intro p e s m below meth c ls A hF hr hlk hAe hH0 hA hl
  unfold hB
  rw [hAe]
  clear hAe
  have hF : FX p m c cX12_isEmpty 4 s _ RX12 D t := hF
  have hx := hF.1.1
  have hb := hF.1.2.1
  have hH : RT D t A s.heap h0 L σ s.heap [] := ⟨hH0, hM⟩
  have hl : lv_has ls 4 [(0, .ref h0), (1, .int a1)] := hl
  unfold F_X12_isEmpty at hw
  refine lv_iconst (v := 0) hx hb dX12_isEmpty_0 (by decide) ?_
  refine lv_istore_n (lv' := [(2, .int 0), (0, .ref h0), (1, .int a1)]) hx hb dX12_isEmpty_1 rfl hl (by decide) rfl (fun ls hl => ?_)
  refine lv_iconst (v := 0) hx hb dX12_isEmpty_2 (by decide) ?_
  refine lv_istore_n (lv' := [(3, .int 0), (2, .int 0), (0, .ref h0), (1, .int a1)]) hx hb dX12_isEmpty_3 rfl hl (by decide) rfl (fun ls hl => ?_)
  have hl : lv_has ls 4 [(3, .int 0), (2, .int 0), (1, .int a1), (0, .ref h0)] := lv_sub hl [0, 1, 3, 2] rfl
  refine w_loop (β := Int32 × Int32) (fun x1 => [(3, .int x1.1), (2, .int x1.2), (1, .int a1), (0, .ref h0)]) (0, 0) hl hw hH (fun K3 x1 σ2 ls H locs hl hw hH ih4 => ?_)
  have hl : lv_has ls 4 [(3, .int x1.1), (2, .int x1.2), (1, .int a1), (0, .ref h0)] := hl
  refine lv_iload_n hx hb dX12_isEmpty_4 rfl (lv_at hl 0 rfl) ?_
  refine lv_bipush (v := 80) hx hb dX12_isEmpty_5 (by decide) ?_
  refine w_icmp_ge (tgt := 43) hF dX12_isEmpty_7 rfl hw (fun hw => ?_) (fun hw => ?_)
  · refine lv_iload_n hx hb dX12_isEmpty_43 rfl (lv_at hl 1 rfl) ?_
    obtain ⟨K7, hK8, hw⟩ := jn_open hw
    refine w_join (K := K7) 52 (fun (x5 : Int32) => []) (fun (x5 : Int32) => [.int x5]) hl hH (fun x5 σ6 ls H locs hl hw hH => ?_) (fun jn9 => ?_)
    · have hw := hK8 x5 σ6 hw
      have hl : lv_has ls 4 [] := hl
      exact w_retz hF hH hr hlk dX12_isEmpty_52 hw
    · skip
      refine w_if_ne (tgt := 51) hF dX12_isEmpty_44 rfl hw (fun hw => ?_) (fun hw => ?_)
      · refine lv_iconst (v := 0) hx hb dX12_isEmpty_51 (by decide) ?_
        have hl : lv_has ls 4 [] := lv_sub hl [] rfl
        exact jn9 0 σ2 ls _ _ hl hw hH
      · refine lv_iconst (v := 1) hx hb dX12_isEmpty_47 (by decide) ?_
        refine lv_goto (tgt := 52) hx hb dX12_isEmpty_48 rfl ?_
        have hl : lv_has ls 4 [] := lv_sub hl [] rfl
        exact jn9 1 σ2 ls _ _ hl hw hH
  · refine lv_iload_n hx hb dX12_isEmpty_10 rfl (lv_at hl 1 rfl) ?_
    refine lv_aload_n hx hb dX12_isEmpty_11 rfl (lv_at hl 3 rfl) ?_
    refine w_getA 1 hF hH fk_X12_13 dX12_isEmpty_12 (by decide) rfl ?_
    refine lv_iload_n hx hb dX12_isEmpty_15 rfl (lv_at hl 0 rfl) ?_
    refine w_zald 1 160 hF hH dX12_isEmpty_16 (by decide) rfl rfl hw (fun z10 hw => ?_)
    obtain ⟨K13, hK14, hw⟩ := jn_open hw
    refine w_join (K := K13) 35 (fun (x11 : Int32) => [(3, .int x1.1), (1, .int a1), (0, .ref h0)]) (fun (x11 : Int32) => [.int x11, .int x1.2]) hl hH (fun x11 σ12 ls H locs hl hw hH => ?_) (fun jn15 => ?_)
    · have hw := hK14 x11 σ12 hw
      have hl : lv_has ls 4 [(3, .int x1.1), (1, .int a1), (0, .ref h0)] := hl
      refine lv_ior hx hb dX12_isEmpty_35 ?_
      refine w_nmi hw (fun z16 hw => ?_)
      refine lv_istore_n (lv' := [(2, .int z16), (3, .int x1.1), (1, .int a1), (0, .ref h0)]) hx hb dX12_isEmpty_36 rfl hl (by decide) rfl (fun ls hl => ?_)
      obtain ⟨z17, ez17⟩ : ∃ z : Int32, z = x1.1 + 1 := ⟨_, rfl⟩
      have hw := hw z17 ez17
      refine lv_iinc (lv' := [(3, .int z17), (2, .int z16), (1, .int a1), (0, .ref h0)]) (k := 1) (v := z17) hx hb dX12_isEmpty_37 hl rfl ez17.symm (by decide) rfl (fun ls hl => ?_)
      refine lv_goto (tgt := 4) hx hb dX12_isEmpty_40 rfl ?_
      exact ih4 (z17, z16) σ12 ls _ _ hl hw hH
    · skip
      obtain ⟨K20, hK21, hw⟩ := jn_open hw
      refine w_join (K := K20) 34 (fun (x18 : Unit) => [(3, .int x1.1), (1, .int a1), (0, .ref h0)]) (fun (x18 : Unit) => [.int x1.2]) hl hH (fun x18 σ19 ls H locs hl hw hH => ?_) (fun jn22 => ?_)
      · have hw := hK21 x18 σ19 hw
        have hl : lv_has ls 4 [(3, .int x1.1), (1, .int a1), (0, .ref h0)] := hl
        refine lv_iconst (v := 0) hx hb dX12_isEmpty_34 (by decide) ?_
        exact jn15 0 σ19 ls _ _ hl hw hH
      · skip
        refine w_if_eq (tgt := 34) hF dX12_isEmpty_17 rfl hw (fun hw => ?_) (fun hw => ?_)
        · have hl : lv_has ls 4 [(3, .int x1.1), (1, .int a1), (0, .ref h0)] := lv_sub hl [0, 2, 3] rfl
          exact jn22 () σ2 ls _ _ hl hw hH
        · refine lv_aload_n hx hb dX12_isEmpty_20 rfl (lv_at hl 3 rfl) ?_
          refine w_getA 2 hF hH fk_X12_17 dX12_isEmpty_21 (by decide) rfl ?_
          refine lv_iload_n hx hb dX12_isEmpty_24 rfl (lv_at hl 0 rfl) ?_
          refine w_iald 2 160 hF hH dX12_isEmpty_25 (by decide) rfl rfl hw (fun z23 hw => ?_)
          refine lv_iload_n hx hb dX12_isEmpty_26 rfl (lv_at hl 2 rfl) ?_
          refine w_icmp_ne (tgt := 34) hF dX12_isEmpty_27 rfl hw (fun hw => ?_) (fun hw => ?_)
          · have hl : lv_has ls 4 [(3, .int x1.1), (1, .int a1), (0, .ref h0)] := lv_sub hl [0, 2, 3] rfl
            exact jn22 () σ2 ls _ _ hl hw hH
          · refine lv_iconst (v := 1) hx hb dX12_isEmpty_30 (by decide) ?_
            refine lv_goto (tgt := 35) hx hb dX12_isEmpty_31 rfl ?_
            have hl : lv_has ls 4 [(3, .int x1.1), (1, .int a1), (0, .ref h0)] := lv_sub hl [0, 2, 3] rfl
            exact jn15 1 σ2 ls _ _ hl hw hH
def F_X12_meet (h0 : Nat) (L : Nat → Nat) (a0 : Int64) (a2 : Int64) (a4 : Int64) (a6 : Int64) (post : Int32 → HS → Prop) (σ : HS) : Prop := jn (fun (K3 : Unit → HS → Prop) => ((a2.toInt = (0 : Int64).toInt) → K3 () σ) ∧ ((¬ a2.toInt = (0 : Int64).toInt) → ((¬ a6.toInt = (0 : Int64).toInt) → ∀ z6 : Int64, z6 = a0 + a2 → ∀ z7 : Int64, z7 = z6 - 1 → ∀ z8 : Int64, z8 = a4 + a6 → ∀ z9 : Int64, z9 = z8 - 1 → F_X12_isLess h0 L z7 a0 (fun (z11 : Int32) (σ10 : HS) => jn (fun (K14 : Int64 → HS → Prop) => ((z11.toInt = 0) → K14 z7 σ10) ∧ ((¬ z11.toInt = 0) → K14 (-1) σ10)) (fun (x12 : Int64) (σ13 : HS) => F_X12_isLess h0 L z9 a4 (fun (z18 : Int32) (σ17 : HS) => jn (fun (K21 : Int64 → HS → Prop) => ((z18.toInt = 0) → K21 z9 σ17) ∧ ((¬ z18.toInt = 0) → K21 (-1) σ17)) (fun (x19 : Int64) (σ20 : HS) => F_X12_isLess h0 L x19 a0 (fun (z25 : Int32) (σ24 : HS) => jn (fun (K28 : Int32 → HS → Prop) => jn (fun (K33 : Unit → HS → Prop) => ((¬ z25.toInt = 0) → K33 () σ24) ∧ ((z25.toInt = 0) → F_X12_isLess h0 L x12 a4 (fun (z37 : Int32) (σ36 : HS) => ((¬ z37.toInt = 0) → K33 () σ36) ∧ ((z37.toInt = 0) → K28 1 σ36)) σ24)) (fun (x31 : Unit) (σ32 : HS) => K28 0 σ32)) (fun (x26 : Int32) (σ27 : HS) => (0 ≤ x26.toInt ∧ x26.toInt ≤ 1) ∧ post x26 σ27)) σ20)) σ13)) σ) ∧ ((a6.toInt = (0 : Int64).toInt) → K3 () σ))) (fun (x1 : Unit) (σ2 : HS) => (0 ≤ (0 : Int32).toInt ∧ (0 : Int32).toInt ≤ 1) ∧ post 0 σ2)
theorem dX12_meet_0 : decode cX12_meet 0 = .ok (.lload_n 2, 1) := by decide +kernel
theorem dX12_meet_1 : decode cX12_meet 1 = .ok (.lconst 0, 1) := by decide +kernel
theorem dX12_meet_2 : decode cX12_meet 2 = .ok (.lcmp, 1) := by decide +kernel
theorem dX12_meet_3 : decode cX12_meet 3 = .ok (.ifCond .eq 10, 3) := by decide +kernel
theorem dX12_meet_6 : decode cX12_meet 6 = .ok (.lload 6, 2) := by decide +kernel
theorem dX12_meet_8 : decode cX12_meet 8 = .ok (.lconst 0, 1) := by decide +kernel
theorem dX12_meet_9 : decode cX12_meet 9 = .ok (.lcmp, 1) := by decide +kernel
theorem dX12_meet_10 : decode cX12_meet 10 = .ok (.ifCond .ne 5, 3) := by decide +kernel
theorem dX12_meet_13 : decode cX12_meet 13 = .ok (.iconst 0, 1) := by decide +kernel
theorem dX12_meet_14 : decode cX12_meet 14 = .ok (.ireturn, 1) := by decide +kernel
theorem dX12_meet_15 : decode cX12_meet 15 = .ok (.lload_n 0, 1) := by decide +kernel
theorem dX12_meet_16 : decode cX12_meet 16 = .ok (.lload_n 2, 1) := by decide +kernel
theorem dX12_meet_17 : decode cX12_meet 17 = .ok (.ladd, 1) := by decide +kernel
theorem dX12_meet_18 : decode cX12_meet 18 = .ok (.lconst 1, 1) := by decide +kernel
theorem dX12_meet_19 : decode cX12_meet 19 = .ok (.lsub, 1) := by decide +kernel
theorem dX12_meet_20 : decode cX12_meet 20 = .ok (.lstore 8, 2) := by decide +kernel
theorem dX12_meet_22 : decode cX12_meet 22 = .ok (.lload 4, 2) := by decide +kernel
theorem dX12_meet_24 : decode cX12_meet 24 = .ok (.lload 6, 2) := by decide +kernel
theorem dX12_meet_26 : decode cX12_meet 26 = .ok (.ladd, 1) := by decide +kernel
theorem dX12_meet_27 : decode cX12_meet 27 = .ok (.lconst 1, 1) := by decide +kernel
theorem dX12_meet_28 : decode cX12_meet 28 = .ok (.lsub, 1) := by decide +kernel
theorem dX12_meet_29 : decode cX12_meet 29 = .ok (.lstore 10, 2) := by decide +kernel
theorem dX12_meet_31 : decode cX12_meet 31 = .ok (.lload 8, 2) := by decide +kernel
theorem dX12_meet_33 : decode cX12_meet 33 = .ok (.lload_n 0, 1) := by decide +kernel
theorem dX12_meet_34 : decode cX12_meet 34 = .ok (.invokestatic 763, 3) := by decide +kernel
theorem dX12_meet_37 : decode cX12_meet 37 = .ok (.ifCond .eq 9, 3) := by decide +kernel
theorem dX12_meet_40 : decode cX12_meet 40 = .ok (.ldc2_w 520, 3) := by decide +kernel
theorem dX12_meet_43 : decode cX12_meet 43 = .ok (.goto 5, 3) := by decide +kernel
theorem dX12_meet_46 : decode cX12_meet 46 = .ok (.lload 8, 2) := by decide +kernel
theorem dX12_meet_48 : decode cX12_meet 48 = .ok (.lstore 8, 2) := by decide +kernel
theorem dX12_meet_50 : decode cX12_meet 50 = .ok (.lload 10, 2) := by decide +kernel
theorem dX12_meet_52 : decode cX12_meet 52 = .ok (.lload 4, 2) := by decide +kernel
theorem dX12_meet_54 : decode cX12_meet 54 = .ok (.invokestatic 763, 3) := by decide +kernel
theorem dX12_meet_57 : decode cX12_meet 57 = .ok (.ifCond .eq 9, 3) := by decide +kernel
theorem dX12_meet_60 : decode cX12_meet 60 = .ok (.ldc2_w 520, 3) := by decide +kernel
theorem dX12_meet_63 : decode cX12_meet 63 = .ok (.goto 5, 3) := by decide +kernel
theorem dX12_meet_66 : decode cX12_meet 66 = .ok (.lload 10, 2) := by decide +kernel
theorem dX12_meet_68 : decode cX12_meet 68 = .ok (.lstore 10, 2) := by decide +kernel
theorem dX12_meet_70 : decode cX12_meet 70 = .ok (.lload 10, 2) := by decide +kernel
theorem dX12_meet_72 : decode cX12_meet 72 = .ok (.lload_n 0, 1) := by decide +kernel
theorem dX12_meet_73 : decode cX12_meet 73 = .ok (.invokestatic 763, 3) := by decide +kernel
theorem dX12_meet_76 : decode cX12_meet 76 = .ok (.ifCond .ne 17, 3) := by decide +kernel
theorem dX12_meet_79 : decode cX12_meet 79 = .ok (.lload 8, 2) := by decide +kernel
theorem dX12_meet_81 : decode cX12_meet 81 = .ok (.lload 4, 2) := by decide +kernel
theorem dX12_meet_83 : decode cX12_meet 83 = .ok (.invokestatic 763, 3) := by decide +kernel
theorem dX12_meet_86 : decode cX12_meet 86 = .ok (.ifCond .ne 7, 3) := by decide +kernel
theorem dX12_meet_89 : decode cX12_meet 89 = .ok (.iconst 1, 1) := by decide +kernel
theorem dX12_meet_90 : decode cX12_meet 90 = .ok (.goto 4, 3) := by decide +kernel
theorem dX12_meet_93 : decode cX12_meet 93 = .ok (.iconst 0, 1) := by decide +kernel
theorem dX12_meet_94 : decode cX12_meet 94 = .ok (.ireturn, 1) := by decide +kernel
set_option maxRecDepth 100000 in
set_option maxHeartbeats 4000000 in
theorem c_X12_meet (l : Launch) (D : va_G) (t : Nat → ClassId) (h0 : Nat) (L : Nat → Nat) (σ : HS) (hM : MdI h0 L σ) (a0 : Int64) (a2 : Int64) (a4 : Int64) (a6 : Int64) (post : Int32 → HS → Prop) (hw : F_X12_meet h0 L a0 a2 a4 a6 post σ) (sz : Nat) : RMi l D t yX12_meet cX12_meet 12 (some .boolean) ({ frames := 1, cells := 0, slots := 0, locals := 23 }) h0 L σ sz [.long a0, .long a2, .long a4, .long a6] post := by
  refine h_go (τ := τT) okT (by decide) (Nat.le_of_ble_eq_true rfl) ?_
  intro p e s m below meth c ls A hF hr hlk hAe hH0 hA hl
  unfold hB
  rw [hAe]
  clear hAe
  have hF : FX p m c cX12_meet 12 s _ RX12 D t := hF
  have hx := hF.1.1
  have hb := hF.1.2.1
  have hH : RT D t A s.heap h0 L σ s.heap [] := ⟨hH0, hM⟩
  have hl : lv_has ls 12 [(0, .long a0), (2, .long a2), (4, .long a4), (6, .long a6)] := hl
  unfold F_X12_meet at hw
  refine lv_lload_n hx hb dX12_meet_0 rfl (lv_at hl 1 rfl) ?_
  refine lv_lconst (v := 0) hx hb dX12_meet_1 (by decide) ?_
  obtain ⟨K3, hK4, hw⟩ := jn_open hw
  refine w_join (K := K3) 13 (fun (x1 : Unit) => []) (fun (x1 : Unit) => []) hl hH (fun x1 σ2 ls H locs hl hw hH => ?_) (fun jn5 => ?_)
  · have hw := hK4 x1 σ2 hw
    have hl : lv_has ls 12 [] := hl
    refine lv_iconst (v := 0) hx hb dX12_meet_13 (by decide) ?_
    exact w_retz hF hH hr hlk dX12_meet_14 hw
  · skip
    refine w_lif_eq (tgt := 13) hF dX12_meet_2 dX12_meet_3 rfl hw (fun hw => ?_) (fun hw => ?_)
    · have hl : lv_has ls 12 [] := lv_sub hl [] rfl
      exact jn5 () σ ls _ _ hl hw hH
    · refine lv_lload hx hb dX12_meet_6 (lv_at hl 3 rfl) ?_
      refine lv_lconst (v := 0) hx hb dX12_meet_8 (by decide) ?_
      refine w_lif_ne (tgt := 15) hF dX12_meet_9 dX12_meet_10 rfl hw (fun hw => ?_) (fun hw => ?_)
      · refine lv_lload_n hx hb dX12_meet_15 rfl (lv_at hl 0 rfl) ?_
        refine lv_lload_n hx hb dX12_meet_16 rfl (lv_at hl 1 rfl) ?_
        refine lv_ladd hx hb dX12_meet_17 ?_
        refine w_nml hw (fun z6 hw => ?_)
        refine lv_lconst (v := 1) hx hb dX12_meet_18 (by decide) ?_
        refine lv_lsub hx hb dX12_meet_19 ?_
        refine w_nml hw (fun z7 hw => ?_)
        refine lv_lstore (lv' := [(8, .long z7), (0, .long a0), (2, .long a2), (4, .long a4), (6, .long a6)]) hx hb dX12_meet_20 hl (by decide) rfl (fun ls hl => ?_)
        refine lv_lload hx hb dX12_meet_22 (lv_at hl 3 rfl) ?_
        refine lv_lload hx hb dX12_meet_24 (lv_at hl 4 rfl) ?_
        refine lv_ladd hx hb dX12_meet_26 ?_
        refine w_nml hw (fun z8 hw => ?_)
        refine lv_lconst (v := 1) hx hb dX12_meet_27 (by decide) ?_
        refine lv_lsub hx hb dX12_meet_28 ?_
        refine w_nml hw (fun z9 hw => ?_)
        refine lv_lstore (lv' := [(10, .long z9), (8, .long z7), (0, .long a0), (2, .long a2), (4, .long a4), (6, .long a6)]) hx hb dX12_meet_29 hl (by decide) rfl (fun ls hl => ?_)
        refine lv_lload hx hb dX12_meet_31 (lv_at hl 1 rfl) ?_
        refine lv_lload_n hx hb dX12_meet_33 rfl (lv_at hl 2 rfl) ?_
        refine w_cSi (As := [.long z7, .long a0]) (rest := []) hF hH hA ms_X12_763 (fun sz => c_X12_isLess l D t h0 L _ hH.2 z7 a0 _ hw sz) dX12_meet_34 rfl rfl (by decide) rfl hl.1 (Nat.le_of_ble_eq_true rfl) (by decide) rfl (fun z11 σ10 H locs hw hH => ?_)
        obtain ⟨K14, hK15, hw⟩ := jn_open hw
        refine w_join (K := K14) 48 (fun (x12 : Int64) => [(10, .long z9), (4, .long a4), (0, .long a0)]) (fun (x12 : Int64) => [.long x12]) hl hH (fun x12 σ13 ls H locs hl hw hH => ?_) (fun jn16 => ?_)
        · have hw := hK15 x12 σ13 hw
          have hl : lv_has ls 12 [(10, .long z9), (4, .long a4), (0, .long a0)] := hl
          refine lv_lstore (lv' := [(8, .long x12), (10, .long z9), (4, .long a4), (0, .long a0)]) hx hb dX12_meet_48 hl (by decide) rfl (fun ls hl => ?_)
          refine lv_lload hx hb dX12_meet_50 (lv_at hl 1 rfl) ?_
          refine lv_lload hx hb dX12_meet_52 (lv_at hl 2 rfl) ?_
          refine w_cSi (As := [.long z9, .long a4]) (rest := []) hF hH hA ms_X12_763 (fun sz => c_X12_isLess l D t h0 L _ hH.2 z9 a4 _ hw sz) dX12_meet_54 rfl rfl (by decide) rfl hl.1 (Nat.le_of_ble_eq_true rfl) (by decide) rfl (fun z18 σ17 H locs hw hH => ?_)
          obtain ⟨K21, hK22, hw⟩ := jn_open hw
          refine w_join (K := K21) 68 (fun (x19 : Int64) => [(8, .long x12), (4, .long a4), (0, .long a0)]) (fun (x19 : Int64) => [.long x19]) hl hH (fun x19 σ20 ls H locs hl hw hH => ?_) (fun jn23 => ?_)
          · have hw := hK22 x19 σ20 hw
            have hl : lv_has ls 12 [(8, .long x12), (4, .long a4), (0, .long a0)] := hl
            refine lv_lstore (lv' := [(10, .long x19), (8, .long x12), (4, .long a4), (0, .long a0)]) hx hb dX12_meet_68 hl (by decide) rfl (fun ls hl => ?_)
            refine lv_lload hx hb dX12_meet_70 (lv_at hl 0 rfl) ?_
            refine lv_lload_n hx hb dX12_meet_72 rfl (lv_at hl 3 rfl) ?_
            refine w_cSi (As := [.long x19, .long a0]) (rest := []) hF hH hA ms_X12_763 (fun sz => c_X12_isLess l D t h0 L _ hH.2 x19 a0 _ hw sz) dX12_meet_73 rfl rfl (by decide) rfl hl.1 (Nat.le_of_ble_eq_true rfl) (by decide) rfl (fun z25 σ24 H locs hw hH => ?_)
            obtain ⟨K28, hK29, hw⟩ := jn_open hw
            refine w_join (K := K28) 94 (fun (x26 : Int32) => []) (fun (x26 : Int32) => [.int x26]) hl hH (fun x26 σ27 ls H locs hl hw hH => ?_) (fun jn30 => ?_)
            · have hw := hK29 x26 σ27 hw
              have hl : lv_has ls 12 [] := hl
              exact w_retz hF hH hr hlk dX12_meet_94 hw
            · skip
              obtain ⟨K33, hK34, hw⟩ := jn_open hw
              refine w_join (K := K33) 93 (fun (x31 : Unit) => []) (fun (x31 : Unit) => []) hl hH (fun x31 σ32 ls H locs hl hw hH => ?_) (fun jn35 => ?_)
              · have hw := hK34 x31 σ32 hw
                have hl : lv_has ls 12 [] := hl
                refine lv_iconst (v := 0) hx hb dX12_meet_93 (by decide) ?_
                exact jn30 0 σ32 ls _ _ hl hw hH
              · skip
                refine w_if_ne (tgt := 93) hF dX12_meet_76 rfl hw (fun hw => ?_) (fun hw => ?_)
                · have hl : lv_has ls 12 [] := lv_sub hl [] rfl
                  exact jn35 () σ24 ls _ _ hl hw hH
                · refine lv_lload hx hb dX12_meet_79 (lv_at hl 1 rfl) ?_
                  refine lv_lload hx hb dX12_meet_81 (lv_at hl 2 rfl) ?_
                  refine w_cSi (As := [.long x12, .long a4]) (rest := []) hF hH hA ms_X12_763 (fun sz => c_X12_isLess l D t h0 L _ hH.2 x12 a4 _ hw sz) dX12_meet_83 rfl rfl (by decide) rfl hl.1 (Nat.le_of_ble_eq_true rfl) (by decide) rfl (fun z37 σ36 H locs hw hH => ?_)
                  refine w_if_ne (tgt := 93) hF dX12_meet_86 rfl hw (fun hw => ?_) (fun hw => ?_)
                  · have hl : lv_has ls 12 [] := lv_sub hl [] rfl
                    exact jn35 () σ36 ls _ _ hl hw hH
                  · refine lv_iconst (v := 1) hx hb dX12_meet_89 (by decide) ?_
                    refine lv_goto (tgt := 94) hx hb dX12_meet_90 rfl ?_
                    have hl : lv_has ls 12 [] := lv_sub hl [] rfl
                    exact jn30 1 σ36 ls _ _ hl hw hH
          · skip
            refine w_if_eq (tgt := 66) hF dX12_meet_57 rfl hw (fun hw => ?_) (fun hw => ?_)
            · refine lv_lload hx hb dX12_meet_66 (lv_at hl 1 rfl) ?_
              have hl : lv_has ls 12 [(8, .long x12), (4, .long a4), (0, .long a0)] := lv_sub hl [0, 2, 3] rfl
              exact jn23 z9 σ17 ls _ _ hl hw hH
            · refine lv_ldc2 (v := (-1)) hx hb hF.1.2.2.2.1 (hF.1.2.2.2.2 _ (wc_47 34 rfl)) dX12_meet_60 ?_
              refine lv_goto (tgt := 68) hx hb dX12_meet_63 rfl ?_
              have hl : lv_has ls 12 [(8, .long x12), (4, .long a4), (0, .long a0)] := lv_sub hl [0, 2, 3] rfl
              exact jn23 (-1) σ17 ls _ _ hl hw hH
        · skip
          refine w_if_eq (tgt := 46) hF dX12_meet_37 rfl hw (fun hw => ?_) (fun hw => ?_)
          · refine lv_lload hx hb dX12_meet_46 (lv_at hl 1 rfl) ?_
            have hl : lv_has ls 12 [(10, .long z9), (4, .long a4), (0, .long a0)] := lv_sub hl [0, 4, 2] rfl
            exact jn16 z7 σ10 ls _ _ hl hw hH
          · refine lv_ldc2 (v := (-1)) hx hb hF.1.2.2.2.1 (hF.1.2.2.2.2 _ (wc_47 34 rfl)) dX12_meet_40 ?_
            refine lv_goto (tgt := 48) hx hb dX12_meet_43 rfl ?_
            have hl : lv_has ls 12 [(10, .long z9), (4, .long a4), (0, .long a0)] := lv_sub hl [0, 4, 2] rfl
            exact jn16 (-1) σ10 ls _ _ hl hw hH
      · have hl : lv_has ls 12 [] := lv_sub hl [] rfl
        exact jn5 () σ ls _ _ hl hw hH
def F_X12_canBe (h0 : Nat) (L : Nat → Nat) (a1 : Int32) (a2 : Int64) (a4 : Int64) (a6 : Int32) (post : Int32 → HS → Prop) (σ : HS) : Prop := lw (fun (K3 : (Int32 × Int32) → HS → Prop) (x1 : Int32 × Int32) (σ2 : HS) => ∀ z5 : Int32, z5 = sI σ2 h0 63 → ((z5.toInt ≤ x1.1.toInt) → (0 ≤ x1.2.toInt ∧ x1.2.toInt ≤ 1) ∧ post x1.2 σ2) ∧ ((x1.1.toInt < z5.toInt) → jn (fun (K8 : Int32 → HS → Prop) => jn (fun (K14 : Unit → HS → Prop) => ((x1.2.toInt = 0) → K14 () σ2) ∧ ((¬ x1.2.toInt = 0) → (0 ≤ x1.1.toInt ∧ x1.1.toInt < 80) ∧ ∀ z17 : Int32, z17 = sI σ2 (L 57) x1.1.toInt.toNat → jn (fun (K20 : Unit → HS → Prop) => ((¬ z17.toInt = a1.toInt) → K20 () σ2) ∧ ((z17.toInt = a1.toInt) → jn (fun (K25 : Unit → HS → Prop) => ((a6.toInt = 0) → K25 () σ2) ∧ ((¬ a6.toInt = 0) → (0 ≤ x1.1.toInt ∧ x1.1.toInt < 80) ∧ ∀ z32 : Int32, z32 = sI σ2 (L 60) x1.1.toInt.toNat → ((¬ z32.toInt = 0) → K20 () σ2) ∧ ((z32.toInt = 0) → K25 () σ2))) (fun (x23 : Unit) (σ24 : HS) => (0 ≤ x1.1.toInt ∧ x1.1.toInt < 80) ∧ ∀ z28 : Int64, z28 = sJ σ24 (L 58) x1.1.toInt.toNat → (0 ≤ x1.1.toInt ∧ x1.1.toInt < 80) ∧ ∀ z29 : Int64, z29 = sJ σ24 (L 59) x1.1.toInt.toNat → F_X12_meet h0 L a2 a4 z28 z29 (fun (z31 : Int32) (σ30 : HS) => ((¬ z31.toInt = 0) → K14 () σ30) ∧ ((z31.toInt = 0) → K20 () σ30)) σ24))) (fun (x18 : Unit) (σ19 : HS) => K8 1 σ19))) (fun (x12 : Unit) (σ13 : HS) => K8 0 σ13)) (fun (x6 : Int32) (σ7 : HS) => ∀ z11 : Int32, z11 = x1.1 + 1 → K3 (z11, x6) σ7))) (0, 1) σ
theorem dX12_canBe_0 : decode cX12_canBe 0 = .ok (.iconst 1, 1) := by decide +kernel
theorem dX12_canBe_1 : decode cX12_canBe 1 = .ok (.istore 7, 2) := by decide +kernel
theorem dX12_canBe_3 : decode cX12_canBe 3 = .ok (.iconst 0, 1) := by decide +kernel
theorem dX12_canBe_4 : decode cX12_canBe 4 = .ok (.istore 8, 2) := by decide +kernel
theorem dX12_canBe_6 : decode cX12_canBe 6 = .ok (.iload 8, 2) := by decide +kernel
theorem dX12_canBe_8 : decode cX12_canBe 8 = .ok (.aload_n 0, 1) := by decide +kernel
theorem dX12_canBe_9 : decode cX12_canBe 9 = .ok (.getfield 289, 3) := by decide +kernel
theorem dX12_canBe_12 : decode cX12_canBe 12 = .ok (.if_icmp .ge 70, 3) := by decide +kernel
theorem dX12_canBe_15 : decode cX12_canBe 15 = .ok (.iload 7, 2) := by decide +kernel
theorem dX12_canBe_17 : decode cX12_canBe 17 = .ok (.ifCond .eq 56, 3) := by decide +kernel
theorem dX12_canBe_20 : decode cX12_canBe 20 = .ok (.aload_n 0, 1) := by decide +kernel
theorem dX12_canBe_21 : decode cX12_canBe 21 = .ok (.getfield 187, 3) := by decide +kernel
theorem dX12_canBe_24 : decode cX12_canBe 24 = .ok (.iload 8, 2) := by decide +kernel
theorem dX12_canBe_26 : decode cX12_canBe 26 = .ok (.iaload, 1) := by decide +kernel
theorem dX12_canBe_27 : decode cX12_canBe 27 = .ok (.iload_n 1, 1) := by decide +kernel
theorem dX12_canBe_28 : decode cX12_canBe 28 = .ok (.if_icmp .ne 41, 3) := by decide +kernel
theorem dX12_canBe_31 : decode cX12_canBe 31 = .ok (.iload 6, 2) := by decide +kernel
theorem dX12_canBe_33 : decode cX12_canBe 33 = .ok (.ifCond .eq 13, 3) := by decide +kernel
theorem dX12_canBe_36 : decode cX12_canBe 36 = .ok (.aload_n 0, 1) := by decide +kernel
theorem dX12_canBe_37 : decode cX12_canBe 37 = .ok (.getfield 196, 3) := by decide +kernel
theorem dX12_canBe_40 : decode cX12_canBe 40 = .ok (.iload 8, 2) := by decide +kernel
theorem dX12_canBe_42 : decode cX12_canBe 42 = .ok (.baload, 1) := by decide +kernel
theorem dX12_canBe_43 : decode cX12_canBe 43 = .ok (.ifCond .ne 26, 3) := by decide +kernel
theorem dX12_canBe_46 : decode cX12_canBe 46 = .ok (.lload_n 2, 1) := by decide +kernel
theorem dX12_canBe_47 : decode cX12_canBe 47 = .ok (.lload 4, 2) := by decide +kernel
theorem dX12_canBe_49 : decode cX12_canBe 49 = .ok (.aload_n 0, 1) := by decide +kernel
theorem dX12_canBe_50 : decode cX12_canBe 50 = .ok (.getfield 190, 3) := by decide +kernel
theorem dX12_canBe_53 : decode cX12_canBe 53 = .ok (.iload 8, 2) := by decide +kernel
theorem dX12_canBe_55 : decode cX12_canBe 55 = .ok (.laload, 1) := by decide +kernel
theorem dX12_canBe_56 : decode cX12_canBe 56 = .ok (.aload_n 0, 1) := by decide +kernel
theorem dX12_canBe_57 : decode cX12_canBe 57 = .ok (.getfield 193, 3) := by decide +kernel
theorem dX12_canBe_60 : decode cX12_canBe 60 = .ok (.iload 8, 2) := by decide +kernel
theorem dX12_canBe_62 : decode cX12_canBe 62 = .ok (.laload, 1) := by decide +kernel
theorem dX12_canBe_63 : decode cX12_canBe 63 = .ok (.invokestatic 766, 3) := by decide +kernel
theorem dX12_canBe_66 : decode cX12_canBe 66 = .ok (.ifCond .ne 7, 3) := by decide +kernel
theorem dX12_canBe_69 : decode cX12_canBe 69 = .ok (.iconst 1, 1) := by decide +kernel
theorem dX12_canBe_70 : decode cX12_canBe 70 = .ok (.goto 4, 3) := by decide +kernel
theorem dX12_canBe_73 : decode cX12_canBe 73 = .ok (.iconst 0, 1) := by decide +kernel
theorem dX12_canBe_74 : decode cX12_canBe 74 = .ok (.istore 7, 2) := by decide +kernel
theorem dX12_canBe_76 : decode cX12_canBe 76 = .ok (.iinc 8 1, 3) := by decide +kernel
theorem dX12_canBe_79 : decode cX12_canBe 79 = .ok (.goto (-73), 3) := by decide +kernel
theorem dX12_canBe_82 : decode cX12_canBe 82 = .ok (.iload 7, 2) := by decide +kernel
theorem dX12_canBe_84 : decode cX12_canBe 84 = .ok (.ireturn, 1) := by decide +kernel
set_option maxRecDepth 100000 in
set_option maxHeartbeats 4000000 in
theorem c_X12_canBe (l : Launch) (D : va_G) (t : Nat → ClassId) (h0 : Nat) (L : Nat → Nat) (σ : HS) (hM : MdI h0 L σ) (a1 : Int32) (a2 : Int64) (a4 : Int64) (a6 : Int32) (post : Int32 → HS → Prop) (hw : F_X12_canBe h0 L a1 a2 a4 a6 post σ) (sz : Nat) : RMi l D t yX12_canBe cX12_canBe 9 (some .boolean) ({ frames := 2, cells := 0, slots := 0, locals := 54 }) h0 L σ sz [.ref h0, .int a1, .long a2, .long a4, .int a6] post := by
  refine h_go (τ := τT) okT (by decide) (Nat.le_of_ble_eq_true rfl) ?_
  intro p e s m below meth c ls A hF hr hlk hAe hH0 hA hl
  unfold hB
  rw [hAe]
  clear hAe
  have hF : FX p m c cX12_canBe 9 s _ RX12 D t := hF
  have hx := hF.1.1
  have hb := hF.1.2.1
  have hH : RT D t A s.heap h0 L σ s.heap [] := ⟨hH0, hM⟩
  have hl : lv_has ls 9 [(0, .ref h0), (1, .int a1), (2, .long a2), (4, .long a4), (6, .int a6)] := hl
  unfold F_X12_canBe at hw
  refine lv_iconst (v := 1) hx hb dX12_canBe_0 (by decide) ?_
  refine lv_istore (lv' := [(7, .int 1), (0, .ref h0), (1, .int a1), (2, .long a2), (4, .long a4), (6, .int a6)]) hx hb dX12_canBe_1 hl (by decide) rfl (fun ls hl => ?_)
  refine lv_iconst (v := 0) hx hb dX12_canBe_3 (by decide) ?_
  refine lv_istore (lv' := [(8, .int 0), (7, .int 1), (0, .ref h0), (1, .int a1), (2, .long a2), (4, .long a4), (6, .int a6)]) hx hb dX12_canBe_4 hl (by decide) rfl (fun ls hl => ?_)
  have hl : lv_has ls 9 [(8, .int 0), (7, .int 1), (6, .int a6), (4, .long a4), (2, .long a2), (1, .int a1), (0, .ref h0)] := lv_sub hl [0, 1, 6, 5, 4, 3, 2] rfl
  refine w_loop (β := Int32 × Int32) (fun x1 => [(8, .int x1.1), (7, .int x1.2), (6, .int a6), (4, .long a4), (2, .long a2), (1, .int a1), (0, .ref h0)]) (0, 1) hl hw hH (fun K3 x1 σ2 ls H locs hl hw hH ih4 => ?_)
  have hl : lv_has ls 9 [(8, .int x1.1), (7, .int x1.2), (6, .int a6), (4, .long a4), (2, .long a2), (1, .int a1), (0, .ref h0)] := hl
  refine lv_iload hx hb dX12_canBe_6 (lv_at hl 0 rfl) ?_
  refine lv_aload_n hx hb dX12_canBe_8 rfl (lv_at hl 6 rfl) ?_
  refine w_getI hF hH fk_X12_289 dX12_canBe_9 hw (fun z5 hw => ?_)
  refine w_icmp_ge (tgt := 82) hF dX12_canBe_12 rfl hw (fun hw => ?_) (fun hw => ?_)
  · refine lv_iload hx hb dX12_canBe_82 (lv_at hl 1 rfl) ?_
    exact w_retz hF hH hr hlk dX12_canBe_84 hw
  · refine lv_iload hx hb dX12_canBe_15 (lv_at hl 1 rfl) ?_
    obtain ⟨K8, hK9, hw⟩ := jn_open hw
    refine w_join (K := K8) 74 (fun (x6 : Int32) => [(8, .int x1.1), (6, .int a6), (4, .long a4), (2, .long a2), (1, .int a1), (0, .ref h0)]) (fun (x6 : Int32) => [.int x6]) hl hH (fun x6 σ7 ls H locs hl hw hH => ?_) (fun jn10 => ?_)
    · have hw := hK9 x6 σ7 hw
      have hl : lv_has ls 9 [(8, .int x1.1), (6, .int a6), (4, .long a4), (2, .long a2), (1, .int a1), (0, .ref h0)] := hl
      refine lv_istore (lv' := [(7, .int x6), (8, .int x1.1), (6, .int a6), (4, .long a4), (2, .long a2), (1, .int a1), (0, .ref h0)]) hx hb dX12_canBe_74 hl (by decide) rfl (fun ls hl => ?_)
      obtain ⟨z11, ez11⟩ : ∃ z : Int32, z = x1.1 + 1 := ⟨_, rfl⟩
      have hw := hw z11 ez11
      refine lv_iinc (lv' := [(8, .int z11), (7, .int x6), (6, .int a6), (4, .long a4), (2, .long a2), (1, .int a1), (0, .ref h0)]) (k := 1) (v := z11) hx hb dX12_canBe_76 hl rfl ez11.symm (by decide) rfl (fun ls hl => ?_)
      refine lv_goto (tgt := 6) hx hb dX12_canBe_79 rfl ?_
      exact ih4 (z11, x6) σ7 ls _ _ hl hw hH
    · skip
      obtain ⟨K14, hK15, hw⟩ := jn_open hw
      refine w_join (K := K14) 73 (fun (x12 : Unit) => [(8, .int x1.1), (6, .int a6), (4, .long a4), (2, .long a2), (1, .int a1), (0, .ref h0)]) (fun (x12 : Unit) => []) hl hH (fun x12 σ13 ls H locs hl hw hH => ?_) (fun jn16 => ?_)
      · have hw := hK15 x12 σ13 hw
        have hl : lv_has ls 9 [(8, .int x1.1), (6, .int a6), (4, .long a4), (2, .long a2), (1, .int a1), (0, .ref h0)] := hl
        refine lv_iconst (v := 0) hx hb dX12_canBe_73 (by decide) ?_
        exact jn10 0 σ13 ls _ _ hl hw hH
      · skip
        refine w_if_eq (tgt := 73) hF dX12_canBe_17 rfl hw (fun hw => ?_) (fun hw => ?_)
        · have hl : lv_has ls 9 [(8, .int x1.1), (6, .int a6), (4, .long a4), (2, .long a2), (1, .int a1), (0, .ref h0)] := lv_sub hl [0, 2, 3, 4, 5, 6] rfl
          exact jn16 () σ2 ls _ _ hl hw hH
        · refine lv_aload_n hx hb dX12_canBe_20 rfl (lv_at hl 6 rfl) ?_
          refine w_getA 57 hF hH fk_X12_187 dX12_canBe_21 (by decide) rfl ?_
          refine lv_iload hx hb dX12_canBe_24 (lv_at hl 0 rfl) ?_
          refine w_iald 57 80 hF hH dX12_canBe_26 (by decide) rfl rfl hw (fun z17 hw => ?_)
          refine lv_iload_n hx hb dX12_canBe_27 rfl (lv_at hl 5 rfl) ?_
          obtain ⟨K20, hK21, hw⟩ := jn_open hw
          refine w_join (K := K20) 69 (fun (x18 : Unit) => [(8, .int x1.1), (6, .int a6), (4, .long a4), (2, .long a2), (1, .int a1), (0, .ref h0)]) (fun (x18 : Unit) => []) hl hH (fun x18 σ19 ls H locs hl hw hH => ?_) (fun jn22 => ?_)
          · have hw := hK21 x18 σ19 hw
            have hl : lv_has ls 9 [(8, .int x1.1), (6, .int a6), (4, .long a4), (2, .long a2), (1, .int a1), (0, .ref h0)] := hl
            refine lv_iconst (v := 1) hx hb dX12_canBe_69 (by decide) ?_
            refine lv_goto (tgt := 74) hx hb dX12_canBe_70 rfl ?_
            exact jn10 1 σ19 ls _ _ hl hw hH
          · skip
            refine w_icmp_ne (tgt := 69) hF dX12_canBe_28 rfl hw (fun hw => ?_) (fun hw => ?_)
            · have hl : lv_has ls 9 [(8, .int x1.1), (6, .int a6), (4, .long a4), (2, .long a2), (1, .int a1), (0, .ref h0)] := lv_sub hl [0, 2, 3, 4, 5, 6] rfl
              exact jn22 () σ2 ls _ _ hl hw hH
            · refine lv_iload hx hb dX12_canBe_31 (lv_at hl 2 rfl) ?_
              obtain ⟨K25, hK26, hw⟩ := jn_open hw
              refine w_join (K := K25) 46 (fun (x23 : Unit) => [(8, .int x1.1), (6, .int a6), (4, .long a4), (2, .long a2), (1, .int a1), (0, .ref h0)]) (fun (x23 : Unit) => []) hl hH (fun x23 σ24 ls H locs hl hw hH => ?_) (fun jn27 => ?_)
              · have hw := hK26 x23 σ24 hw
                have hl : lv_has ls 9 [(8, .int x1.1), (6, .int a6), (4, .long a4), (2, .long a2), (1, .int a1), (0, .ref h0)] := hl
                refine lv_lload_n hx hb dX12_canBe_46 rfl (lv_at hl 3 rfl) ?_
                refine lv_lload hx hb dX12_canBe_47 (lv_at hl 2 rfl) ?_
                refine lv_aload_n hx hb dX12_canBe_49 rfl (lv_at hl 5 rfl) ?_
                refine w_getA 58 hF hH fk_X12_190 dX12_canBe_50 (by decide) rfl ?_
                refine lv_iload hx hb dX12_canBe_53 (lv_at hl 0 rfl) ?_
                refine w_lald 58 80 hF hH dX12_canBe_55 (by decide) rfl rfl hw (fun z28 hw => ?_)
                refine lv_aload_n hx hb dX12_canBe_56 rfl (lv_at hl 5 rfl) ?_
                refine w_getA 59 hF hH fk_X12_193 dX12_canBe_57 (by decide) rfl ?_
                refine lv_iload hx hb dX12_canBe_60 (lv_at hl 0 rfl) ?_
                refine w_lald 59 80 hF hH dX12_canBe_62 (by decide) rfl rfl hw (fun z29 hw => ?_)
                refine w_cSi (As := [.long a2, .long a4, .long z28, .long z29]) (rest := []) hF hH hA ms_X12_766 (fun sz => c_X12_meet l D t h0 L _ hH.2 a2 a4 z28 z29 _ hw sz) dX12_canBe_63 rfl rfl (by decide) rfl hl.1 (Nat.le_of_ble_eq_true rfl) (by decide) rfl (fun z31 σ30 H locs hw hH => ?_)
                refine w_if_ne (tgt := 73) hF dX12_canBe_66 rfl hw (fun hw => ?_) (fun hw => ?_)
                · exact jn16 () σ30 ls _ _ hl hw hH
                · exact jn22 () σ30 ls _ _ hl hw hH
              · skip
                refine w_if_eq (tgt := 46) hF dX12_canBe_33 rfl hw (fun hw => ?_) (fun hw => ?_)
                · have hl : lv_has ls 9 [(8, .int x1.1), (6, .int a6), (4, .long a4), (2, .long a2), (1, .int a1), (0, .ref h0)] := lv_sub hl [0, 2, 3, 4, 5, 6] rfl
                  exact jn27 () σ2 ls _ _ hl hw hH
                · refine lv_aload_n hx hb dX12_canBe_36 rfl (lv_at hl 6 rfl) ?_
                  refine w_getA 60 hF hH fk_X12_196 dX12_canBe_37 (by decide) rfl ?_
                  refine lv_iload hx hb dX12_canBe_40 (lv_at hl 0 rfl) ?_
                  refine w_zald 60 80 hF hH dX12_canBe_42 (by decide) rfl rfl hw (fun z32 hw => ?_)
                  refine w_if_ne (tgt := 69) hF dX12_canBe_43 rfl hw (fun hw => ?_) (fun hw => ?_)
                  · have hl : lv_has ls 9 [(8, .int x1.1), (6, .int a6), (4, .long a4), (2, .long a2), (1, .int a1), (0, .ref h0)] := lv_sub hl [0, 2, 3, 4, 5, 6] rfl
                    exact jn22 () σ2 ls _ _ hl hw hH
                  · have hl : lv_has ls 9 [(8, .int x1.1), (6, .int a6), (4, .long a4), (2, .long a2), (1, .int a1), (0, .ref h0)] := lv_sub hl [0, 2, 3, 4, 5, 6] rfl
                    exact jn27 () σ2 ls _ _ hl hw hH

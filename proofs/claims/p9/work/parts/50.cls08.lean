/-! the class, lifted: 8 -/
set_option maxRecDepth 100000 in
def F_X11_wanted (G : GE) (a0 : Int32) (post : Int32 → CS → Prop) (κ : CS) : Prop := ∀ z1 : Int32, z1 = a0 &&& 33 → jc (fun (K4 : Int32 → CS → Prop) => ((z1.toInt = 0) → K4 0 κ) ∧ ((¬ z1.toInt = 0) → K4 1 κ)) (fun (x2 : Int32) (κ3 : CS) => ∀ z7 : Int32, z7 = a0 &&& 6 → jc (fun (K10 : Int32 → CS → Prop) => ((z7.toInt = 0) → K10 0 κ3) ∧ ((¬ z7.toInt = 0) → K10 2 κ3)) (fun (x8 : Int32) (κ9 : CS) => ∀ z13 : Int32, z13 = x2 ||| x8 → ∀ z14 : Int32, z14 = a0 &&& 65536 → jc (fun (K17 : Int32 → CS → Prop) => ((z14.toInt = 0) → K17 0 κ9) ∧ ((¬ z14.toInt = 0) → K17 4 κ9)) (fun (x15 : Int32) (κ16 : CS) => ∀ z20 : Int32, z20 = z13 ||| x15 → post z20 κ16)))
theorem dX11_wanted_0 : decode cX11_wanted 0 = .ok (.iload_n 0, 1) := by decide +kernel
theorem dX11_wanted_1 : decode cX11_wanted 1 = .ok (.bipush 33, 2) := by decide +kernel
theorem dX11_wanted_3 : decode cX11_wanted 3 = .ok (.iand, 1) := by decide +kernel
theorem dX11_wanted_4 : decode cX11_wanted 4 = .ok (.ifCond .eq 7, 3) := by decide +kernel
theorem dX11_wanted_7 : decode cX11_wanted 7 = .ok (.iconst 1, 1) := by decide +kernel
theorem dX11_wanted_8 : decode cX11_wanted 8 = .ok (.goto 4, 3) := by decide +kernel
theorem dX11_wanted_11 : decode cX11_wanted 11 = .ok (.iconst 0, 1) := by decide +kernel
theorem dX11_wanted_12 : decode cX11_wanted 12 = .ok (.iload_n 0, 1) := by decide +kernel
theorem dX11_wanted_13 : decode cX11_wanted 13 = .ok (.bipush 6, 2) := by decide +kernel
theorem dX11_wanted_15 : decode cX11_wanted 15 = .ok (.iand, 1) := by decide +kernel
theorem dX11_wanted_16 : decode cX11_wanted 16 = .ok (.ifCond .eq 7, 3) := by decide +kernel
theorem dX11_wanted_19 : decode cX11_wanted 19 = .ok (.iconst 2, 1) := by decide +kernel
theorem dX11_wanted_20 : decode cX11_wanted 20 = .ok (.goto 4, 3) := by decide +kernel
theorem dX11_wanted_23 : decode cX11_wanted 23 = .ok (.iconst 0, 1) := by decide +kernel
theorem dX11_wanted_24 : decode cX11_wanted 24 = .ok (.ior, 1) := by decide +kernel
theorem dX11_wanted_25 : decode cX11_wanted 25 = .ok (.iload_n 0, 1) := by decide +kernel
theorem dX11_wanted_26 : decode cX11_wanted 26 = .ok (.ldc_w 657, 3) := by decide +kernel
theorem dX11_wanted_29 : decode cX11_wanted 29 = .ok (.iand, 1) := by decide +kernel
theorem dX11_wanted_30 : decode cX11_wanted 30 = .ok (.ifCond .eq 7, 3) := by decide +kernel
theorem dX11_wanted_33 : decode cX11_wanted 33 = .ok (.iconst 4, 1) := by decide +kernel
theorem dX11_wanted_34 : decode cX11_wanted 34 = .ok (.goto 4, 3) := by decide +kernel
theorem dX11_wanted_37 : decode cX11_wanted 37 = .ok (.iconst 0, 1) := by decide +kernel
theorem dX11_wanted_38 : decode cX11_wanted 38 = .ok (.ior, 1) := by decide +kernel
theorem dX11_wanted_39 : decode cX11_wanted 39 = .ok (.ireturn, 1) := by decide +kernel
set_option maxRecDepth 100000 in
set_option maxHeartbeats 4000000 in
theorem c_X11_wanted (l : Launch) (D : va_G) (t : Nat → ClassId) (G : GE) (κ : CS) (a0 : Int32) (post : Int32 → CS → Prop) (hw : F_X11_wanted G a0 post κ) (sz : Nat) : CMi l D t yX11_wanted cX11_wanted 1 (some .int) 0 14 G κ sz [.int a0] post := by
  refine c_go (by decide) (Nat.le_of_ble_eq_true rfl) ?_
  intro p e s m below meth c ls A hF hr hlk hin hAe hH hA hE hl
  unfold cB
  rw [hAe]
  clear hAe
  have hF : FX p m c cX11_wanted 1 s _ RX11 D t := hF
  have hx := hF.1.1
  have hb := hF.1.2.1
  have hl : lv_has ls 1 [(0, .int a0)] := hl
  unfold F_X11_wanted at hw
  refine lv_iload_n hx hb dX11_wanted_0 rfl (lv_at hl 0 rfl) ?_
  refine lv_bipush (v := 33) hx hb dX11_wanted_1 (by decide) ?_
  refine lv_iand hx hb dX11_wanted_3 ?_
  refine w_nmi hw (fun z1 hw => ?_)
  obtain ⟨K4, hK5, hw⟩ := jc_open hw
  refine cw_join (K := K4) 12 (fun (x2 : Int32) => [(0, .int a0)]) (fun (x2 : Int32) => [.int x2]) hl hH (fun x2 κ3 ls H locs cells slots hl hw hH => ?_) (fun jn6 => ?_)
  · have hw := hK5 x2 κ3 hw
    have hl : lv_has ls 1 [(0, .int a0)] := hl
    refine lv_iload_n hx hb dX11_wanted_12 rfl (lv_at hl 0 rfl) ?_
    refine lv_bipush (v := 6) hx hb dX11_wanted_13 (by decide) ?_
    refine lv_iand hx hb dX11_wanted_15 ?_
    refine w_nmi hw (fun z7 hw => ?_)
    obtain ⟨K10, hK11, hw⟩ := jc_open hw
    refine cw_join (K := K10) 24 (fun (x8 : Int32) => [(0, .int a0)]) (fun (x8 : Int32) => [.int x8, .int x2]) hl hH (fun x8 κ9 ls H locs cells slots hl hw hH => ?_) (fun jn12 => ?_)
    · have hw := hK11 x8 κ9 hw
      have hl : lv_has ls 1 [(0, .int a0)] := hl
      refine lv_ior hx hb dX11_wanted_24 ?_
      refine w_nmi hw (fun z13 hw => ?_)
      refine lv_iload_n hx hb dX11_wanted_25 rfl (lv_at hl 0 rfl) ?_
      refine lv_ldcw (v := 65536) hx hb hF.1.2.2.2.1 (hF.1.2.2.2.2 _ (wc_22 29 rfl)) dX11_wanted_26 ?_
      refine lv_iand hx hb dX11_wanted_29 ?_
      refine w_nmi hw (fun z14 hw => ?_)
      obtain ⟨K17, hK18, hw⟩ := jc_open hw
      refine cw_join (K := K17) 38 (fun (x15 : Int32) => []) (fun (x15 : Int32) => [.int x15, .int z13]) hl hH (fun x15 κ16 ls H locs cells slots hl hw hH => ?_) (fun jn19 => ?_)
      · have hw := hK18 x15 κ16 hw
        have hl : lv_has ls 1 [] := hl
        refine lv_ior hx hb dX11_wanted_38 ?_
        refine w_nmi hw (fun z20 hw => ?_)
        exact cw_reti hF hH ⟨rfl, rfl⟩ hr rfl hlk dX11_wanted_39 hw
      · skip
        refine w_if_eq (tgt := 37) hF dX11_wanted_30 rfl hw (fun hw => ?_) (fun hw => ?_)
        · refine lv_iconst (v := 0) hx hb dX11_wanted_37 (by decide) ?_
          have hl : lv_has ls 1 [] := lv_sub hl [] rfl
          exact jn19 0 κ9 ls _ _ _ _ hl hw hH
        · refine lv_iconst (v := 4) hx hb dX11_wanted_33 (by decide) ?_
          refine lv_goto (tgt := 38) hx hb dX11_wanted_34 rfl ?_
          have hl : lv_has ls 1 [] := lv_sub hl [] rfl
          exact jn19 4 κ9 ls _ _ _ _ hl hw hH
    · skip
      refine w_if_eq (tgt := 23) hF dX11_wanted_16 rfl hw (fun hw => ?_) (fun hw => ?_)
      · refine lv_iconst (v := 0) hx hb dX11_wanted_23 (by decide) ?_
        exact jn12 0 κ3 ls _ _ _ _ hl hw hH
      · refine lv_iconst (v := 2) hx hb dX11_wanted_19 (by decide) ?_
        refine lv_goto (tgt := 24) hx hb dX11_wanted_20 rfl ?_
        exact jn12 2 κ3 ls _ _ _ _ hl hw hH
  · skip
    refine w_if_eq (tgt := 11) hF dX11_wanted_4 rfl hw (fun hw => ?_) (fun hw => ?_)
    · refine lv_iconst (v := 0) hx hb dX11_wanted_11 (by decide) ?_
      exact jn6 0 κ ls _ _ _ _ hl hw hH
    · refine lv_iconst (v := 1) hx hb dX11_wanted_7 (by decide) ?_
      refine lv_goto (tgt := 12) hx hb dX11_wanted_8 rfl ?_
      exact jn6 1 κ ls _ _ _ _ hl hw hH
set_option maxRecDepth 100000 in
def F_X11_sharesWithOthers (G : GE) (h : Nat) (a1 : Option Nat) (a2 : Option Nat) (post : Int32 → CS → Prop) (κ : CS) : Prop := ∃ b : Nat, a2 = some b ∧ (b ∈ sL κ.1 ∧ sK κ.1 b = 13) ∧ ∀ z1 : Int32, z1 = sI κ.1 b 1 → F_X11_wanted G z1 (fun (z3 : Int32) (κ2 : CS) => lc (fun (K6 : Int32 → CS → Prop) (x4 : Int32) (κ5 : CS) => (h ∈ sL κ5.1 ∧ sK κ5.1 h = 1) ∧ ∀ z8 : Option Nat, z8 = sP κ5.1 h 10 → ∃ b : Nat, z8 = some b ∧ (b ∈ sL κ5.1 ∧ sK κ5.1 b = 7) ∧ F_Jx4a65c_size_8abf5 G b  (fun (z10 : Int32) (κ9 : CS) => ((z10.toInt ≤ x4.toInt) → (0 ≤ (1 : Int32).toInt ∧ (1 : Int32).toInt ≤ 1) ∧ post 1 κ9) ∧ ((x4.toInt < z10.toInt) → (h ∈ sL κ9.1 ∧ sK κ9.1 h = 1) ∧ ∀ z11 : Option Nat, z11 = sP κ9.1 h 10 → ∃ b : Nat, z11 = some b ∧ (b ∈ sL κ9.1 ∧ sK κ9.1 b = 7) ∧ F_Jx4a65c_get_915e3 G b x4 (fun (z13 : Option Nat) (κ12 : CS) => (z13 = none ∨ ∃ b : Nat, z13 = some b ∧ b ∈ sL κ12.1 ∧ sK κ12.1 b = 10) ∧ ∃ b : Nat, z13 = some b ∧ (b ∈ sL κ12.1 ∧ sK κ12.1 b = 10) ∧ ∀ z14 : Int32, z14 = sI κ12.1 b 3 → F_X11_wanted G z14 (fun (z16 : Int32) (κ15 : CS) => ∃ b : Nat, z13 = some b ∧ (b ∈ sL κ15.1 ∧ sK κ15.1 b = 10) ∧ ∀ z17 : Option Nat, z17 = sP κ15.1 b 2 → jc (fun (K20 : Unit → CS → Prop) => ((¬ z17 = a1) → K20 () κ15) ∧ ((z17 = a1) → ((z3.toInt = 0) → K20 () κ15) ∧ ((¬ z3.toInt = 0) → ((z16.toInt = 0) → K20 () κ15) ∧ ((¬ z16.toInt = 0) → ∃ b : Nat, z13 = some b ∧ (b ∈ sL κ15.1 ∧ sK κ15.1 b = 10) ∧ ∀ z24 : Int32, z24 = sI κ15.1 b 4 → ∀ z25 : Int32, z25 = z24 ^^^ (-1) → ∀ z26 : Int32, z26 = z3 &&& z25 → jc (fun (K29 : Unit → CS → Prop) => ((¬ z26.toInt = 0) → K29 () κ15) ∧ ((z26.toInt = 0) → ∃ b : Nat, a2 = some b ∧ (b ∈ sL κ15.1 ∧ sK κ15.1 b = 13) ∧ ∀ z32 : Int32, z32 = sI κ15.1 b 3 → ∀ z33 : Int32, z33 = z32 ^^^ (-1) → ∀ z34 : Int32, z34 = z16 &&& z33 → ((z34.toInt = 0) → K20 () κ15) ∧ ((¬ z34.toInt = 0) → K29 () κ15))) (fun (x27 : Unit) (κ28 : CS) => (0 ≤ (0 : Int32).toInt ∧ (0 : Int32).toInt ≤ 1) ∧ post 0 κ28))))) (fun (x18 : Unit) (κ19 : CS) => ∀ z23 : Int32, z23 = x4 + 1 → K6 z23 κ19)) κ12) κ9)) κ5) 0 κ2) κ
theorem dX11_sharesWithOthers_0 : decode cX11_sharesWithOthers 0 = .ok (.aload_n 2, 1) := by decide +kernel
theorem dX11_sharesWithOthers_1 : decode cX11_sharesWithOthers 1 = .ok (.getfield 653, 3) := by decide +kernel
theorem dX11_sharesWithOthers_4 : decode cX11_sharesWithOthers 4 = .ok (.invokestatic 762, 3) := by decide +kernel
theorem dX11_sharesWithOthers_7 : decode cX11_sharesWithOthers 7 = .ok (.istore_n 3, 1) := by decide +kernel
theorem dX11_sharesWithOthers_8 : decode cX11_sharesWithOthers 8 = .ok (.iconst 0, 1) := by decide +kernel
theorem dX11_sharesWithOthers_9 : decode cX11_sharesWithOthers 9 = .ok (.istore 4, 2) := by decide +kernel
theorem dX11_sharesWithOthers_11 : decode cX11_sharesWithOthers 11 = .ok (.iload 4, 2) := by decide +kernel
theorem dX11_sharesWithOthers_13 : decode cX11_sharesWithOthers 13 = .ok (.aload_n 0, 1) := by decide +kernel
theorem dX11_sharesWithOthers_14 : decode cX11_sharesWithOthers 14 = .ok (.getfield 52, 3) := by decide +kernel
theorem dX11_sharesWithOthers_17 : decode cX11_sharesWithOthers 17 = .ok (.invokevirtual 161, 3) := by decide +kernel
theorem dX11_sharesWithOthers_20 : decode cX11_sharesWithOthers 20 = .ok (.if_icmp .ge 77, 3) := by decide +kernel
theorem dX11_sharesWithOthers_23 : decode cX11_sharesWithOthers 23 = .ok (.aload_n 0, 1) := by decide +kernel
theorem dX11_sharesWithOthers_24 : decode cX11_sharesWithOthers 24 = .ok (.getfield 52, 3) := by decide +kernel
theorem dX11_sharesWithOthers_27 : decode cX11_sharesWithOthers 27 = .ok (.iload 4, 2) := by decide +kernel
theorem dX11_sharesWithOthers_29 : decode cX11_sharesWithOthers 29 = .ok (.invokevirtual 164, 3) := by decide +kernel
theorem dX11_sharesWithOthers_32 : decode cX11_sharesWithOthers 32 = .ok (.checkcast 168, 3) := by decide +kernel
theorem dX11_sharesWithOthers_35 : decode cX11_sharesWithOthers 35 = .ok (.astore 5, 2) := by decide +kernel
theorem dX11_sharesWithOthers_37 : decode cX11_sharesWithOthers 37 = .ok (.aload 5, 2) := by decide +kernel
theorem dX11_sharesWithOthers_39 : decode cX11_sharesWithOthers 39 = .ok (.getfield 765, 3) := by decide +kernel
theorem dX11_sharesWithOthers_42 : decode cX11_sharesWithOthers 42 = .ok (.invokestatic 762, 3) := by decide +kernel
theorem dX11_sharesWithOthers_45 : decode cX11_sharesWithOthers 45 = .ok (.istore 6, 2) := by decide +kernel
theorem dX11_sharesWithOthers_47 : decode cX11_sharesWithOthers 47 = .ok (.aload 5, 2) := by decide +kernel
theorem dX11_sharesWithOthers_49 : decode cX11_sharesWithOthers 49 = .ok (.getfield 564, 3) := by decide +kernel
theorem dX11_sharesWithOthers_52 : decode cX11_sharesWithOthers 52 = .ok (.aload_n 1, 1) := by decide +kernel
theorem dX11_sharesWithOthers_53 : decode cX11_sharesWithOthers 53 = .ok (.if_acmp .ne 38, 3) := by decide +kernel
theorem dX11_sharesWithOthers_56 : decode cX11_sharesWithOthers 56 = .ok (.iload_n 3, 1) := by decide +kernel
theorem dX11_sharesWithOthers_57 : decode cX11_sharesWithOthers 57 = .ok (.ifCond .eq 34, 3) := by decide +kernel
theorem dX11_sharesWithOthers_60 : decode cX11_sharesWithOthers 60 = .ok (.iload 6, 2) := by decide +kernel
theorem dX11_sharesWithOthers_62 : decode cX11_sharesWithOthers 62 = .ok (.ifCond .eq 29, 3) := by decide +kernel
theorem dX11_sharesWithOthers_65 : decode cX11_sharesWithOthers 65 = .ok (.iload_n 3, 1) := by decide +kernel
theorem dX11_sharesWithOthers_66 : decode cX11_sharesWithOthers 66 = .ok (.aload 5, 2) := by decide +kernel
theorem dX11_sharesWithOthers_68 : decode cX11_sharesWithOthers 68 = .ok (.getfield 766, 3) := by decide +kernel
theorem dX11_sharesWithOthers_71 : decode cX11_sharesWithOthers 71 = .ok (.iconst (-1), 1) := by decide +kernel
theorem dX11_sharesWithOthers_72 : decode cX11_sharesWithOthers 72 = .ok (.ixor, 1) := by decide +kernel
theorem dX11_sharesWithOthers_73 : decode cX11_sharesWithOthers 73 = .ok (.iand, 1) := by decide +kernel
theorem dX11_sharesWithOthers_74 : decode cX11_sharesWithOthers 74 = .ok (.ifCond .ne 15, 3) := by decide +kernel
theorem dX11_sharesWithOthers_77 : decode cX11_sharesWithOthers 77 = .ok (.iload 6, 2) := by decide +kernel
theorem dX11_sharesWithOthers_79 : decode cX11_sharesWithOthers 79 = .ok (.aload_n 2, 1) := by decide +kernel
theorem dX11_sharesWithOthers_80 : decode cX11_sharesWithOthers 80 = .ok (.getfield 634, 3) := by decide +kernel
theorem dX11_sharesWithOthers_83 : decode cX11_sharesWithOthers 83 = .ok (.iconst (-1), 1) := by decide +kernel
theorem dX11_sharesWithOthers_84 : decode cX11_sharesWithOthers 84 = .ok (.ixor, 1) := by decide +kernel
theorem dX11_sharesWithOthers_85 : decode cX11_sharesWithOthers 85 = .ok (.iand, 1) := by decide +kernel
theorem dX11_sharesWithOthers_86 : decode cX11_sharesWithOthers 86 = .ok (.ifCond .eq 5, 3) := by decide +kernel
theorem dX11_sharesWithOthers_89 : decode cX11_sharesWithOthers 89 = .ok (.iconst 0, 1) := by decide +kernel
theorem dX11_sharesWithOthers_90 : decode cX11_sharesWithOthers 90 = .ok (.ireturn, 1) := by decide +kernel
theorem dX11_sharesWithOthers_91 : decode cX11_sharesWithOthers 91 = .ok (.iinc 4 1, 3) := by decide +kernel
theorem dX11_sharesWithOthers_94 : decode cX11_sharesWithOthers 94 = .ok (.goto (-83), 3) := by decide +kernel
theorem dX11_sharesWithOthers_97 : decode cX11_sharesWithOthers 97 = .ok (.iconst 1, 1) := by decide +kernel
theorem dX11_sharesWithOthers_98 : decode cX11_sharesWithOthers 98 = .ok (.ireturn, 1) := by decide +kernel
set_option maxRecDepth 100000 in
set_option maxHeartbeats 4000000 in
theorem c_X11_sharesWithOthers (l : Launch) (D : va_G) (t : Nat → ClassId) (G : GE) (κ : CS) (h : Nat) (a1 : Option Nat) (a2 : Option Nat) (post : Int32 → CS → Prop) (hw : F_X11_sharesWithOthers G h a1 a2 post κ) (sz : Nat) : CMi l D t yX11_sharesWithOthers cX11_sharesWithOthers 7 (some .boolean) 3 78 G κ sz [.ref h, va_rf a1, va_rf a2] post := by
  refine c_go (by decide) (by cases a1 <;> cases a2 <;> exact Nat.le_of_ble_eq_true rfl) ?_
  intro p e s m below meth c ls A hF hr hlk hin hAe hH hA hE hl
  unfold cB
  rw [hAe]
  clear hAe
  have hF : FX p m c cX11_sharesWithOthers 7 s _ RX11 D t := hF
  have hx := hF.1.1
  have hb := hF.1.2.1
  have hl : lv_has ls 7 [(0, .ref h), (1, va_rf a1), (2, va_rf a2)] := (by have h2 := hl; clear hw; revert h2; cases a1 <;> cases a2 <;> exact id)
  unfold F_X11_sharesWithOthers at hw
  refine w_aloadq_n hF dX11_sharesWithOthers_0 rfl (lv_at hl 2 rfl) ?_
  refine cw_getI (q := a2) hF hH fk_X11_653 dX11_sharesWithOthers_1 hw (fun z1 hw => ?_)
  refine cw_cSi (As := [.int z1]) (rest := []) hF hH hA hE ms_X11_762 (fun sz => c_X11_wanted l D t G _ z1 _ hw sz) dX11_sharesWithOthers_4 ⟨Nat.le_of_ble_eq_true rfl, Nat.le_of_ble_eq_true rfl⟩ rfl hl.1 (Nat.le_of_ble_eq_true rfl) rfl (fun z3 κ2 H locs cells slots hw hH => ?_)
  refine lv_istore_n (lv' := [(3, .int z3), (0, .ref h), (1, va_rf a1), (2, va_rf a2)]) hx hb dX11_sharesWithOthers_7 rfl hl (by decide) (by generalize a2 = y; cases y <;> rfl) (fun ls hl => ?_)
  refine lv_iconst (v := 0) hx hb dX11_sharesWithOthers_8 (by decide) ?_
  refine lv_istore (lv' := [(4, .int 0), (3, .int z3), (0, .ref h), (1, va_rf a1), (2, va_rf a2)]) hx hb dX11_sharesWithOthers_9 hl (by decide) rfl (fun ls hl => ?_)
  have hl : lv_has ls 7 [(4, .int 0), (3, .int z3), (2, va_rf a2), (1, va_rf a1), (0, .ref h)] := lv_sub hl [0, 1, 4, 3, 2] rfl
  refine cw_loop (β := Int32) (fun x4 => [(4, .int x4), (3, .int z3), (2, va_rf a2), (1, va_rf a1), (0, .ref h)]) 0 hl hw hH (fun K6 x4 κ5 ls H locs cells slots hl hw hH ih7 => ?_)
  have hl : lv_has ls 7 [(4, .int x4), (3, .int z3), (2, va_rf a2), (1, va_rf a1), (0, .ref h)] := hl
  refine lv_iload hx hb dX11_sharesWithOthers_11 (lv_at hl 0 rfl) ?_
  refine lv_aload_n hx hb dX11_sharesWithOthers_13 rfl (lv_at hl 4 rfl) ?_
  refine cw_getPr (a := h) hF hH fk_X11_52 dX11_sharesWithOthers_14 hw (fun z8 hw => ?_)
  refine cw_cViq (q := z8) (As := []) (rest := [.int x4]) hF hH hA hE mv_X11_161 ci_Jx4a65c (by decide) hw (fun b hw sz => c_Jx4a65c_size_8abf5 l D t G _ b  _ hw sz) dX11_sharesWithOthers_17 ⟨Nat.le_of_ble_eq_true rfl, Nat.le_of_ble_eq_true rfl⟩ rfl hl.1 (Nat.le_of_ble_eq_true rfl) rfl (fun z10 κ9 H locs cells slots hw hH => ?_)
  refine w_icmp_ge (tgt := 97) hF dX11_sharesWithOthers_20 rfl hw (fun hw => ?_) (fun hw => ?_)
  · refine lv_iconst (v := 1) hx hb dX11_sharesWithOthers_97 (by decide) ?_
    exact cw_retz hF hH ⟨rfl, rfl⟩ hr hlk dX11_sharesWithOthers_98 hw
  · refine lv_aload_n hx hb dX11_sharesWithOthers_23 rfl (lv_at hl 4 rfl) ?_
    refine cw_getPr (a := h) hF hH fk_X11_52 dX11_sharesWithOthers_24 hw (fun z11 hw => ?_)
    refine lv_iload hx hb dX11_sharesWithOthers_27 (lv_at hl 0 rfl) ?_
    refine cw_cVqq (q := z11) (As := [.int x4]) (rest := []) hF hH hA hE mv_X11_164 ci_Jx4a65c (by decide) hw (fun b hw sz => c_Jx4a65c_get_915e3 l D t G _ b x4 _ hw sz) dX11_sharesWithOthers_29 ⟨Nat.le_of_ble_eq_true rfl, Nat.le_of_ble_eq_true rfl⟩ rfl hl.1 (Nat.le_of_ble_eq_true rfl) rfl (fun z13 κ12 H locs cells slots hw hH => ?_)
    refine cw_cast (q := z13) hF hH ci_X5 (by decide) (wc_16 7 rfl) (by decide) dX11_sharesWithOthers_32 hw (fun hw => ?_)
    refine w_astoreq (lv' := [(5, va_rf z13), (4, .int x4), (3, .int z3), (2, va_rf a2), (1, va_rf a1), (0, .ref h)]) hF dX11_sharesWithOthers_35 hl (by decide) rfl (fun ls hl => ?_)
    refine w_aloadq hF dX11_sharesWithOthers_37 (lv_at hl 0 rfl) ?_
    refine cw_getI (q := z13) hF hH fk_X11_765 dX11_sharesWithOthers_39 hw (fun z14 hw => ?_)
    refine cw_cSi (As := [.int z14]) (rest := []) hF hH hA hE ms_X11_762 (fun sz => c_X11_wanted l D t G _ z14 _ hw sz) dX11_sharesWithOthers_42 ⟨Nat.le_of_ble_eq_true rfl, Nat.le_of_ble_eq_true rfl⟩ rfl hl.1 (Nat.le_of_ble_eq_true rfl) rfl (fun z16 κ15 H locs cells slots hw hH => ?_)
    refine lv_istore (lv' := [(6, .int z16), (5, va_rf z13), (4, .int x4), (3, .int z3), (2, va_rf a2), (1, va_rf a1), (0, .ref h)]) hx hb dX11_sharesWithOthers_45 hl (by decide) (by generalize z13 = y; cases y <;> rfl) (fun ls hl => ?_)
    refine w_aloadq hF dX11_sharesWithOthers_47 (lv_at hl 1 rfl) ?_
    refine cw_getP (q := z13) hF hH fk_X11_564 dX11_sharesWithOthers_49 hw (fun z17 hw => ?_)
    refine w_aloadq_n hF dX11_sharesWithOthers_52 rfl (lv_at hl 5 rfl) ?_
    obtain ⟨K20, hK21, hw⟩ := jc_open hw
    refine cw_join (K := K20) 91 (fun (x18 : Unit) => [(4, .int x4), (3, .int z3), (2, va_rf a2), (1, va_rf a1), (0, .ref h)]) (fun (x18 : Unit) => []) hl hH (fun x18 κ19 ls H locs cells slots hl hw hH => ?_) (fun jn22 => ?_)
    · have hw := hK21 x18 κ19 hw
      have hl : lv_has ls 7 [(4, .int x4), (3, .int z3), (2, va_rf a2), (1, va_rf a1), (0, .ref h)] := hl
      obtain ⟨z23, ez23⟩ : ∃ z : Int32, z = x4 + 1 := ⟨_, rfl⟩
      have hw := hw z23 ez23
      refine lv_iinc (lv' := [(4, .int z23), (3, .int z3), (2, va_rf a2), (1, va_rf a1), (0, .ref h)]) (k := 0) (v := z23) hx hb dX11_sharesWithOthers_91 hl rfl ez23.symm (by decide) rfl (fun ls hl => ?_)
      refine lv_goto (tgt := 11) hx hb dX11_sharesWithOthers_94 rfl ?_
      exact ih7 z23 κ19 ls _ _ _ _ hl hw hH
    · skip
      refine cw_acmp_ne (rx := z17) (ry := a1) (tgt := 91) hF dX11_sharesWithOthers_53 rfl hw (fun hw => ?_) (fun hw => ?_)
      · have hl : lv_has ls 7 [(4, .int x4), (3, .int z3), (2, va_rf a2), (1, va_rf a1), (0, .ref h)] := lv_sub hl [2, 3, 4, 5, 6] rfl
        exact jn22 () κ15 ls _ _ _ _ hl hw hH
      · refine lv_iload_n hx hb dX11_sharesWithOthers_56 rfl (lv_at hl 3 rfl) ?_
        refine w_if_eq (tgt := 91) hF dX11_sharesWithOthers_57 rfl hw (fun hw => ?_) (fun hw => ?_)
        · have hl : lv_has ls 7 [(4, .int x4), (3, .int z3), (2, va_rf a2), (1, va_rf a1), (0, .ref h)] := lv_sub hl [2, 3, 4, 5, 6] rfl
          exact jn22 () κ15 ls _ _ _ _ hl hw hH
        · refine lv_iload hx hb dX11_sharesWithOthers_60 (lv_at hl 0 rfl) ?_
          refine w_if_eq (tgt := 91) hF dX11_sharesWithOthers_62 rfl hw (fun hw => ?_) (fun hw => ?_)
          · have hl : lv_has ls 7 [(4, .int x4), (3, .int z3), (2, va_rf a2), (1, va_rf a1), (0, .ref h)] := lv_sub hl [2, 3, 4, 5, 6] rfl
            exact jn22 () κ15 ls _ _ _ _ hl hw hH
          · refine lv_iload_n hx hb dX11_sharesWithOthers_65 rfl (lv_at hl 3 rfl) ?_
            refine w_aloadq hF dX11_sharesWithOthers_66 (lv_at hl 1 rfl) ?_
            refine cw_getI (q := z13) hF hH fk_X11_766 dX11_sharesWithOthers_68 hw (fun z24 hw => ?_)
            refine lv_iconst (v := (-1)) hx hb dX11_sharesWithOthers_71 (by decide) ?_
            refine lv_ixor hx hb dX11_sharesWithOthers_72 ?_
            refine w_nmi hw (fun z25 hw => ?_)
            refine lv_iand hx hb dX11_sharesWithOthers_73 ?_
            refine w_nmi hw (fun z26 hw => ?_)
            obtain ⟨K29, hK30, hw⟩ := jc_open hw
            refine cw_join (K := K29) 89 (fun (x27 : Unit) => []) (fun (x27 : Unit) => []) hl hH (fun x27 κ28 ls H locs cells slots hl hw hH => ?_) (fun jn31 => ?_)
            · have hw := hK30 x27 κ28 hw
              have hl : lv_has ls 7 [] := hl
              refine lv_iconst (v := 0) hx hb dX11_sharesWithOthers_89 (by decide) ?_
              exact cw_retz hF hH ⟨rfl, rfl⟩ hr hlk dX11_sharesWithOthers_90 hw
            · skip
              refine w_if_ne (tgt := 89) hF dX11_sharesWithOthers_74 rfl hw (fun hw => ?_) (fun hw => ?_)
              · have hl : lv_has ls 7 [] := lv_sub hl [] rfl
                exact jn31 () κ15 ls _ _ _ _ hl hw hH
              · refine lv_iload hx hb dX11_sharesWithOthers_77 (lv_at hl 0 rfl) ?_
                refine w_aloadq_n hF dX11_sharesWithOthers_79 rfl (lv_at hl 4 rfl) ?_
                refine cw_getI (q := a2) hF hH fk_X11_634 dX11_sharesWithOthers_80 hw (fun z32 hw => ?_)
                refine lv_iconst (v := (-1)) hx hb dX11_sharesWithOthers_83 (by decide) ?_
                refine lv_ixor hx hb dX11_sharesWithOthers_84 ?_
                refine w_nmi hw (fun z33 hw => ?_)
                refine lv_iand hx hb dX11_sharesWithOthers_85 ?_
                refine w_nmi hw (fun z34 hw => ?_)
                refine w_if_eq (tgt := 91) hF dX11_sharesWithOthers_86 rfl hw (fun hw => ?_) (fun hw => ?_)
                · have hl : lv_has ls 7 [(4, .int x4), (3, .int z3), (2, va_rf a2), (1, va_rf a1), (0, .ref h)] := lv_sub hl [2, 3, 4, 5, 6] rfl
                  exact jn22 () κ15 ls _ _ _ _ hl hw hH
                · have hl : lv_has ls 7 [] := lv_sub hl [] rfl
                  exact jn31 () κ15 ls _ _ _ _ hl hw hH
set_option maxRecDepth 100000 in
def F_X11_breakLevelTwo (G : GE) (h : Nat) (a1 : Option Nat) (a2 : Option Nat) (post : CS → Prop) (κ : CS) : Prop := lc (fun (K3 : Int32 → CS → Prop) (x1 : Int32) (κ2 : CS) => (h ∈ sL κ2.1 ∧ sK κ2.1 h = 1) ∧ ∀ z5 : Option Nat, z5 = sP κ2.1 h 10 → ∃ b : Nat, z5 = some b ∧ (b ∈ sL κ2.1 ∧ sK κ2.1 b = 7) ∧ F_Jx4a65c_size_8abf5 G b  (fun (z7 : Int32) (κ6 : CS) => ((z7.toInt ≤ x1.toInt) → post κ6) ∧ ((x1.toInt < z7.toInt) → (h ∈ sL κ6.1 ∧ sK κ6.1 h = 1) ∧ ∀ z8 : Option Nat, z8 = sP κ6.1 h 10 → ∃ b : Nat, z8 = some b ∧ (b ∈ sL κ6.1 ∧ sK κ6.1 b = 7) ∧ F_Jx4a65c_get_915e3 G b x1 (fun (z10 : Option Nat) (κ9 : CS) => (z10 = none ∨ ∃ b : Nat, z10 = some b ∧ b ∈ sL κ9.1 ∧ sK κ9.1 b = 10) ∧ ∃ b : Nat, z10 = some b ∧ (b ∈ sL κ9.1 ∧ sK κ9.1 b = 10) ∧ ∀ z11 : Option Nat, z11 = sP κ9.1 b 2 → jc (fun (K14 : Unit → CS → Prop) => ((¬ z11 = a1) → K14 () κ9) ∧ ((z11 = a1) → ((z10 = a2) → K14 () κ9) ∧ ((¬ z10 = a2) → ∃ b : Nat, z10 = some b ∧ (b ∈ sL κ9.1 ∧ sK κ9.1 b = 10) ∧ ∀ z18 : Int32, z18 = sI κ9.1 b 7 → ((¬ z18.toInt = (1 : Int32).toInt) → K14 () κ9) ∧ ((z18.toInt = (1 : Int32).toInt) → ∃ b : Nat, z10 = some b ∧ (b ∈ sL κ9.1 ∧ sK κ9.1 b = 10) ∧ ∀ κ19 : CS, κ19 = (h_uI κ9.1 b 7 0, κ9.2) → (h ∈ sL κ19.1 ∧ sK κ19.1 h = 1) ∧ F_X11_sendBreak G h z10 0 (fun (κ20 : CS) => K14 () κ20) κ19)))) (fun (x12 : Unit) (κ13 : CS) => ∀ z17 : Int32, z17 = x1 + 1 → K3 z17 κ13)) κ6)) κ2) 0 κ
theorem dX11_breakLevelTwo_0 : decode cX11_breakLevelTwo 0 = .ok (.iconst 0, 1) := by decide +kernel
theorem dX11_breakLevelTwo_1 : decode cX11_breakLevelTwo 1 = .ok (.istore_n 3, 1) := by decide +kernel
theorem dX11_breakLevelTwo_2 : decode cX11_breakLevelTwo 2 = .ok (.iload_n 3, 1) := by decide +kernel
theorem dX11_breakLevelTwo_3 : decode cX11_breakLevelTwo 3 = .ok (.aload_n 0, 1) := by decide +kernel
theorem dX11_breakLevelTwo_4 : decode cX11_breakLevelTwo 4 = .ok (.getfield 52, 3) := by decide +kernel
theorem dX11_breakLevelTwo_7 : decode cX11_breakLevelTwo 7 = .ok (.invokevirtual 161, 3) := by decide +kernel
theorem dX11_breakLevelTwo_10 : decode cX11_breakLevelTwo 10 = .ok (.if_icmp .ge 59, 3) := by decide +kernel
theorem dX11_breakLevelTwo_13 : decode cX11_breakLevelTwo 13 = .ok (.aload_n 0, 1) := by decide +kernel
theorem dX11_breakLevelTwo_14 : decode cX11_breakLevelTwo 14 = .ok (.getfield 52, 3) := by decide +kernel
theorem dX11_breakLevelTwo_17 : decode cX11_breakLevelTwo 17 = .ok (.iload_n 3, 1) := by decide +kernel
theorem dX11_breakLevelTwo_18 : decode cX11_breakLevelTwo 18 = .ok (.invokevirtual 164, 3) := by decide +kernel
theorem dX11_breakLevelTwo_21 : decode cX11_breakLevelTwo 21 = .ok (.checkcast 168, 3) := by decide +kernel
theorem dX11_breakLevelTwo_24 : decode cX11_breakLevelTwo 24 = .ok (.astore 4, 2) := by decide +kernel
theorem dX11_breakLevelTwo_26 : decode cX11_breakLevelTwo 26 = .ok (.aload 4, 2) := by decide +kernel
theorem dX11_breakLevelTwo_28 : decode cX11_breakLevelTwo 28 = .ok (.getfield 564, 3) := by decide +kernel
theorem dX11_breakLevelTwo_31 : decode cX11_breakLevelTwo 31 = .ok (.aload_n 1, 1) := by decide +kernel
theorem dX11_breakLevelTwo_32 : decode cX11_breakLevelTwo 32 = .ok (.if_acmp .ne 31, 3) := by decide +kernel
theorem dX11_breakLevelTwo_35 : decode cX11_breakLevelTwo 35 = .ok (.aload 4, 2) := by decide +kernel
theorem dX11_breakLevelTwo_37 : decode cX11_breakLevelTwo 37 = .ok (.aload_n 2, 1) := by decide +kernel
theorem dX11_breakLevelTwo_38 : decode cX11_breakLevelTwo 38 = .ok (.if_acmp .eq 25, 3) := by decide +kernel
theorem dX11_breakLevelTwo_41 : decode cX11_breakLevelTwo 41 = .ok (.aload 4, 2) := by decide +kernel
theorem dX11_breakLevelTwo_43 : decode cX11_breakLevelTwo 43 = .ok (.getfield 726, 3) := by decide +kernel
theorem dX11_breakLevelTwo_46 : decode cX11_breakLevelTwo 46 = .ok (.iconst 1, 1) := by decide +kernel
theorem dX11_breakLevelTwo_47 : decode cX11_breakLevelTwo 47 = .ok (.if_icmp .ne 16, 3) := by decide +kernel
theorem dX11_breakLevelTwo_50 : decode cX11_breakLevelTwo 50 = .ok (.aload 4, 2) := by decide +kernel
theorem dX11_breakLevelTwo_52 : decode cX11_breakLevelTwo 52 = .ok (.iconst 0, 1) := by decide +kernel
theorem dX11_breakLevelTwo_53 : decode cX11_breakLevelTwo 53 = .ok (.putfield 726, 3) := by decide +kernel
theorem dX11_breakLevelTwo_56 : decode cX11_breakLevelTwo 56 = .ok (.aload_n 0, 1) := by decide +kernel
theorem dX11_breakLevelTwo_57 : decode cX11_breakLevelTwo 57 = .ok (.aload 4, 2) := by decide +kernel
theorem dX11_breakLevelTwo_59 : decode cX11_breakLevelTwo 59 = .ok (.iconst 0, 1) := by decide +kernel
theorem dX11_breakLevelTwo_60 : decode cX11_breakLevelTwo 60 = .ok (.invokevirtual 759, 3) := by decide +kernel
theorem dX11_breakLevelTwo_63 : decode cX11_breakLevelTwo 63 = .ok (.iinc 3 1, 3) := by decide +kernel
theorem dX11_breakLevelTwo_66 : decode cX11_breakLevelTwo 66 = .ok (.goto (-64), 3) := by decide +kernel
theorem dX11_breakLevelTwo_69 : decode cX11_breakLevelTwo 69 = .ok (.return_, 1) := by decide +kernel
set_option maxRecDepth 100000 in
set_option maxHeartbeats 4000000 in
theorem c_X11_breakLevelTwo (l : Launch) (D : va_G) (t : Nat → ClassId) (G : GE) (κ : CS) (h : Nat) (a1 : Option Nat) (a2 : Option Nat) (post : CS → Prop) (hw : F_X11_breakLevelTwo G h a1 a2 post κ) (sz : Nat) : CMv l D t yX11_breakLevelTwo cX11_breakLevelTwo 5 4 107 G κ sz [.ref h, va_rf a1, va_rf a2] post := by
  refine c_go (by decide) (by cases a1 <;> cases a2 <;> exact Nat.le_of_ble_eq_true rfl) ?_
  intro p e s m below meth c ls A hF hr hlk hin hAe hH hA hE hl
  unfold cB
  rw [hAe]
  clear hAe
  have hF : FX p m c cX11_breakLevelTwo 5 s _ RX11 D t := hF
  have hx := hF.1.1
  have hb := hF.1.2.1
  have hl : lv_has ls 5 [(0, .ref h), (1, va_rf a1), (2, va_rf a2)] := (by have h2 := hl; clear hw; revert h2; cases a1 <;> cases a2 <;> exact id)
  unfold F_X11_breakLevelTwo at hw
  refine lv_iconst (v := 0) hx hb dX11_breakLevelTwo_0 (by decide) ?_
  refine lv_istore_n (lv' := [(3, .int 0), (0, .ref h), (1, va_rf a1), (2, va_rf a2)]) hx hb dX11_breakLevelTwo_1 rfl hl (by decide) (by generalize a2 = y; cases y <;> rfl) (fun ls hl => ?_)
  have hl : lv_has ls 5 [(3, .int 0), (2, va_rf a2), (1, va_rf a1), (0, .ref h)] := lv_sub hl [0, 3, 2, 1] rfl
  refine cw_loop (β := Int32) (fun x1 => [(3, .int x1), (2, va_rf a2), (1, va_rf a1), (0, .ref h)]) 0 hl hw hH (fun K3 x1 κ2 ls H locs cells slots hl hw hH ih4 => ?_)
  have hl : lv_has ls 5 [(3, .int x1), (2, va_rf a2), (1, va_rf a1), (0, .ref h)] := hl
  refine lv_iload_n hx hb dX11_breakLevelTwo_2 rfl (lv_at hl 0 rfl) ?_
  refine lv_aload_n hx hb dX11_breakLevelTwo_3 rfl (lv_at hl 3 rfl) ?_
  refine cw_getPr (a := h) hF hH fk_X11_52 dX11_breakLevelTwo_4 hw (fun z5 hw => ?_)
  refine cw_cViq (q := z5) (As := []) (rest := [.int x1]) hF hH hA hE mv_X11_161 ci_Jx4a65c (by decide) hw (fun b hw sz => c_Jx4a65c_size_8abf5 l D t G _ b  _ hw sz) dX11_breakLevelTwo_7 ⟨Nat.le_of_ble_eq_true rfl, Nat.le_of_ble_eq_true rfl⟩ rfl hl.1 (Nat.le_of_ble_eq_true rfl) rfl (fun z7 κ6 H locs cells slots hw hH => ?_)
  refine w_icmp_ge (tgt := 69) hF dX11_breakLevelTwo_10 rfl hw (fun hw => ?_) (fun hw => ?_)
  · exact cw_retv hF hH ⟨rfl, rfl⟩ hr hlk dX11_breakLevelTwo_69 hw
  · refine lv_aload_n hx hb dX11_breakLevelTwo_13 rfl (lv_at hl 3 rfl) ?_
    refine cw_getPr (a := h) hF hH fk_X11_52 dX11_breakLevelTwo_14 hw (fun z8 hw => ?_)
    refine lv_iload_n hx hb dX11_breakLevelTwo_17 rfl (lv_at hl 0 rfl) ?_
    refine cw_cVqq (q := z8) (As := [.int x1]) (rest := []) hF hH hA hE mv_X11_164 ci_Jx4a65c (by decide) hw (fun b hw sz => c_Jx4a65c_get_915e3 l D t G _ b x1 _ hw sz) dX11_breakLevelTwo_18 ⟨Nat.le_of_ble_eq_true rfl, Nat.le_of_ble_eq_true rfl⟩ rfl hl.1 (Nat.le_of_ble_eq_true rfl) rfl (fun z10 κ9 H locs cells slots hw hH => ?_)
    refine cw_cast (q := z10) hF hH ci_X5 (by decide) (wc_16 7 rfl) (by decide) dX11_breakLevelTwo_21 hw (fun hw => ?_)
    refine w_astoreq (lv' := [(4, va_rf z10), (3, .int x1), (2, va_rf a2), (1, va_rf a1), (0, .ref h)]) hF dX11_breakLevelTwo_24 hl (by decide) rfl (fun ls hl => ?_)
    refine w_aloadq hF dX11_breakLevelTwo_26 (lv_at hl 0 rfl) ?_
    refine cw_getP (q := z10) hF hH fk_X11_564 dX11_breakLevelTwo_28 hw (fun z11 hw => ?_)
    refine w_aloadq_n hF dX11_breakLevelTwo_31 rfl (lv_at hl 3 rfl) ?_
    obtain ⟨K14, hK15, hw⟩ := jc_open hw
    refine cw_join (K := K14) 63 (fun (x12 : Unit) => [(3, .int x1), (2, va_rf a2), (1, va_rf a1), (0, .ref h)]) (fun (x12 : Unit) => []) hl hH (fun x12 κ13 ls H locs cells slots hl hw hH => ?_) (fun jn16 => ?_)
    · have hw := hK15 x12 κ13 hw
      have hl : lv_has ls 5 [(3, .int x1), (2, va_rf a2), (1, va_rf a1), (0, .ref h)] := hl
      obtain ⟨z17, ez17⟩ : ∃ z : Int32, z = x1 + 1 := ⟨_, rfl⟩
      have hw := hw z17 ez17
      refine lv_iinc (lv' := [(3, .int z17), (2, va_rf a2), (1, va_rf a1), (0, .ref h)]) (k := 0) (v := z17) hx hb dX11_breakLevelTwo_63 hl rfl ez17.symm (by decide) (by generalize a2 = y; cases y <;> rfl) (fun ls hl => ?_)
      refine lv_goto (tgt := 2) hx hb dX11_breakLevelTwo_66 rfl ?_
      exact ih4 z17 κ13 ls _ _ _ _ hl hw hH
    · skip
      refine cw_acmp_ne (rx := z11) (ry := a1) (tgt := 63) hF dX11_breakLevelTwo_32 rfl hw (fun hw => ?_) (fun hw => ?_)
      · have hl : lv_has ls 5 [(3, .int x1), (2, va_rf a2), (1, va_rf a1), (0, .ref h)] := lv_sub hl [1, 2, 3, 4] rfl
        exact jn16 () κ9 ls _ _ _ _ hl hw hH
      · refine w_aloadq hF dX11_breakLevelTwo_35 (lv_at hl 0 rfl) ?_
        refine w_aloadq_n hF dX11_breakLevelTwo_37 rfl (lv_at hl 2 rfl) ?_
        refine cw_acmp_eq (rx := z10) (ry := a2) (tgt := 63) hF dX11_breakLevelTwo_38 rfl hw (fun hw => ?_) (fun hw => ?_)
        · have hl : lv_has ls 5 [(3, .int x1), (2, va_rf a2), (1, va_rf a1), (0, .ref h)] := lv_sub hl [1, 2, 3, 4] rfl
          exact jn16 () κ9 ls _ _ _ _ hl hw hH
        · refine w_aloadq hF dX11_breakLevelTwo_41 (lv_at hl 0 rfl) ?_
          refine cw_getI (q := z10) hF hH fk_X11_726 dX11_breakLevelTwo_43 hw (fun z18 hw => ?_)
          refine lv_iconst (v := 1) hx hb dX11_breakLevelTwo_46 (by decide) ?_
          refine w_icmp_ne (tgt := 63) hF dX11_breakLevelTwo_47 rfl hw (fun hw => ?_) (fun hw => ?_)
          · have hl : lv_has ls 5 [(3, .int x1), (2, va_rf a2), (1, va_rf a1), (0, .ref h)] := lv_sub hl [1, 2, 3, 4] rfl
            exact jn16 () κ9 ls _ _ _ _ hl hw hH
          · refine w_aloadq hF dX11_breakLevelTwo_50 (lv_at hl 0 rfl) ?_
            refine lv_iconst (v := 0) hx hb dX11_breakLevelTwo_52 (by decide) ?_
            refine cw_putI (q := z10) (v := 0) hF hH fk_X11_726 dX11_breakLevelTwo_53 rfl rfl rfl hw (fun κ19 H locs cells slots hw hH => ?_)
            refine lv_aload_n hx hb dX11_breakLevelTwo_56 rfl (lv_at hl 4 rfl) ?_
            refine w_aloadq hF dX11_breakLevelTwo_57 (lv_at hl 0 rfl) ?_
            refine lv_iconst (v := 0) hx hb dX11_breakLevelTwo_59 (by decide) ?_
            refine cw_cVv (b := h) (As := [va_rf z10, .int 0]) (rest := []) hF hH hA hE mv_X11_759 ci_X11 (by decide) (fun sz => c_X11_sendBreak l D t G _ h z10 0 _ hw.2 sz) dX11_breakLevelTwo_60 hw.1 ⟨Nat.le_of_ble_eq_true rfl, Nat.le_of_ble_eq_true rfl⟩ rfl hl.1 (Nat.le_of_ble_eq_true rfl) rfl (fun κ20 H locs cells slots hw hH => ?_)
            have hl : lv_has ls 5 [(3, .int x1), (2, va_rf a2), (1, va_rf a1), (0, .ref h)] := lv_sub hl [1, 2, 3, 4] rfl
            exact jn16 () κ20 ls _ _ _ _ hl hw hH
set_option maxRecDepth 100000 in
def F_X11_openThere (G : GE) (h : Nat) (a1 : Option Nat) (a2 : Option Nat) (a3 : Option Nat) (post : Int32 → CS → Prop) (κ : CS) : Prop := ∃ b : Nat, a2 = some b ∧ (b ∈ sL κ.1 ∧ sK κ.1 b = 13) ∧ ∀ z1 : Option Nat, z1 = sP κ.1 b 11 → (h ∈ sL κ.1 ∧ sK κ.1 h = 1) ∧ F_X11_refusal G h z1 a2 (fun (z3 : Int32) (κ2 : CS) => ((z3.toInt = 0) → ∃ b : Nat, z1 = some b ∧ (b ∈ sL κ2.1 ∧ sK κ2.1 b = 5) ∧ ∀ z4 : Int32, z4 = sI κ2.1 b 2 → jc (fun (K7 : (Option Nat) → CS → Prop) => ((z4.toInt = 0) → (h ∈ sL κ2.1 ∧ sK κ2.1 h = 1) ∧ F_X11_holder G h z1 (fun (z74 : Option Nat) (κ73 : CS) => K7 z74 κ73) κ2) ∧ ((¬ z4.toInt = 0) → K7 (none : Option Nat) κ2)) (fun (x5 : Option Nat) (κ6 : CS) => jc (fun (K12 : Unit → CS → Prop) => ((x5 = none) → K12 () κ6) ∧ ((¬ x5 = none) → ∃ b : Nat, x5 = some b ∧ (b ∈ sL κ6.1 ∧ sK κ6.1 b = 10) ∧ ∀ z64 : Int32, z64 = sI κ6.1 b 8 → jc (fun (K67 : Unit → CS → Prop) => ((¬ z64.toInt = 0) → K67 () κ6) ∧ ((z64.toInt = 0) → ∃ b : Nat, x5 = some b ∧ (b ∈ sL κ6.1 ∧ sK κ6.1 b = 10) ∧ ∀ z72 : Int32, z72 = sI κ6.1 b 7 → ((¬ z72.toInt = (9 : Int32).toInt) → K12 () κ6) ∧ ((z72.toInt = (9 : Int32).toInt) → K67 () κ6))) (fun (x65 : Unit) (κ66 : CS) => (h ∈ sL κ66.1 ∧ sK κ66.1 h = 1) ∧ F_X11_waitFor G h a1 x5 (fun (z71 : Int32) (κ70 : CS) => post z71 κ70) κ66))) (fun (x10 : Unit) (κ11 : CS) => (h ∈ sL κ11.1 ∧ sK κ11.1 h = 1) ∧ F_X11_sharesWithOthers G h z1 a2 (fun (z16 : Int32) (κ15 : CS) => ((¬ z16.toInt = 0) → ((x5 = none) → ∃ b : Nat, a2 = some b ∧ (b ∈ sL κ15.1 ∧ sK κ15.1 b = 13) ∧ F_X10_empties G b  (fun (z18 : Int32) (κ17 : CS) => jc (fun (K21 : Int32 → CS → Prop) => ((z18.toInt = 0) → K21 1 κ17) ∧ ((¬ z18.toInt = 0) → (h ∈ sL κ17.1 ∧ sK κ17.1 h = 1) ∧ F_X11_nextChange G h 2 z1 (fun (z27 : Option Nat) (κ26 : CS) => ∃ b : Nat, z27 = some b ∧ (b ∈ sL κ26.1 ∧ sK κ26.1 b = 4) ∧ ∀ κ28 : CS, κ28 = (h_uI κ26.1 b 11 0, κ26.2) → (h ∈ sL κ28.1 ∧ sK κ28.1 h = 1) ∧ ∀ z29 : Int64, z29 = sJ κ28.1 h 7 → ∃ b : Nat, z27 = some b ∧ (b ∈ sL κ28.1 ∧ sK κ28.1 b = 4) ∧ ∀ κ30 : CS, κ30 = (h_uJ κ28.1 b 9 z29, κ28.2) → (h ∈ sL κ30.1 ∧ sK κ30.1 h = 1) ∧ ∀ z31 : Int64, z31 = sJ κ30.1 h 7 → ∃ b : Nat, z27 = some b ∧ (b ∈ sL κ30.1 ∧ sK κ30.1 b = 4) ∧ ∀ κ32 : CS, κ32 = (h_uJ κ30.1 b 10 z31, κ30.2) → (h ∈ sL κ32.1 ∧ sK κ32.1 h = 1) ∧ F_X11_done G h z27 (fun (κ33 : CS) => (h ∈ sL κ33.1 ∧ sK κ33.1 h = 1) ∧ F_X11_nextChange G h 3 z1 (fun (z36 : Option Nat) (κ35 : CS) => ∃ b : Nat, a2 = some b ∧ (b ∈ sL κ35.1 ∧ sK κ35.1 b = 13) ∧ ∀ z37 : Int32, z37 = sI κ35.1 b 4 → jc (fun (K40 : Int32 → CS → Prop) => ((¬ z37.toInt = 0) → ∃ b : Nat, z1 = some b ∧ (b ∈ sL κ35.1 ∧ sK κ35.1 b = 5) ∧ ∀ z56 : Int32, z56 = sI κ35.1 b 7 → ∃ b : Nat, a2 = some b ∧ (b ∈ sL κ35.1 ∧ sK κ35.1 b = 13) ∧ F_X10_newAttributes G b  (fun (z58 : Int32) (κ57 : CS) => ∀ z59 : Int32, z59 = z56 ||| z58 → K40 z59 κ57) κ35) ∧ ((z37.toInt = 0) → ∃ b : Nat, a2 = some b ∧ (b ∈ sL κ35.1 ∧ sK κ35.1 b = 13) ∧ F_X10_newAttributes G b  (fun (z61 : Int32) (κ60 : CS) => K40 z61 κ60) κ35)) (fun (x38 : Int32) (κ39 : CS) => ∃ b : Nat, z36 = some b ∧ (b ∈ sL κ39.1 ∧ sK κ39.1 b = 4) ∧ ∀ κ43 : CS, κ43 = (h_uI κ39.1 b 6 x38, κ39.2) → (h ∈ sL κ43.1 ∧ sK κ43.1 h = 1) ∧ ∀ z44 : Int64, z44 = sJ κ43.1 h 7 → ∃ b : Nat, z36 = some b ∧ (b ∈ sL κ43.1 ∧ sK κ43.1 b = 4) ∧ ∀ κ45 : CS, κ45 = (h_uJ κ43.1 b 10 z44, κ43.2) → (h ∈ sL κ45.1 ∧ sK κ45.1 h = 1) ∧ F_X11_done G h z36 (fun (κ46 : CS) => (h ∈ sL κ46.1 ∧ sK κ46.1 h = 1) ∧ F_X11_breakLevelTwo G h z1 (none : Option Nat) (fun (κ48 : CS) => ∃ b : Nat, a2 = some b ∧ (b ∈ sL κ48.1 ∧ sK κ48.1 b = 13) ∧ ∀ z50 : Int32, z50 = sI κ48.1 b 4 → jc (fun (K53 : Int32 → CS → Prop) => ((¬ z50.toInt = 0) → K53 3 κ48) ∧ ((z50.toInt = 0) → K53 0 κ48)) (fun (x51 : Int32) (κ52 : CS) => K21 x51 κ52)) κ46) κ45)) κ33) κ32) κ17)) (fun (x19 : Int32) (κ20 : CS) => (h ∈ sL κ20.1 ∧ sK κ20.1 h = 1) ∧ F_X11_addOpen G h a1 z1 x19 a3 (fun (κ24 : CS) => post 0 κ24) κ20)) κ15) ∧ ((¬ x5 = none) → (h ∈ sL κ15.1 ∧ sK κ15.1 h = 1) ∧ F_X11_waitFor G h a1 x5 (fun (z63 : Int32) (κ62 : CS) => post z63 κ62) κ15)) ∧ ((z16.toInt = 0) → post (-1073741757) κ15)) κ11))) ∧ ((¬ z3.toInt = 0) → post z3 κ2)) κ
theorem dX11_openThere_0 : decode cX11_openThere 0 = .ok (.aload_n 2, 1) := by decide +kernel
theorem dX11_openThere_1 : decode cX11_openThere 1 = .ok (.getfield 682, 3) := by decide +kernel
theorem dX11_openThere_4 : decode cX11_openThere 4 = .ok (.astore 4, 2) := by decide +kernel
theorem dX11_openThere_6 : decode cX11_openThere 6 = .ok (.aload_n 0, 1) := by decide +kernel
theorem dX11_openThere_7 : decode cX11_openThere 7 = .ok (.aload 4, 2) := by decide +kernel
theorem dX11_openThere_9 : decode cX11_openThere 9 = .ok (.aload_n 2, 1) := by decide +kernel
theorem dX11_openThere_10 : decode cX11_openThere 10 = .ok (.invokevirtual 718, 3) := by decide +kernel
theorem dX11_openThere_13 : decode cX11_openThere 13 = .ok (.istore 5, 2) := by decide +kernel
theorem dX11_openThere_15 : decode cX11_openThere 15 = .ok (.iload 5, 2) := by decide +kernel
theorem dX11_openThere_17 : decode cX11_openThere 17 = .ok (.ifCond .eq 6, 3) := by decide +kernel
theorem dX11_openThere_20 : decode cX11_openThere 20 = .ok (.iload 5, 2) := by decide +kernel
theorem dX11_openThere_22 : decode cX11_openThere 22 = .ok (.ireturn, 1) := by decide +kernel
theorem dX11_openThere_23 : decode cX11_openThere 23 = .ok (.aload 4, 2) := by decide +kernel
theorem dX11_openThere_25 : decode cX11_openThere 25 = .ok (.getfield 577, 3) := by decide +kernel
theorem dX11_openThere_28 : decode cX11_openThere 28 = .ok (.ifCond .eq 7, 3) := by decide +kernel
theorem dX11_openThere_31 : decode cX11_openThere 31 = .ok (.aconst_null, 1) := by decide +kernel
theorem dX11_openThere_32 : decode cX11_openThere 32 = .ok (.goto 9, 3) := by decide +kernel
theorem dX11_openThere_35 : decode cX11_openThere 35 = .ok (.aload_n 0, 1) := by decide +kernel
theorem dX11_openThere_36 : decode cX11_openThere 36 = .ok (.aload 4, 2) := by decide +kernel
theorem dX11_openThere_38 : decode cX11_openThere 38 = .ok (.invokevirtual 722, 3) := by decide +kernel
theorem dX11_openThere_41 : decode cX11_openThere 41 = .ok (.astore 6, 2) := by decide +kernel
theorem dX11_openThere_43 : decode cX11_openThere 43 = .ok (.aload 6, 2) := by decide +kernel
theorem dX11_openThere_45 : decode cX11_openThere 45 = .ok (.ifnull 29, 3) := by decide +kernel
theorem dX11_openThere_48 : decode cX11_openThere 48 = .ok (.aload 6, 2) := by decide +kernel
theorem dX11_openThere_50 : decode cX11_openThere 50 = .ok (.getfield 170, 3) := by decide +kernel
theorem dX11_openThere_53 : decode cX11_openThere 53 = .ok (.ifCond .ne 13, 3) := by decide +kernel
theorem dX11_openThere_56 : decode cX11_openThere 56 = .ok (.aload 6, 2) := by decide +kernel
theorem dX11_openThere_58 : decode cX11_openThere 58 = .ok (.getfield 726, 3) := by decide +kernel
theorem dX11_openThere_61 : decode cX11_openThere 61 = .ok (.bipush 9, 2) := by decide +kernel
theorem dX11_openThere_63 : decode cX11_openThere 63 = .ok (.if_icmp .ne 11, 3) := by decide +kernel
theorem dX11_openThere_66 : decode cX11_openThere 66 = .ok (.aload_n 0, 1) := by decide +kernel
theorem dX11_openThere_67 : decode cX11_openThere 67 = .ok (.aload_n 1, 1) := by decide +kernel
theorem dX11_openThere_68 : decode cX11_openThere 68 = .ok (.aload 6, 2) := by decide +kernel
theorem dX11_openThere_70 : decode cX11_openThere 70 = .ok (.invokevirtual 727, 3) := by decide +kernel
theorem dX11_openThere_73 : decode cX11_openThere 73 = .ok (.ireturn, 1) := by decide +kernel
theorem dX11_openThere_74 : decode cX11_openThere 74 = .ok (.aload_n 0, 1) := by decide +kernel
theorem dX11_openThere_75 : decode cX11_openThere 75 = .ok (.aload 4, 2) := by decide +kernel
theorem dX11_openThere_77 : decode cX11_openThere 77 = .ok (.aload_n 2, 1) := by decide +kernel
theorem dX11_openThere_78 : decode cX11_openThere 78 = .ok (.invokevirtual 730, 3) := by decide +kernel
theorem dX11_openThere_81 : decode cX11_openThere 81 = .ok (.ifCond .ne 7, 3) := by decide +kernel
theorem dX11_openThere_84 : decode cX11_openThere 84 = .ok (.ldc_w 673, 3) := by decide +kernel
theorem dX11_openThere_87 : decode cX11_openThere 87 = .ok (.ireturn, 1) := by decide +kernel
theorem dX11_openThere_88 : decode cX11_openThere 88 = .ok (.aload 6, 2) := by decide +kernel
theorem dX11_openThere_90 : decode cX11_openThere 90 = .ok (.ifnull 11, 3) := by decide +kernel
theorem dX11_openThere_93 : decode cX11_openThere 93 = .ok (.aload_n 0, 1) := by decide +kernel
theorem dX11_openThere_94 : decode cX11_openThere 94 = .ok (.aload_n 1, 1) := by decide +kernel
theorem dX11_openThere_95 : decode cX11_openThere 95 = .ok (.aload 6, 2) := by decide +kernel
theorem dX11_openThere_97 : decode cX11_openThere 97 = .ok (.invokevirtual 727, 3) := by decide +kernel
theorem dX11_openThere_100 : decode cX11_openThere 100 = .ok (.ireturn, 1) := by decide +kernel
theorem dX11_openThere_101 : decode cX11_openThere 101 = .ok (.iconst 1, 1) := by decide +kernel
theorem dX11_openThere_102 : decode cX11_openThere 102 = .ok (.istore 7, 2) := by decide +kernel
theorem dX11_openThere_104 : decode cX11_openThere 104 = .ok (.aload_n 2, 1) := by decide +kernel
theorem dX11_openThere_105 : decode cX11_openThere 105 = .ok (.invokevirtual 647, 3) := by decide +kernel
theorem dX11_openThere_108 : decode cX11_openThere 108 = .ok (.ifCond .eq 116, 3) := by decide +kernel
theorem dX11_openThere_111 : decode cX11_openThere 111 = .ok (.aload_n 0, 1) := by decide +kernel
theorem dX11_openThere_112 : decode cX11_openThere 112 = .ok (.iconst 2, 1) := by decide +kernel
theorem dX11_openThere_113 : decode cX11_openThere 113 = .ok (.aload 4, 2) := by decide +kernel
theorem dX11_openThere_115 : decode cX11_openThere 115 = .ok (.invokevirtual 234, 3) := by decide +kernel
theorem dX11_openThere_118 : decode cX11_openThere 118 = .ok (.astore 8, 2) := by decide +kernel
theorem dX11_openThere_120 : decode cX11_openThere 120 = .ok (.aload 8, 2) := by decide +kernel
theorem dX11_openThere_122 : decode cX11_openThere 122 = .ok (.iconst 0, 1) := by decide +kernel
theorem dX11_openThere_123 : decode cX11_openThere 123 = .ok (.putfield 734, 3) := by decide +kernel
theorem dX11_openThere_126 : decode cX11_openThere 126 = .ok (.aload 8, 2) := by decide +kernel
theorem dX11_openThere_128 : decode cX11_openThere 128 = .ok (.aload_n 0, 1) := by decide +kernel
theorem dX11_openThere_129 : decode cX11_openThere 129 = .ok (.getfield 157, 3) := by decide +kernel
theorem dX11_openThere_132 : decode cX11_openThere 132 = .ok (.putfield 736, 3) := by decide +kernel
theorem dX11_openThere_135 : decode cX11_openThere 135 = .ok (.aload 8, 2) := by decide +kernel
theorem dX11_openThere_137 : decode cX11_openThere 137 = .ok (.aload_n 0, 1) := by decide +kernel
theorem dX11_openThere_138 : decode cX11_openThere 138 = .ok (.getfield 157, 3) := by decide +kernel
theorem dX11_openThere_141 : decode cX11_openThere 141 = .ok (.putfield 739, 3) := by decide +kernel
theorem dX11_openThere_144 : decode cX11_openThere 144 = .ok (.aload_n 0, 1) := by decide +kernel
theorem dX11_openThere_145 : decode cX11_openThere 145 = .ok (.aload 8, 2) := by decide +kernel
theorem dX11_openThere_147 : decode cX11_openThere 147 = .ok (.invokevirtual 584, 3) := by decide +kernel
theorem dX11_openThere_150 : decode cX11_openThere 150 = .ok (.aload_n 0, 1) := by decide +kernel
theorem dX11_openThere_151 : decode cX11_openThere 151 = .ok (.iconst 3, 1) := by decide +kernel
theorem dX11_openThere_152 : decode cX11_openThere 152 = .ok (.aload 4, 2) := by decide +kernel
theorem dX11_openThere_154 : decode cX11_openThere 154 = .ok (.invokevirtual 234, 3) := by decide +kernel
theorem dX11_openThere_157 : decode cX11_openThere 157 = .ok (.astore 9, 2) := by decide +kernel
theorem dX11_openThere_159 : decode cX11_openThere 159 = .ok (.aload 9, 2) := by decide +kernel
theorem dX11_openThere_161 : decode cX11_openThere 161 = .ok (.aload_n 2, 1) := by decide +kernel
theorem dX11_openThere_162 : decode cX11_openThere 162 = .ok (.getfield 637, 3) := by decide +kernel
theorem dX11_openThere_165 : decode cX11_openThere 165 = .ok (.ifCond .ne 10, 3) := by decide +kernel
theorem dX11_openThere_168 : decode cX11_openThere 168 = .ok (.aload_n 2, 1) := by decide +kernel
theorem dX11_openThere_169 : decode cX11_openThere 169 = .ok (.invokevirtual 708, 3) := by decide +kernel
theorem dX11_openThere_172 : decode cX11_openThere 172 = .ok (.goto 13, 3) := by decide +kernel
theorem dX11_openThere_175 : decode cX11_openThere 175 = .ok (.aload 4, 2) := by decide +kernel
theorem dX11_openThere_177 : decode cX11_openThere 177 = .ok (.getfield 742, 3) := by decide +kernel
theorem dX11_openThere_180 : decode cX11_openThere 180 = .ok (.aload_n 2, 1) := by decide +kernel
theorem dX11_openThere_181 : decode cX11_openThere 181 = .ok (.invokevirtual 708, 3) := by decide +kernel
theorem dX11_openThere_184 : decode cX11_openThere 184 = .ok (.ior, 1) := by decide +kernel
theorem dX11_openThere_185 : decode cX11_openThere 185 = .ok (.putfield 743, 3) := by decide +kernel
theorem dX11_openThere_188 : decode cX11_openThere 188 = .ok (.aload 9, 2) := by decide +kernel
theorem dX11_openThere_190 : decode cX11_openThere 190 = .ok (.aload_n 0, 1) := by decide +kernel
theorem dX11_openThere_191 : decode cX11_openThere 191 = .ok (.getfield 157, 3) := by decide +kernel
theorem dX11_openThere_194 : decode cX11_openThere 194 = .ok (.putfield 739, 3) := by decide +kernel
theorem dX11_openThere_197 : decode cX11_openThere 197 = .ok (.aload_n 0, 1) := by decide +kernel
theorem dX11_openThere_198 : decode cX11_openThere 198 = .ok (.aload 9, 2) := by decide +kernel
theorem dX11_openThere_200 : decode cX11_openThere 200 = .ok (.invokevirtual 584, 3) := by decide +kernel
theorem dX11_openThere_203 : decode cX11_openThere 203 = .ok (.aload_n 0, 1) := by decide +kernel
theorem dX11_openThere_204 : decode cX11_openThere 204 = .ok (.aload 4, 2) := by decide +kernel
theorem dX11_openThere_206 : decode cX11_openThere 206 = .ok (.aconst_null, 1) := by decide +kernel
theorem dX11_openThere_207 : decode cX11_openThere 207 = .ok (.invokevirtual 744, 3) := by decide +kernel
theorem dX11_openThere_210 : decode cX11_openThere 210 = .ok (.aload_n 2, 1) := by decide +kernel
theorem dX11_openThere_211 : decode cX11_openThere 211 = .ok (.getfield 637, 3) := by decide +kernel
theorem dX11_openThere_214 : decode cX11_openThere 214 = .ok (.ifCond .ne 7, 3) := by decide +kernel
theorem dX11_openThere_217 : decode cX11_openThere 217 = .ok (.iconst 0, 1) := by decide +kernel
theorem dX11_openThere_218 : decode cX11_openThere 218 = .ok (.goto 4, 3) := by decide +kernel
theorem dX11_openThere_221 : decode cX11_openThere 221 = .ok (.iconst 3, 1) := by decide +kernel
theorem dX11_openThere_222 : decode cX11_openThere 222 = .ok (.istore 7, 2) := by decide +kernel
theorem dX11_openThere_224 : decode cX11_openThere 224 = .ok (.aload_n 0, 1) := by decide +kernel
theorem dX11_openThere_225 : decode cX11_openThere 225 = .ok (.aload_n 1, 1) := by decide +kernel
theorem dX11_openThere_226 : decode cX11_openThere 226 = .ok (.aload 4, 2) := by decide +kernel
theorem dX11_openThere_228 : decode cX11_openThere 228 = .ok (.iload 7, 2) := by decide +kernel
theorem dX11_openThere_230 : decode cX11_openThere 230 = .ok (.aload_n 3, 1) := by decide +kernel
theorem dX11_openThere_231 : decode cX11_openThere 231 = .ok (.invokevirtual 714, 3) := by decide +kernel
theorem dX11_openThere_234 : decode cX11_openThere 234 = .ok (.iconst 0, 1) := by decide +kernel
theorem dX11_openThere_235 : decode cX11_openThere 235 = .ok (.ireturn, 1) := by decide +kernel
set_option maxRecDepth 100000 in
set_option maxHeartbeats 4000000 in
theorem c_X11_openThere (l : Launch) (D : va_G) (t : Nat → ClassId) (G : GE) (κ : CS) (h : Nat) (a1 : Option Nat) (a2 : Option Nat) (a3 : Option Nat) (post : Int32 → CS → Prop) (hw : F_X11_openThere G h a1 a2 a3 post κ) (sz : Nat) : CMi l D t yX11_openThere cX11_openThere 10 (some .int) 8 198 G κ sz [.ref h, va_rf a1, va_rf a2, va_rf a3] post := by
  refine c_go (by decide) (by cases a1 <;> cases a2 <;> cases a3 <;> exact Nat.le_of_ble_eq_true rfl) ?_
  intro p e s m below meth c ls A hF hr hlk hin hAe hH hA hE hl
  unfold cB
  rw [hAe]
  clear hAe
  have hF : FX p m c cX11_openThere 10 s _ RX11 D t := hF
  have hx := hF.1.1
  have hb := hF.1.2.1
  have hl : lv_has ls 10 [(0, .ref h), (1, va_rf a1), (2, va_rf a2), (3, va_rf a3)] := (by have h2 := hl; clear hw; revert h2; cases a1 <;> cases a2 <;> cases a3 <;> exact id)
  unfold F_X11_openThere at hw
  refine w_aloadq_n hF dX11_openThere_0 rfl (lv_at hl 2 rfl) ?_
  refine cw_getP (q := a2) hF hH fk_X11_682 dX11_openThere_1 hw (fun z1 hw => ?_)
  refine w_astoreq (lv' := [(4, va_rf z1), (0, .ref h), (1, va_rf a1), (2, va_rf a2), (3, va_rf a3)]) hF dX11_openThere_4 hl (by decide) (by generalize a3 = y; cases y <;> rfl) (fun ls hl => ?_)
  refine lv_aload_n hx hb dX11_openThere_6 rfl (lv_at hl 1 rfl) ?_
  refine w_aloadq hF dX11_openThere_7 (lv_at hl 0 rfl) ?_
  refine w_aloadq_n hF dX11_openThere_9 rfl (lv_at hl 3 rfl) ?_
  refine cw_cVi (b := h) (As := [va_rf z1, va_rf a2]) (rest := []) hF hH hA hE mv_X11_718 ci_X11 (by decide) (fun sz => c_X11_refusal l D t G _ h z1 a2 _ hw.2 sz) dX11_openThere_10 hw.1 ⟨Nat.le_of_ble_eq_true rfl, Nat.le_of_ble_eq_true rfl⟩ rfl hl.1 (Nat.le_of_ble_eq_true rfl) rfl (fun z3 κ2 H locs cells slots hw hH => ?_)
  refine lv_istore (lv' := [(5, .int z3), (4, va_rf z1), (0, .ref h), (1, va_rf a1), (2, va_rf a2), (3, va_rf a3)]) hx hb dX11_openThere_13 hl (by decide) (by generalize z1 = y; cases y <;> rfl) (fun ls hl => ?_)
  refine lv_iload hx hb dX11_openThere_15 (lv_at hl 0 rfl) ?_
  refine w_if_eq (tgt := 23) hF dX11_openThere_17 rfl hw (fun hw => ?_) (fun hw => ?_)
  · refine w_aloadq hF dX11_openThere_23 (lv_at hl 1 rfl) ?_
    refine cw_getI (q := z1) hF hH fk_X11_577 dX11_openThere_25 hw (fun z4 hw => ?_)
    obtain ⟨K7, hK8, hw⟩ := jc_open hw
    refine cw_join (K := K7) 41 (fun (x5 : Option Nat) => [(4, va_rf z1), (3, va_rf a3), (2, va_rf a2), (1, va_rf a1), (0, .ref h)]) (fun (x5 : Option Nat) => [va_rf x5]) hl hH (fun x5 κ6 ls H locs cells slots hl hw hH => ?_) (fun jn9 => ?_)
    · have hw := hK8 x5 κ6 hw
      have hl : lv_has ls 10 [(4, va_rf z1), (3, va_rf a3), (2, va_rf a2), (1, va_rf a1), (0, .ref h)] := hl
      refine w_astoreq (lv' := [(6, va_rf x5), (4, va_rf z1), (3, va_rf a3), (2, va_rf a2), (1, va_rf a1), (0, .ref h)]) hF dX11_openThere_41 hl (by decide) rfl (fun ls hl => ?_)
      refine w_aloadq hF dX11_openThere_43 (lv_at hl 0 rfl) ?_
      obtain ⟨K12, hK13, hw⟩ := jc_open hw
      refine cw_join (K := K12) 74 (fun (x10 : Unit) => [(6, va_rf x5), (4, va_rf z1), (3, va_rf a3), (2, va_rf a2), (1, va_rf a1), (0, .ref h)]) (fun (x10 : Unit) => []) hl hH (fun x10 κ11 ls H locs cells slots hl hw hH => ?_) (fun jn14 => ?_)
      · have hw := hK13 x10 κ11 hw
        have hl : lv_has ls 10 [(6, va_rf x5), (4, va_rf z1), (3, va_rf a3), (2, va_rf a2), (1, va_rf a1), (0, .ref h)] := hl
        refine lv_aload_n hx hb dX11_openThere_74 rfl (lv_at hl 5 rfl) ?_
        refine w_aloadq hF dX11_openThere_75 (lv_at hl 1 rfl) ?_
        refine w_aloadq_n hF dX11_openThere_77 rfl (lv_at hl 3 rfl) ?_
        refine cw_cVi (b := h) (As := [va_rf z1, va_rf a2]) (rest := []) hF hH hA hE mv_X11_730 ci_X11 (by decide) (fun sz => c_X11_sharesWithOthers l D t G _ h z1 a2 _ hw.2 sz) dX11_openThere_78 hw.1 ⟨Nat.le_of_ble_eq_true rfl, Nat.le_of_ble_eq_true rfl⟩ rfl hl.1 (Nat.le_of_ble_eq_true rfl) rfl (fun z16 κ15 H locs cells slots hw hH => ?_)
        refine w_if_ne (tgt := 88) hF dX11_openThere_81 rfl hw (fun hw => ?_) (fun hw => ?_)
        · refine w_aloadq hF dX11_openThere_88 (lv_at hl 0 rfl) ?_
          refine cw_ifnull (q := x5) (tgt := 101) hF dX11_openThere_90 rfl hw (fun hw => ?_) (fun hw => ?_)
          · refine lv_iconst (v := 1) hx hb dX11_openThere_101 (by decide) ?_
            refine lv_istore (lv' := [(7, .int 1), (6, va_rf x5), (4, va_rf z1), (3, va_rf a3), (2, va_rf a2), (1, va_rf a1), (0, .ref h)]) hx hb dX11_openThere_102 hl (by decide) (by generalize x5 = y; cases y <;> rfl) (fun ls hl => ?_)
            refine w_aloadq_n hF dX11_openThere_104 rfl (lv_at hl 4 rfl) ?_
            refine cw_cViq (q := a2) (As := []) (rest := []) hF hH hA hE mv_X11_647 ci_X10 (by decide) hw (fun b hw sz => c_X10_empties l D t G _ b  _ hw sz) dX11_openThere_105 ⟨Nat.le_of_ble_eq_true rfl, Nat.le_of_ble_eq_true rfl⟩ rfl hl.1 (Nat.le_of_ble_eq_true rfl) rfl (fun z18 κ17 H locs cells slots hw hH => ?_)
            obtain ⟨K21, hK22, hw⟩ := jc_open hw
            refine cw_join (K := K21) 224 (fun (x19 : Int32) => [(7, .int x19), (4, va_rf z1), (3, va_rf a3), (1, va_rf a1), (0, .ref h)]) (fun (x19 : Int32) => []) hl hH (fun x19 κ20 ls H locs cells slots hl hw hH => ?_) (fun jn23 => ?_)
            · have hw := hK22 x19 κ20 hw
              have hl : lv_has ls 10 [(7, .int x19), (4, va_rf z1), (3, va_rf a3), (1, va_rf a1), (0, .ref h)] := hl
              refine lv_aload_n hx hb dX11_openThere_224 rfl (lv_at hl 4 rfl) ?_
              refine w_aloadq_n hF dX11_openThere_225 rfl (lv_at hl 3 rfl) ?_
              refine w_aloadq hF dX11_openThere_226 (lv_at hl 1 rfl) ?_
              refine lv_iload hx hb dX11_openThere_228 (lv_at hl 0 rfl) ?_
              refine w_aloadq_n hF dX11_openThere_230 rfl (lv_at hl 2 rfl) ?_
              refine cw_cVv (b := h) (As := [va_rf a1, va_rf z1, .int x19, va_rf a3]) (rest := []) hF hH hA hE mv_X11_714 ci_X11 (by decide) (fun sz => c_X11_addOpen l D t G _ h a1 z1 x19 a3 _ hw.2 sz) dX11_openThere_231 hw.1 ⟨Nat.le_of_ble_eq_true rfl, Nat.le_of_ble_eq_true rfl⟩ rfl hl.1 (Nat.le_of_ble_eq_true rfl) rfl (fun κ24 H locs cells slots hw hH => ?_)
              refine lv_iconst (v := 0) hx hb dX11_openThere_234 (by decide) ?_
              exact cw_reti hF hH ⟨rfl, rfl⟩ hr rfl hlk dX11_openThere_235 hw
            · skip
              refine w_if_eq (tgt := 224) hF dX11_openThere_108 rfl hw (fun hw => ?_) (fun hw => ?_)
              · have hl : lv_has ls 10 [(7, .int 1), (4, va_rf z1), (3, va_rf a3), (1, va_rf a1), (0, .ref h)] := lv_sub hl [0, 2, 3, 5, 6] rfl
                exact jn23 1 κ17 ls _ _ _ _ hl hw hH
              · refine lv_aload_n hx hb dX11_openThere_111 rfl (lv_at hl 6 rfl) ?_
                refine lv_iconst (v := 2) hx hb dX11_openThere_112 (by decide) ?_
                refine w_aloadq hF dX11_openThere_113 (lv_at hl 2 rfl) ?_
                refine cw_cVq (b := h) (As := [.int 2, va_rf z1]) (rest := []) hF hH hA hE mv_X11_234 ci_X11 (by decide) (fun sz => c_X11_nextChange l D t G _ h 2 z1 _ hw.2 sz) dX11_openThere_115 hw.1 ⟨Nat.le_of_ble_eq_true rfl, Nat.le_of_ble_eq_true rfl⟩ rfl hl.1 (Nat.le_of_ble_eq_true rfl) rfl (fun z27 κ26 H locs cells slots hw hH => ?_)
                refine w_astoreq (lv' := [(8, va_rf z27), (7, .int 1), (6, va_rf x5), (4, va_rf z1), (3, va_rf a3), (2, va_rf a2), (1, va_rf a1), (0, .ref h)]) hF dX11_openThere_118 hl (by decide) rfl (fun ls hl => ?_)
                refine w_aloadq hF dX11_openThere_120 (lv_at hl 0 rfl) ?_
                refine lv_iconst (v := 0) hx hb dX11_openThere_122 (by decide) ?_
                refine cw_putI (q := z27) (v := 0) hF hH fk_X11_734 dX11_openThere_123 rfl rfl rfl hw (fun κ28 H locs cells slots hw hH => ?_)
                refine w_aloadq hF dX11_openThere_126 (lv_at hl 0 rfl) ?_
                refine lv_aload_n hx hb dX11_openThere_128 rfl (lv_at hl 7 rfl) ?_
                refine cw_getJr (a := h) hF hH fk_X11_157 dX11_openThere_129 hw (fun z29 hw => ?_)
                refine cw_putJ (q := z27) (v := z29) hF hH fk_X11_736 dX11_openThere_132 rfl rfl rfl hw (fun κ30 H locs cells slots hw hH => ?_)
                refine w_aloadq hF dX11_openThere_135 (lv_at hl 0 rfl) ?_
                refine lv_aload_n hx hb dX11_openThere_137 rfl (lv_at hl 7 rfl) ?_
                refine cw_getJr (a := h) hF hH fk_X11_157 dX11_openThere_138 hw (fun z31 hw => ?_)
                refine cw_putJ (q := z27) (v := z31) hF hH fk_X11_739 dX11_openThere_141 rfl rfl rfl hw (fun κ32 H locs cells slots hw hH => ?_)
                refine lv_aload_n hx hb dX11_openThere_144 rfl (lv_at hl 7 rfl) ?_
                refine w_aloadq hF dX11_openThere_145 (lv_at hl 0 rfl) ?_
                refine cw_cVv (b := h) (As := [va_rf z27]) (rest := []) hF hH hA hE mv_X11_584 ci_X11 (by decide) (fun sz => c_X11_done l D t G _ h z27 _ hw.2 sz) dX11_openThere_147 hw.1 ⟨Nat.le_of_ble_eq_true rfl, Nat.le_of_ble_eq_true rfl⟩ rfl hl.1 (Nat.le_of_ble_eq_true rfl) rfl (fun κ33 H locs cells slots hw hH => ?_)
                refine lv_aload_n hx hb dX11_openThere_150 rfl (lv_at hl 7 rfl) ?_
                refine lv_iconst (v := 3) hx hb dX11_openThere_151 (by decide) ?_
                refine w_aloadq hF dX11_openThere_152 (lv_at hl 3 rfl) ?_
                refine cw_cVq (b := h) (As := [.int 3, va_rf z1]) (rest := []) hF hH hA hE mv_X11_234 ci_X11 (by decide) (fun sz => c_X11_nextChange l D t G _ h 3 z1 _ hw.2 sz) dX11_openThere_154 hw.1 ⟨Nat.le_of_ble_eq_true rfl, Nat.le_of_ble_eq_true rfl⟩ rfl hl.1 (Nat.le_of_ble_eq_true rfl) rfl (fun z36 κ35 H locs cells slots hw hH => ?_)
                refine w_astoreq (lv' := [(9, va_rf z36), (8, va_rf z27), (7, .int 1), (6, va_rf x5), (4, va_rf z1), (3, va_rf a3), (2, va_rf a2), (1, va_rf a1), (0, .ref h)]) hF dX11_openThere_157 hl (by decide) (by generalize z27 = y; cases y <;> rfl) (fun ls hl => ?_)
                refine w_aloadq hF dX11_openThere_159 (lv_at hl 0 rfl) ?_
                refine w_aloadq_n hF dX11_openThere_161 rfl (lv_at hl 6 rfl) ?_
                refine cw_getI (q := a2) hF hH fk_X11_637 dX11_openThere_162 hw (fun z37 hw => ?_)
                obtain ⟨K40, hK41, hw⟩ := jc_open hw
                refine cw_join (K := K40) 185 (fun (x38 : Int32) => [(9, va_rf z36), (4, va_rf z1), (3, va_rf a3), (2, va_rf a2), (1, va_rf a1), (0, .ref h)]) (fun (x38 : Int32) => [.int x38, va_rf z36]) hl hH (fun x38 κ39 ls H locs cells slots hl hw hH => ?_) (fun jn42 => ?_)
                · have hw := hK41 x38 κ39 hw
                  have hl : lv_has ls 10 [(9, va_rf z36), (4, va_rf z1), (3, va_rf a3), (2, va_rf a2), (1, va_rf a1), (0, .ref h)] := hl
                  refine cw_putI (q := z36) (v := x38) hF hH fk_X11_743 dX11_openThere_185 rfl rfl rfl hw (fun κ43 H locs cells slots hw hH => ?_)
                  refine w_aloadq hF dX11_openThere_188 (lv_at hl 0 rfl) ?_
                  refine lv_aload_n hx hb dX11_openThere_190 rfl (lv_at hl 5 rfl) ?_
                  refine cw_getJr (a := h) hF hH fk_X11_157 dX11_openThere_191 hw (fun z44 hw => ?_)
                  refine cw_putJ (q := z36) (v := z44) hF hH fk_X11_739 dX11_openThere_194 rfl rfl rfl hw (fun κ45 H locs cells slots hw hH => ?_)
                  refine lv_aload_n hx hb dX11_openThere_197 rfl (lv_at hl 5 rfl) ?_
                  refine w_aloadq hF dX11_openThere_198 (lv_at hl 0 rfl) ?_
                  refine cw_cVv (b := h) (As := [va_rf z36]) (rest := []) hF hH hA hE mv_X11_584 ci_X11 (by decide) (fun sz => c_X11_done l D t G _ h z36 _ hw.2 sz) dX11_openThere_200 hw.1 ⟨Nat.le_of_ble_eq_true rfl, Nat.le_of_ble_eq_true rfl⟩ rfl hl.1 (Nat.le_of_ble_eq_true rfl) rfl (fun κ46 H locs cells slots hw hH => ?_)
                  refine lv_aload_n hx hb dX11_openThere_203 rfl (lv_at hl 5 rfl) ?_
                  refine w_aloadq hF dX11_openThere_204 (lv_at hl 1 rfl) ?_
                  refine cw_null dX11_openThere_206 hF ?_
                  refine cw_cVv (b := h) (As := [va_rf z1, va_rf (none : Option Nat)]) (rest := []) hF hH hA hE mv_X11_744 ci_X11 (by decide) (fun sz => c_X11_breakLevelTwo l D t G _ h z1 (none : Option Nat) _ hw.2 sz) dX11_openThere_207 hw.1 ⟨Nat.le_of_ble_eq_true rfl, Nat.le_of_ble_eq_true rfl⟩ rfl hl.1 (Nat.le_of_ble_eq_true rfl) rfl (fun κ48 H locs cells slots hw hH => ?_)
                  refine w_aloadq_n hF dX11_openThere_210 rfl (lv_at hl 3 rfl) ?_
                  refine cw_getI (q := a2) hF hH fk_X11_637 dX11_openThere_211 hw (fun z50 hw => ?_)
                  obtain ⟨K53, hK54, hw⟩ := jc_open hw
                  refine cw_join (K := K53) 222 (fun (x51 : Int32) => [(4, va_rf z1), (3, va_rf a3), (1, va_rf a1), (0, .ref h)]) (fun (x51 : Int32) => [.int x51]) hl hH (fun x51 κ52 ls H locs cells slots hl hw hH => ?_) (fun jn55 => ?_)
                  · have hw := hK54 x51 κ52 hw
                    have hl : lv_has ls 10 [(4, va_rf z1), (3, va_rf a3), (1, va_rf a1), (0, .ref h)] := hl
                    refine lv_istore (lv' := [(7, .int x51), (4, va_rf z1), (3, va_rf a3), (1, va_rf a1), (0, .ref h)]) hx hb dX11_openThere_222 hl (by decide) rfl (fun ls hl => ?_)
                    exact jn23 x51 κ52 ls _ _ _ _ hl hw hH
                  · skip
                    refine w_if_ne (tgt := 221) hF dX11_openThere_214 rfl hw (fun hw => ?_) (fun hw => ?_)
                    · refine lv_iconst (v := 3) hx hb dX11_openThere_221 (by decide) ?_
                      have hl : lv_has ls 10 [(4, va_rf z1), (3, va_rf a3), (1, va_rf a1), (0, .ref h)] := lv_sub hl [1, 2, 4, 5] rfl
                      exact jn55 3 κ48 ls _ _ _ _ hl hw hH
                    · refine lv_iconst (v := 0) hx hb dX11_openThere_217 (by decide) ?_
                      refine lv_goto (tgt := 222) hx hb dX11_openThere_218 rfl ?_
                      have hl : lv_has ls 10 [(4, va_rf z1), (3, va_rf a3), (1, va_rf a1), (0, .ref h)] := lv_sub hl [1, 2, 4, 5] rfl
                      exact jn55 0 κ48 ls _ _ _ _ hl hw hH
                · skip
                  refine w_if_ne (tgt := 175) hF dX11_openThere_165 rfl hw (fun hw => ?_) (fun hw => ?_)
                  · refine w_aloadq hF dX11_openThere_175 (lv_at hl 4 rfl) ?_
                    refine cw_getI (q := z1) hF hH fk_X11_742 dX11_openThere_177 hw (fun z56 hw => ?_)
                    refine w_aloadq_n hF dX11_openThere_180 rfl (lv_at hl 6 rfl) ?_
                    refine cw_cViq (q := a2) (As := []) (rest := [.int z56, va_rf z36]) hF hH hA hE mv_X11_708 ci_X10 (by decide) hw (fun b hw sz => c_X10_newAttributes l D t G _ b  _ hw sz) dX11_openThere_181 ⟨Nat.le_of_ble_eq_true rfl, Nat.le_of_ble_eq_true rfl⟩ rfl hl.1 (by simp only [List.map_cons, List.map_nil, cat_rf]; exact Nat.le_of_ble_eq_true rfl) rfl (fun z58 κ57 H locs cells slots hw hH => ?_)
                    refine lv_ior hx hb dX11_openThere_184 ?_
                    refine w_nmi hw (fun z59 hw => ?_)
                    have hl : lv_has ls 10 [(9, va_rf z36), (4, va_rf z1), (3, va_rf a3), (2, va_rf a2), (1, va_rf a1), (0, .ref h)] := lv_sub hl [0, 4, 5, 6, 7, 8] rfl
                    exact jn42 z59 κ57 ls _ _ _ _ hl hw hH
                  · refine w_aloadq_n hF dX11_openThere_168 rfl (lv_at hl 6 rfl) ?_
                    refine cw_cViq (q := a2) (As := []) (rest := [va_rf z36]) hF hH hA hE mv_X11_708 ci_X10 (by decide) hw (fun b hw sz => c_X10_newAttributes l D t G _ b  _ hw sz) dX11_openThere_169 ⟨Nat.le_of_ble_eq_true rfl, Nat.le_of_ble_eq_true rfl⟩ rfl hl.1 (by simp only [List.map_cons, List.map_nil, cat_rf]; exact Nat.le_of_ble_eq_true rfl) rfl (fun z61 κ60 H locs cells slots hw hH => ?_)
                    refine lv_goto (tgt := 185) hx hb dX11_openThere_172 rfl ?_
                    have hl : lv_has ls 10 [(9, va_rf z36), (4, va_rf z1), (3, va_rf a3), (2, va_rf a2), (1, va_rf a1), (0, .ref h)] := lv_sub hl [0, 4, 5, 6, 7, 8] rfl
                    exact jn42 z61 κ60 ls _ _ _ _ hl hw hH
          · refine lv_aload_n hx hb dX11_openThere_93 rfl (lv_at hl 5 rfl) ?_
            refine w_aloadq_n hF dX11_openThere_94 rfl (lv_at hl 4 rfl) ?_
            refine w_aloadq hF dX11_openThere_95 (lv_at hl 0 rfl) ?_
            refine cw_cVi (b := h) (As := [va_rf a1, va_rf x5]) (rest := []) hF hH hA hE mv_X11_727 ci_X11 (by decide) (fun sz => c_X11_waitFor l D t G _ h a1 x5 _ hw.2 sz) dX11_openThere_97 hw.1 ⟨Nat.le_of_ble_eq_true rfl, Nat.le_of_ble_eq_true rfl⟩ rfl hl.1 (Nat.le_of_ble_eq_true rfl) rfl (fun z63 κ62 H locs cells slots hw hH => ?_)
            exact cw_reti hF hH ⟨rfl, rfl⟩ hr rfl hlk dX11_openThere_100 hw
        · refine lv_ldcw (v := (-1073741757)) hx hb hF.1.2.2.2.1 (hF.1.2.2.2.2 _ (wc_22 31 rfl)) dX11_openThere_84 ?_
          exact cw_reti hF hH ⟨rfl, rfl⟩ hr rfl hlk dX11_openThere_87 hw
      · skip
        refine cw_ifnull (q := x5) (tgt := 74) hF dX11_openThere_45 rfl hw (fun hw => ?_) (fun hw => ?_)
        · exact jn14 () κ6 ls _ _ _ _ hl hw hH
        · refine w_aloadq hF dX11_openThere_48 (lv_at hl 0 rfl) ?_
          refine cw_getI (q := x5) hF hH fk_X11_170 dX11_openThere_50 hw (fun z64 hw => ?_)
          obtain ⟨K67, hK68, hw⟩ := jc_open hw
          refine cw_join (K := K67) 66 (fun (x65 : Unit) => [(6, va_rf x5), (1, va_rf a1), (0, .ref h)]) (fun (x65 : Unit) => []) hl hH (fun x65 κ66 ls H locs cells slots hl hw hH => ?_) (fun jn69 => ?_)
          · have hw := hK68 x65 κ66 hw
            have hl : lv_has ls 10 [(6, va_rf x5), (1, va_rf a1), (0, .ref h)] := hl
            refine lv_aload_n hx hb dX11_openThere_66 rfl (lv_at hl 2 rfl) ?_
            refine w_aloadq_n hF dX11_openThere_67 rfl (lv_at hl 1 rfl) ?_
            refine w_aloadq hF dX11_openThere_68 (lv_at hl 0 rfl) ?_
            refine cw_cVi (b := h) (As := [va_rf a1, va_rf x5]) (rest := []) hF hH hA hE mv_X11_727 ci_X11 (by decide) (fun sz => c_X11_waitFor l D t G _ h a1 x5 _ hw.2 sz) dX11_openThere_70 hw.1 ⟨Nat.le_of_ble_eq_true rfl, Nat.le_of_ble_eq_true rfl⟩ rfl hl.1 (Nat.le_of_ble_eq_true rfl) rfl (fun z71 κ70 H locs cells slots hw hH => ?_)
            exact cw_reti hF hH ⟨rfl, rfl⟩ hr rfl hlk dX11_openThere_73 hw
          · skip
            refine w_if_ne (tgt := 66) hF dX11_openThere_53 rfl hw (fun hw => ?_) (fun hw => ?_)
            · have hl : lv_has ls 10 [(6, va_rf x5), (1, va_rf a1), (0, .ref h)] := lv_sub hl [0, 4, 5] rfl
              exact jn69 () κ6 ls _ _ _ _ hl hw hH
            · refine w_aloadq hF dX11_openThere_56 (lv_at hl 0 rfl) ?_
              refine cw_getI (q := x5) hF hH fk_X11_726 dX11_openThere_58 hw (fun z72 hw => ?_)
              refine lv_bipush (v := 9) hx hb dX11_openThere_61 (by decide) ?_
              refine w_icmp_ne (tgt := 74) hF dX11_openThere_63 rfl hw (fun hw => ?_) (fun hw => ?_)
              · exact jn14 () κ6 ls _ _ _ _ hl hw hH
              · have hl : lv_has ls 10 [(6, va_rf x5), (1, va_rf a1), (0, .ref h)] := lv_sub hl [0, 4, 5] rfl
                exact jn69 () κ6 ls _ _ _ _ hl hw hH
    · skip
      refine w_if_eq (tgt := 35) hF dX11_openThere_28 rfl hw (fun hw => ?_) (fun hw => ?_)
      · refine lv_aload_n hx hb dX11_openThere_35 rfl (lv_at hl 2 rfl) ?_
        refine w_aloadq hF dX11_openThere_36 (lv_at hl 1 rfl) ?_
        refine cw_cVq (b := h) (As := [va_rf z1]) (rest := []) hF hH hA hE mv_X11_722 ci_X11 (by decide) (fun sz => c_X11_holder l D t G _ h z1 _ hw.2 sz) dX11_openThere_38 hw.1 ⟨Nat.le_of_ble_eq_true rfl, Nat.le_of_ble_eq_true rfl⟩ rfl hl.1 (Nat.le_of_ble_eq_true rfl) rfl (fun z74 κ73 H locs cells slots hw hH => ?_)
        have hl : lv_has ls 10 [(4, va_rf z1), (3, va_rf a3), (2, va_rf a2), (1, va_rf a1), (0, .ref h)] := lv_sub hl [1, 5, 4, 3, 2] rfl
        exact jn9 z74 κ73 ls _ _ _ _ hl hw hH
      · refine cw_null dX11_openThere_31 hF ?_
        refine lv_goto (tgt := 41) hx hb dX11_openThere_32 rfl ?_
        have hl : lv_has ls 10 [(4, va_rf z1), (3, va_rf a3), (2, va_rf a2), (1, va_rf a1), (0, .ref h)] := lv_sub hl [1, 5, 4, 3, 2] rfl
        exact jn9 (none : Option Nat) κ2 ls _ _ _ _ hl hw hH
  · refine lv_iload hx hb dX11_openThere_20 (lv_at hl 0 rfl) ?_
    exact cw_reti hF hH ⟨rfl, rfl⟩ hr rfl hlk dX11_openThere_22 hw
set_option maxRecDepth 100000 in
def F_X11_tryOpen (G : GE) (h : Nat) (a1 : Option Nat) (a2 : Option Nat) (post : Int32 → CS → Prop) (κ : CS) : Prop := ∃ b : Nat, a1 = some b ∧ (b ∈ sL κ.1 ∧ sK κ.1 b = 8) ∧ ∀ z1 : Option Nat, z1 = sP κ.1 b 17 → jc (fun (K4 : Unit → CS → Prop) => ((z1 = none) → K4 () κ) ∧ ((¬ z1 = none) → ∃ b : Nat, a1 = some b ∧ (b ∈ sL κ.1 ∧ sK κ.1 b = 8) ∧ ∀ z7 : Option Nat, z7 = sP κ.1 b 14 → ((¬ z7 = none) → ∃ b : Nat, a1 = some b ∧ (b ∈ sL κ.1 ∧ sK κ.1 b = 8) ∧ ∀ z8 : Option Nat, z8 = sP κ.1 b 14 → ∃ b : Nat, z8 = some b ∧ (b ∈ sL κ.1 ∧ sK κ.1 b = 12) ∧ ∀ z9 : Option Nat, z9 = sP κ.1 b 2 → (h ∈ sL κ.1 ∧ sK κ.1 h = 1) ∧ F_X11_walk G h z1 z9 (fun (z11 : Int32) (κ10 : CS) => ((¬ z11.toInt = 0) → ∃ b : Nat, z1 = some b ∧ (b ∈ sL κ10.1 ∧ sK κ10.1 b = 13) ∧ ∀ z12 : Option Nat, z12 = sP κ10.1 b 11 → jc (fun (K15 : Int32 → CS → Prop) => ((¬ z12 = none) → (h ∈ sL κ10.1 ∧ sK κ10.1 h = 1) ∧ F_X11_openThere G h a1 z1 a2 (fun (z19 : Int32) (κ18 : CS) => K15 z19 κ18) κ10) ∧ ((z12 = none) → (h ∈ sL κ10.1 ∧ sK κ10.1 h = 1) ∧ F_X11_openNew G h a1 z1 a2 (fun (z21 : Int32) (κ20 : CS) => K15 z21 κ20) κ10)) (fun (x13 : Int32) (κ14 : CS) => post x13 κ14)) ∧ ((z11.toInt = 0) → post (-1073741766) κ10)) κ) ∧ ((z7 = none) → K4 () κ))) (fun (x2 : Unit) (κ3 : CS) => post (-1073741811) κ3)
theorem dX11_tryOpen_0 : decode cX11_tryOpen 0 = .ok (.aload_n 1, 1) := by decide +kernel
theorem dX11_tryOpen_1 : decode cX11_tryOpen 1 = .ok (.getfield 591, 3) := by decide +kernel
theorem dX11_tryOpen_4 : decode cX11_tryOpen 4 = .ok (.astore_n 3, 1) := by decide +kernel
theorem dX11_tryOpen_5 : decode cX11_tryOpen 5 = .ok (.aload_n 3, 1) := by decide +kernel
theorem dX11_tryOpen_6 : decode cX11_tryOpen 6 = .ok (.ifnull 10, 3) := by decide +kernel
theorem dX11_tryOpen_9 : decode cX11_tryOpen 9 = .ok (.aload_n 1, 1) := by decide +kernel
theorem dX11_tryOpen_10 : decode cX11_tryOpen 10 = .ok (.getfield 382, 3) := by decide +kernel
theorem dX11_tryOpen_13 : decode cX11_tryOpen 13 = .ok (.ifnonnull 7, 3) := by decide +kernel
theorem dX11_tryOpen_16 : decode cX11_tryOpen 16 = .ok (.ldc_w 398, 3) := by decide +kernel
theorem dX11_tryOpen_19 : decode cX11_tryOpen 19 = .ok (.ireturn, 1) := by decide +kernel
theorem dX11_tryOpen_20 : decode cX11_tryOpen 20 = .ok (.aload_n 0, 1) := by decide +kernel
theorem dX11_tryOpen_21 : decode cX11_tryOpen 21 = .ok (.aload_n 3, 1) := by decide +kernel
theorem dX11_tryOpen_22 : decode cX11_tryOpen 22 = .ok (.aload_n 1, 1) := by decide +kernel
theorem dX11_tryOpen_23 : decode cX11_tryOpen 23 = .ok (.getfield 382, 3) := by decide +kernel
theorem dX11_tryOpen_26 : decode cX11_tryOpen 26 = .ok (.getfield 674, 3) := by decide +kernel
theorem dX11_tryOpen_29 : decode cX11_tryOpen 29 = .ok (.invokevirtual 677, 3) := by decide +kernel
theorem dX11_tryOpen_32 : decode cX11_tryOpen 32 = .ok (.ifCond .ne 7, 3) := by decide +kernel
theorem dX11_tryOpen_35 : decode cX11_tryOpen 35 = .ok (.ldc_w 681, 3) := by decide +kernel
theorem dX11_tryOpen_38 : decode cX11_tryOpen 38 = .ok (.ireturn, 1) := by decide +kernel
theorem dX11_tryOpen_39 : decode cX11_tryOpen 39 = .ok (.aload_n 3, 1) := by decide +kernel
theorem dX11_tryOpen_40 : decode cX11_tryOpen 40 = .ok (.getfield 682, 3) := by decide +kernel
theorem dX11_tryOpen_43 : decode cX11_tryOpen 43 = .ok (.ifnonnull 13, 3) := by decide +kernel
theorem dX11_tryOpen_46 : decode cX11_tryOpen 46 = .ok (.aload_n 0, 1) := by decide +kernel
theorem dX11_tryOpen_47 : decode cX11_tryOpen 47 = .ok (.aload_n 1, 1) := by decide +kernel
theorem dX11_tryOpen_48 : decode cX11_tryOpen 48 = .ok (.aload_n 3, 1) := by decide +kernel
theorem dX11_tryOpen_49 : decode cX11_tryOpen 49 = .ok (.aload_n 2, 1) := by decide +kernel
theorem dX11_tryOpen_50 : decode cX11_tryOpen 50 = .ok (.invokevirtual 685, 3) := by decide +kernel
theorem dX11_tryOpen_53 : decode cX11_tryOpen 53 = .ok (.goto 10, 3) := by decide +kernel
theorem dX11_tryOpen_56 : decode cX11_tryOpen 56 = .ok (.aload_n 0, 1) := by decide +kernel
theorem dX11_tryOpen_57 : decode cX11_tryOpen 57 = .ok (.aload_n 1, 1) := by decide +kernel
theorem dX11_tryOpen_58 : decode cX11_tryOpen 58 = .ok (.aload_n 3, 1) := by decide +kernel
theorem dX11_tryOpen_59 : decode cX11_tryOpen 59 = .ok (.aload_n 2, 1) := by decide +kernel
theorem dX11_tryOpen_60 : decode cX11_tryOpen 60 = .ok (.invokevirtual 689, 3) := by decide +kernel
theorem dX11_tryOpen_63 : decode cX11_tryOpen 63 = .ok (.ireturn, 1) := by decide +kernel
set_option maxRecDepth 100000 in
set_option maxHeartbeats 4000000 in
theorem c_X11_tryOpen (l : Launch) (D : va_G) (t : Nat → ClassId) (G : GE) (κ : CS) (h : Nat) (a1 : Option Nat) (a2 : Option Nat) (post : Int32 → CS → Prop) (hw : F_X11_tryOpen G h a1 a2 post κ) (sz : Nat) : CMi l D t yX11_tryOpen cX11_tryOpen 4 (some .int) 9 227 G κ sz [.ref h, va_rf a1, va_rf a2] post := by
  refine c_go (by decide) (by cases a1 <;> cases a2 <;> exact Nat.le_of_ble_eq_true rfl) ?_
  intro p e s m below meth c ls A hF hr hlk hin hAe hH hA hE hl
  unfold cB
  rw [hAe]
  clear hAe
  have hF : FX p m c cX11_tryOpen 4 s _ RX11 D t := hF
  have hx := hF.1.1
  have hb := hF.1.2.1
  have hl : lv_has ls 4 [(0, .ref h), (1, va_rf a1), (2, va_rf a2)] := (by have h2 := hl; clear hw; revert h2; cases a1 <;> cases a2 <;> exact id)
  unfold F_X11_tryOpen at hw
  refine w_aloadq_n hF dX11_tryOpen_0 rfl (lv_at hl 1 rfl) ?_
  refine cw_getP (q := a1) hF hH fk_X11_591 dX11_tryOpen_1 hw (fun z1 hw => ?_)
  refine w_astoreq_n (lv' := [(3, va_rf z1), (0, .ref h), (1, va_rf a1), (2, va_rf a2)]) hF dX11_tryOpen_4 rfl hl (by decide) (by generalize a2 = y; cases y <;> rfl) (fun ls hl => ?_)
  refine w_aloadq_n hF dX11_tryOpen_5 rfl (lv_at hl 0 rfl) ?_
  obtain ⟨K4, hK5, hw⟩ := jc_open hw
  refine cw_join (K := K4) 16 (fun (x2 : Unit) => []) (fun (x2 : Unit) => []) hl hH (fun x2 κ3 ls H locs cells slots hl hw hH => ?_) (fun jn6 => ?_)
  · have hw := hK5 x2 κ3 hw
    have hl : lv_has ls 4 [] := hl
    refine lv_ldcw (v := (-1073741811)) hx hb hF.1.2.2.2.1 (hF.1.2.2.2.2 _ (wc_16 24 rfl)) dX11_tryOpen_16 ?_
    exact cw_reti hF hH ⟨rfl, rfl⟩ hr rfl hlk dX11_tryOpen_19 hw
  · skip
    refine cw_ifnull (q := z1) (tgt := 16) hF dX11_tryOpen_6 rfl hw (fun hw => ?_) (fun hw => ?_)
    · have hl : lv_has ls 4 [] := lv_sub hl [] rfl
      exact jn6 () κ ls _ _ _ _ hl hw hH
    · refine w_aloadq_n hF dX11_tryOpen_9 rfl (lv_at hl 2 rfl) ?_
      refine cw_getP (q := a1) hF hH fk_X11_382 dX11_tryOpen_10 hw (fun z7 hw => ?_)
      refine cw_ifnonnull (q := z7) (tgt := 20) hF dX11_tryOpen_13 rfl hw (fun hw => ?_) (fun hw => ?_)
      · refine lv_aload_n hx hb dX11_tryOpen_20 rfl (lv_at hl 1 rfl) ?_
        refine w_aloadq_n hF dX11_tryOpen_21 rfl (lv_at hl 0 rfl) ?_
        refine w_aloadq_n hF dX11_tryOpen_22 rfl (lv_at hl 2 rfl) ?_
        refine cw_getP (q := a1) hF hH fk_X11_382 dX11_tryOpen_23 hw (fun z8 hw => ?_)
        refine cw_getP (q := z8) hF hH fk_X11_674 dX11_tryOpen_26 hw (fun z9 hw => ?_)
        refine cw_cVi (b := h) (As := [va_rf z1, va_rf z9]) (rest := []) hF hH hA hE mv_X11_677 ci_X11 (by decide) (fun sz => c_X11_walk l D t G _ h z1 z9 _ hw.2 sz) dX11_tryOpen_29 hw.1 ⟨Nat.le_of_ble_eq_true rfl, Nat.le_of_ble_eq_true rfl⟩ rfl hl.1 (Nat.le_of_ble_eq_true rfl) rfl (fun z11 κ10 H locs cells slots hw hH => ?_)
        refine w_if_ne (tgt := 39) hF dX11_tryOpen_32 rfl hw (fun hw => ?_) (fun hw => ?_)
        · refine w_aloadq_n hF dX11_tryOpen_39 rfl (lv_at hl 0 rfl) ?_
          refine cw_getP (q := z1) hF hH fk_X11_682 dX11_tryOpen_40 hw (fun z12 hw => ?_)
          obtain ⟨K15, hK16, hw⟩ := jc_open hw
          refine cw_join (K := K15) 63 (fun (x13 : Int32) => []) (fun (x13 : Int32) => [.int x13]) hl hH (fun x13 κ14 ls H locs cells slots hl hw hH => ?_) (fun jn17 => ?_)
          · have hw := hK16 x13 κ14 hw
            have hl : lv_has ls 4 [] := hl
            exact cw_reti hF hH ⟨rfl, rfl⟩ hr rfl hlk dX11_tryOpen_63 hw
          · skip
            refine cw_ifnonnull (q := z12) (tgt := 56) hF dX11_tryOpen_43 rfl hw (fun hw => ?_) (fun hw => ?_)
            · refine lv_aload_n hx hb dX11_tryOpen_56 rfl (lv_at hl 1 rfl) ?_
              refine w_aloadq_n hF dX11_tryOpen_57 rfl (lv_at hl 2 rfl) ?_
              refine w_aloadq_n hF dX11_tryOpen_58 rfl (lv_at hl 0 rfl) ?_
              refine w_aloadq_n hF dX11_tryOpen_59 rfl (lv_at hl 3 rfl) ?_
              refine cw_cVi (b := h) (As := [va_rf a1, va_rf z1, va_rf a2]) (rest := []) hF hH hA hE mv_X11_689 ci_X11 (by decide) (fun sz => c_X11_openThere l D t G _ h a1 z1 a2 _ hw.2 sz) dX11_tryOpen_60 hw.1 ⟨Nat.le_of_ble_eq_true rfl, Nat.le_of_ble_eq_true rfl⟩ rfl hl.1 (Nat.le_of_ble_eq_true rfl) rfl (fun z19 κ18 H locs cells slots hw hH => ?_)
              have hl : lv_has ls 4 [] := lv_sub hl [] rfl
              exact jn17 z19 κ18 ls _ _ _ _ hl hw hH
            · refine lv_aload_n hx hb dX11_tryOpen_46 rfl (lv_at hl 1 rfl) ?_
              refine w_aloadq_n hF dX11_tryOpen_47 rfl (lv_at hl 2 rfl) ?_
              refine w_aloadq_n hF dX11_tryOpen_48 rfl (lv_at hl 0 rfl) ?_
              refine w_aloadq_n hF dX11_tryOpen_49 rfl (lv_at hl 3 rfl) ?_
              refine cw_cVi (b := h) (As := [va_rf a1, va_rf z1, va_rf a2]) (rest := []) hF hH hA hE mv_X11_685 ci_X11 (by decide) (fun sz => c_X11_openNew l D t G _ h a1 z1 a2 _ hw.2 sz) dX11_tryOpen_50 hw.1 ⟨Nat.le_of_ble_eq_true rfl, Nat.le_of_ble_eq_true rfl⟩ rfl hl.1 (Nat.le_of_ble_eq_true rfl) rfl (fun z21 κ20 H locs cells slots hw hH => ?_)
              refine lv_goto (tgt := 63) hx hb dX11_tryOpen_53 rfl ?_
              have hl : lv_has ls 4 [] := lv_sub hl [] rfl
              exact jn17 z21 κ20 ls _ _ _ _ hl hw hH
        · refine lv_ldcw (v := (-1073741766)) hx hb hF.1.2.2.2.1 (hF.1.2.2.2.2 _ (wc_17 36 rfl)) dX11_tryOpen_35 ?_
          exact cw_reti hF hH ⟨rfl, rfl⟩ hr rfl hlk dX11_tryOpen_38 hw
      · have hl : lv_has ls 4 [] := lv_sub hl [] rfl
        exact jn6 () κ ls _ _ _ _ hl hw hH
set_option maxRecDepth 100000 in
def F_X11_stopWaiting (G : GE) (h : Nat) (a1 : Option Nat) (post : CS → Prop) (κ : CS) : Prop := (h ∈ sL κ.1 ∧ sK κ.1 h = 1) ∧ ∀ z1 : Option Nat, z1 = sP κ.1 h 12 → ∃ b : Nat, z1 = some b ∧ (b ∈ sL κ.1 ∧ sK κ.1 b = 7) ∧ F_Jx4a65c_size_8abf5 G b  (fun (z3 : Int32) (κ2 : CS) => ∀ z4 : Int32, z4 = z3 - 1 → lc (fun (K7 : Int32 → CS → Prop) (x5 : Int32) (κ6 : CS) => ((x5.toInt < 0) → post κ6) ∧ ((0 ≤ x5.toInt) → (h ∈ sL κ6.1 ∧ sK κ6.1 h = 1) ∧ ∀ z9 : Option Nat, z9 = sP κ6.1 h 12 → ∃ b : Nat, z9 = some b ∧ (b ∈ sL κ6.1 ∧ sK κ6.1 b = 7) ∧ F_Jx4a65c_get_915e3 G b x5 (fun (z11 : Option Nat) (κ10 : CS) => jc (fun (K14 : Unit → CS → Prop) => ((¬ z11 = a1) → K14 () κ10) ∧ ((z11 = a1) → (h ∈ sL κ10.1 ∧ sK κ10.1 h = 1) ∧ ∀ z18 : Option Nat, z18 = sP κ10.1 h 12 → ∃ b : Nat, z18 = some b ∧ (b ∈ sL κ10.1 ∧ sK κ10.1 b = 7) ∧ F_Jx4a65c_remove_915e3 G b x5 (fun (z20 : Option Nat) (κ19 : CS) => K14 () κ19) κ10)) (fun (x12 : Unit) (κ13 : CS) => ∀ z17 : Int32, z17 = x5 + (-1) → K7 z17 κ13)) κ6)) z4 κ2) κ
theorem dX11_stopWaiting_0 : decode cX11_stopWaiting 0 = .ok (.aload_n 0, 1) := by decide +kernel
theorem dX11_stopWaiting_1 : decode cX11_stopWaiting 1 = .ok (.getfield 58, 3) := by decide +kernel
theorem dX11_stopWaiting_4 : decode cX11_stopWaiting 4 = .ok (.invokevirtual 161, 3) := by decide +kernel
theorem dX11_stopWaiting_7 : decode cX11_stopWaiting 7 = .ok (.iconst 1, 1) := by decide +kernel
theorem dX11_stopWaiting_8 : decode cX11_stopWaiting 8 = .ok (.isub, 1) := by decide +kernel
theorem dX11_stopWaiting_9 : decode cX11_stopWaiting 9 = .ok (.istore_n 2, 1) := by decide +kernel
theorem dX11_stopWaiting_10 : decode cX11_stopWaiting 10 = .ok (.iload_n 2, 1) := by decide +kernel
theorem dX11_stopWaiting_11 : decode cX11_stopWaiting 11 = .ok (.ifCond .lt 30, 3) := by decide +kernel
theorem dX11_stopWaiting_14 : decode cX11_stopWaiting 14 = .ok (.aload_n 0, 1) := by decide +kernel
theorem dX11_stopWaiting_15 : decode cX11_stopWaiting 15 = .ok (.getfield 58, 3) := by decide +kernel
theorem dX11_stopWaiting_18 : decode cX11_stopWaiting 18 = .ok (.iload_n 2, 1) := by decide +kernel
theorem dX11_stopWaiting_19 : decode cX11_stopWaiting 19 = .ok (.invokevirtual 164, 3) := by decide +kernel
theorem dX11_stopWaiting_22 : decode cX11_stopWaiting 22 = .ok (.aload_n 1, 1) := by decide +kernel
theorem dX11_stopWaiting_23 : decode cX11_stopWaiting 23 = .ok (.if_acmp .ne 12, 3) := by decide +kernel
theorem dX11_stopWaiting_26 : decode cX11_stopWaiting 26 = .ok (.aload_n 0, 1) := by decide +kernel
theorem dX11_stopWaiting_27 : decode cX11_stopWaiting 27 = .ok (.getfield 58, 3) := by decide +kernel
theorem dX11_stopWaiting_30 : decode cX11_stopWaiting 30 = .ok (.iload_n 2, 1) := by decide +kernel
theorem dX11_stopWaiting_31 : decode cX11_stopWaiting 31 = .ok (.invokevirtual 496, 3) := by decide +kernel
theorem dX11_stopWaiting_34 : decode cX11_stopWaiting 34 = .ok (.pop, 1) := by decide +kernel
theorem dX11_stopWaiting_35 : decode cX11_stopWaiting 35 = .ok (.iinc 2 (-1), 3) := by decide +kernel
theorem dX11_stopWaiting_38 : decode cX11_stopWaiting 38 = .ok (.goto (-28), 3) := by decide +kernel
theorem dX11_stopWaiting_41 : decode cX11_stopWaiting 41 = .ok (.return_, 1) := by decide +kernel
set_option maxRecDepth 100000 in
set_option maxHeartbeats 4000000 in
theorem c_X11_stopWaiting (l : Launch) (D : va_G) (t : Nat → ClassId) (G : GE) (κ : CS) (h : Nat) (a1 : Option Nat) (post : CS → Prop) (hw : F_X11_stopWaiting G h a1 post κ) (sz : Nat) : CMv l D t yX11_stopWaiting cX11_stopWaiting 3 3 86 G κ sz [.ref h, va_rf a1] post := by
  refine c_go (by decide) (by cases a1 <;> exact Nat.le_of_ble_eq_true rfl) ?_
  intro p e s m below meth c ls A hF hr hlk hin hAe hH hA hE hl
  unfold cB
  rw [hAe]
  clear hAe
  have hF : FX p m c cX11_stopWaiting 3 s _ RX11 D t := hF
  have hx := hF.1.1
  have hb := hF.1.2.1
  have hl : lv_has ls 3 [(0, .ref h), (1, va_rf a1)] := (by have h2 := hl; clear hw; revert h2; cases a1 <;> exact id)
  unfold F_X11_stopWaiting at hw
  refine lv_aload_n hx hb dX11_stopWaiting_0 rfl (lv_at hl 0 rfl) ?_
  refine cw_getPr (a := h) hF hH fk_X11_58 dX11_stopWaiting_1 hw (fun z1 hw => ?_)
  refine cw_cViq (q := z1) (As := []) (rest := []) hF hH hA hE mv_X11_161 ci_Jx4a65c (by decide) hw (fun b hw sz => c_Jx4a65c_size_8abf5 l D t G _ b  _ hw sz) dX11_stopWaiting_4 ⟨Nat.le_of_ble_eq_true rfl, Nat.le_of_ble_eq_true rfl⟩ rfl hl.1 (Nat.le_of_ble_eq_true rfl) rfl (fun z3 κ2 H locs cells slots hw hH => ?_)
  refine lv_iconst (v := 1) hx hb dX11_stopWaiting_7 (by decide) ?_
  refine lv_isub hx hb dX11_stopWaiting_8 ?_
  refine w_nmi hw (fun z4 hw => ?_)
  refine lv_istore_n (lv' := [(2, .int z4), (0, .ref h), (1, va_rf a1)]) hx hb dX11_stopWaiting_9 rfl hl (by decide) (by generalize a1 = y; cases y <;> rfl) (fun ls hl => ?_)
  have hl : lv_has ls 3 [(2, .int z4), (1, va_rf a1), (0, .ref h)] := lv_sub hl [0, 2, 1] rfl
  refine cw_loop (β := Int32) (fun x5 => [(2, .int x5), (1, va_rf a1), (0, .ref h)]) z4 hl hw hH (fun K7 x5 κ6 ls H locs cells slots hl hw hH ih8 => ?_)
  have hl : lv_has ls 3 [(2, .int x5), (1, va_rf a1), (0, .ref h)] := hl
  refine lv_iload_n hx hb dX11_stopWaiting_10 rfl (lv_at hl 0 rfl) ?_
  refine w_if_lt (tgt := 41) hF dX11_stopWaiting_11 rfl hw (fun hw => ?_) (fun hw => ?_)
  · exact cw_retv hF hH ⟨rfl, rfl⟩ hr hlk dX11_stopWaiting_41 hw
  · refine lv_aload_n hx hb dX11_stopWaiting_14 rfl (lv_at hl 2 rfl) ?_
    refine cw_getPr (a := h) hF hH fk_X11_58 dX11_stopWaiting_15 hw (fun z9 hw => ?_)
    refine lv_iload_n hx hb dX11_stopWaiting_18 rfl (lv_at hl 0 rfl) ?_
    refine cw_cVqq (q := z9) (As := [.int x5]) (rest := []) hF hH hA hE mv_X11_164 ci_Jx4a65c (by decide) hw (fun b hw sz => c_Jx4a65c_get_915e3 l D t G _ b x5 _ hw sz) dX11_stopWaiting_19 ⟨Nat.le_of_ble_eq_true rfl, Nat.le_of_ble_eq_true rfl⟩ rfl hl.1 (Nat.le_of_ble_eq_true rfl) rfl (fun z11 κ10 H locs cells slots hw hH => ?_)
    refine w_aloadq_n hF dX11_stopWaiting_22 rfl (lv_at hl 1 rfl) ?_
    obtain ⟨K14, hK15, hw⟩ := jc_open hw
    refine cw_join (K := K14) 35 (fun (x12 : Unit) => [(2, .int x5), (1, va_rf a1), (0, .ref h)]) (fun (x12 : Unit) => []) hl hH (fun x12 κ13 ls H locs cells slots hl hw hH => ?_) (fun jn16 => ?_)
    · have hw := hK15 x12 κ13 hw
      have hl : lv_has ls 3 [(2, .int x5), (1, va_rf a1), (0, .ref h)] := hl
      obtain ⟨z17, ez17⟩ : ∃ z : Int32, z = x5 + (-1) := ⟨_, rfl⟩
      have hw := hw z17 ez17
      refine lv_iinc (lv' := [(2, .int z17), (1, va_rf a1), (0, .ref h)]) (k := 0) (v := z17) hx hb dX11_stopWaiting_35 hl rfl ez17.symm (by decide) (by generalize a1 = y; cases y <;> rfl) (fun ls hl => ?_)
      refine lv_goto (tgt := 10) hx hb dX11_stopWaiting_38 rfl ?_
      exact ih8 z17 κ13 ls _ _ _ _ hl hw hH
    · skip
      refine cw_acmp_ne (rx := z11) (ry := a1) (tgt := 35) hF dX11_stopWaiting_23 rfl hw (fun hw => ?_) (fun hw => ?_)
      · exact jn16 () κ10 ls _ _ _ _ hl hw hH
      · refine lv_aload_n hx hb dX11_stopWaiting_26 rfl (lv_at hl 2 rfl) ?_
        refine cw_getPr (a := h) hF hH fk_X11_58 dX11_stopWaiting_27 hw (fun z18 hw => ?_)
        refine lv_iload_n hx hb dX11_stopWaiting_30 rfl (lv_at hl 0 rfl) ?_
        refine cw_cVqq (q := z18) (As := [.int x5]) (rest := []) hF hH hA hE mv_X11_496 ci_Jx4a65c (by decide) hw (fun b hw sz => c_Jx4a65c_remove_915e3 l D t G _ b x5 _ hw sz) dX11_stopWaiting_31 ⟨Nat.le_of_ble_eq_true rfl, Nat.le_of_ble_eq_true rfl⟩ rfl hl.1 (Nat.le_of_ble_eq_true rfl) rfl (fun z20 κ19 H locs cells slots hw hH => ?_)
        refine lv_pop hx hb dX11_stopWaiting_34 (cat_rf _) ?_
        exact jn16 () κ19 ls _ _ _ _ hl hw hH
set_option maxRecDepth 100000 in
def F_X11_cancelLocksThatWait (G : GE) (h : Nat) (a1 : Option Nat) (post : CS → Prop) (κ : CS) : Prop := (h ∈ sL κ.1 ∧ sK κ.1 h = 1) ∧ ∀ z1 : Option Nat, z1 = sP κ.1 h 12 → ∃ b : Nat, z1 = some b ∧ (b ∈ sL κ.1 ∧ sK κ.1 b = 7) ∧ F_Jx4a65c_size_8abf5 G b  (fun (z3 : Int32) (κ2 : CS) => lc (fun (K6 : (Int32 × Int32) → CS → Prop) (x4 : Int32 × Int32) (κ5 : CS) => jc (fun (K10 : Unit → CS → Prop) => ((z3.toInt ≤ x4.1.toInt) → K10 () κ5) ∧ ((x4.1.toInt < z3.toInt) → (h ∈ sL κ5.1 ∧ sK κ5.1 h = 1) ∧ ∀ z13 : Option Nat, z13 = sP κ5.1 h 12 → ∃ b : Nat, z13 = some b ∧ (b ∈ sL κ5.1 ∧ sK κ5.1 b = 7) ∧ F_Jx4a65c_size_8abf5 G b  (fun (z15 : Int32) (κ14 : CS) => ((z15.toInt ≤ x4.2.toInt) → K10 () κ14) ∧ ((x4.2.toInt < z15.toInt) → (h ∈ sL κ14.1 ∧ sK κ14.1 h = 1) ∧ ∀ z16 : Option Nat, z16 = sP κ14.1 h 12 → ∃ b : Nat, z16 = some b ∧ (b ∈ sL κ14.1 ∧ sK κ14.1 b = 7) ∧ F_Jx4a65c_get_915e3 G b x4.2 (fun (z18 : Option Nat) (κ17 : CS) => (z18 = none ∨ ∃ b : Nat, z18 = some b ∧ b ∈ sL κ17.1 ∧ sK κ17.1 b = 8) ∧ ∃ b : Nat, z18 = some b ∧ (b ∈ sL κ17.1 ∧ sK κ17.1 b = 8) ∧ ∀ z19 : Option Nat, z19 = sP κ17.1 b 20 → jc (fun (K22 : Int32 → CS → Prop) => jc (fun (K28 : Unit → CS → Prop) => ((z19 = none) → K28 () κ17) ∧ ((¬ z19 = none) → ∃ b : Nat, z18 = some b ∧ (b ∈ sL κ17.1 ∧ sK κ17.1 b = 8) ∧ ∀ z32 : Option Nat, z32 = sP κ17.1 b 20 → ∃ b : Nat, z32 = some b ∧ (b ∈ sL κ17.1 ∧ sK κ17.1 b = 9) ∧ ∀ z33 : Option Nat, z33 = sP κ17.1 b 0 → ((¬ z33 = a1) → K28 () κ17) ∧ ((z33 = a1) → (h ∈ sL κ17.1 ∧ sK κ17.1 h = 1) ∧ ∀ z34 : Option Nat, z34 = sP κ17.1 h 12 → ∃ b : Nat, z34 = some b ∧ (b ∈ sL κ17.1 ∧ sK κ17.1 b = 7) ∧ F_Jx4a65c_remove_915e3 G b x4.2 (fun (z36 : Option Nat) (κ35 : CS) => (h ∈ sL κ35.1 ∧ sK κ35.1 h = 1) ∧ F_X11_sendLater G h z18 (-1073741536) (fun (κ37 : CS) => K22 x4.2 κ37) κ35) κ17))) (fun (x26 : Unit) (κ27 : CS) => ∀ z31 : Int32, z31 = x4.2 + 1 → K22 z31 κ27)) (fun (x20 : Int32) (κ21 : CS) => ∀ z25 : Int32, z25 = x4.1 + 1 → K6 (z25, x20) κ21)) κ14)) κ5)) (fun (x8 : Unit) (κ9 : CS) => post κ9)) (0, 0) κ2) κ
theorem dX11_cancelLocksThatWait_0 : decode cX11_cancelLocksThatWait 0 = .ok (.aload_n 0, 1) := by decide +kernel
theorem dX11_cancelLocksThatWait_1 : decode cX11_cancelLocksThatWait 1 = .ok (.getfield 58, 3) := by decide +kernel
theorem dX11_cancelLocksThatWait_4 : decode cX11_cancelLocksThatWait 4 = .ok (.invokevirtual 161, 3) := by decide +kernel
theorem dX11_cancelLocksThatWait_7 : decode cX11_cancelLocksThatWait 7 = .ok (.istore_n 2, 1) := by decide +kernel
theorem dX11_cancelLocksThatWait_8 : decode cX11_cancelLocksThatWait 8 = .ok (.iconst 0, 1) := by decide +kernel
theorem dX11_cancelLocksThatWait_9 : decode cX11_cancelLocksThatWait 9 = .ok (.istore_n 3, 1) := by decide +kernel
theorem dX11_cancelLocksThatWait_10 : decode cX11_cancelLocksThatWait 10 = .ok (.iconst 0, 1) := by decide +kernel
theorem dX11_cancelLocksThatWait_11 : decode cX11_cancelLocksThatWait 11 = .ok (.istore 4, 2) := by decide +kernel
theorem dX11_cancelLocksThatWait_13 : decode cX11_cancelLocksThatWait 13 = .ok (.iload 4, 2) := by decide +kernel
theorem dX11_cancelLocksThatWait_15 : decode cX11_cancelLocksThatWait 15 = .ok (.iload_n 2, 1) := by decide +kernel
theorem dX11_cancelLocksThatWait_16 : decode cX11_cancelLocksThatWait 16 = .ok (.if_icmp .ge 77, 3) := by decide +kernel
theorem dX11_cancelLocksThatWait_19 : decode cX11_cancelLocksThatWait 19 = .ok (.iload_n 3, 1) := by decide +kernel
theorem dX11_cancelLocksThatWait_20 : decode cX11_cancelLocksThatWait 20 = .ok (.aload_n 0, 1) := by decide +kernel
theorem dX11_cancelLocksThatWait_21 : decode cX11_cancelLocksThatWait 21 = .ok (.getfield 58, 3) := by decide +kernel
theorem dX11_cancelLocksThatWait_24 : decode cX11_cancelLocksThatWait 24 = .ok (.invokevirtual 161, 3) := by decide +kernel
theorem dX11_cancelLocksThatWait_27 : decode cX11_cancelLocksThatWait 27 = .ok (.if_icmp .ge 66, 3) := by decide +kernel
theorem dX11_cancelLocksThatWait_30 : decode cX11_cancelLocksThatWait 30 = .ok (.aload_n 0, 1) := by decide +kernel
theorem dX11_cancelLocksThatWait_31 : decode cX11_cancelLocksThatWait 31 = .ok (.getfield 58, 3) := by decide +kernel
theorem dX11_cancelLocksThatWait_34 : decode cX11_cancelLocksThatWait 34 = .ok (.iload_n 3, 1) := by decide +kernel
theorem dX11_cancelLocksThatWait_35 : decode cX11_cancelLocksThatWait 35 = .ok (.invokevirtual 164, 3) := by decide +kernel
theorem dX11_cancelLocksThatWait_38 : decode cX11_cancelLocksThatWait 38 = .ok (.checkcast 264, 3) := by decide +kernel
theorem dX11_cancelLocksThatWait_41 : decode cX11_cancelLocksThatWait 41 = .ok (.astore 5, 2) := by decide +kernel
theorem dX11_cancelLocksThatWait_43 : decode cX11_cancelLocksThatWait 43 = .ok (.aload 5, 2) := by decide +kernel
theorem dX11_cancelLocksThatWait_45 : decode cX11_cancelLocksThatWait 45 = .ok (.getfield 533, 3) := by decide +kernel
theorem dX11_cancelLocksThatWait_48 : decode cX11_cancelLocksThatWait 48 = .ok (.ifnull 36, 3) := by decide +kernel
theorem dX11_cancelLocksThatWait_51 : decode cX11_cancelLocksThatWait 51 = .ok (.aload 5, 2) := by decide +kernel
theorem dX11_cancelLocksThatWait_53 : decode cX11_cancelLocksThatWait 53 = .ok (.getfield 533, 3) := by decide +kernel
theorem dX11_cancelLocksThatWait_56 : decode cX11_cancelLocksThatWait 56 = .ok (.getfield 563, 3) := by decide +kernel
theorem dX11_cancelLocksThatWait_59 : decode cX11_cancelLocksThatWait 59 = .ok (.aload_n 1, 1) := by decide +kernel
theorem dX11_cancelLocksThatWait_60 : decode cX11_cancelLocksThatWait 60 = .ok (.if_acmp .ne 24, 3) := by decide +kernel
theorem dX11_cancelLocksThatWait_63 : decode cX11_cancelLocksThatWait 63 = .ok (.aload_n 0, 1) := by decide +kernel
theorem dX11_cancelLocksThatWait_64 : decode cX11_cancelLocksThatWait 64 = .ok (.getfield 58, 3) := by decide +kernel
theorem dX11_cancelLocksThatWait_67 : decode cX11_cancelLocksThatWait 67 = .ok (.iload_n 3, 1) := by decide +kernel
theorem dX11_cancelLocksThatWait_68 : decode cX11_cancelLocksThatWait 68 = .ok (.invokevirtual 496, 3) := by decide +kernel
theorem dX11_cancelLocksThatWait_71 : decode cX11_cancelLocksThatWait 71 = .ok (.pop, 1) := by decide +kernel
theorem dX11_cancelLocksThatWait_72 : decode cX11_cancelLocksThatWait 72 = .ok (.aload_n 0, 1) := by decide +kernel
theorem dX11_cancelLocksThatWait_73 : decode cX11_cancelLocksThatWait 73 = .ok (.aload 5, 2) := by decide +kernel
theorem dX11_cancelLocksThatWait_75 : decode cX11_cancelLocksThatWait 75 = .ok (.ldc_w 499, 3) := by decide +kernel
theorem dX11_cancelLocksThatWait_78 : decode cX11_cancelLocksThatWait 78 = .ok (.invokevirtual 500, 3) := by decide +kernel
theorem dX11_cancelLocksThatWait_81 : decode cX11_cancelLocksThatWait 81 = .ok (.goto 6, 3) := by decide +kernel
theorem dX11_cancelLocksThatWait_84 : decode cX11_cancelLocksThatWait 84 = .ok (.iinc 3 1, 3) := by decide +kernel
theorem dX11_cancelLocksThatWait_87 : decode cX11_cancelLocksThatWait 87 = .ok (.iinc 4 1, 3) := by decide +kernel
theorem dX11_cancelLocksThatWait_90 : decode cX11_cancelLocksThatWait 90 = .ok (.goto (-77), 3) := by decide +kernel
theorem dX11_cancelLocksThatWait_93 : decode cX11_cancelLocksThatWait 93 = .ok (.return_, 1) := by decide +kernel
set_option maxRecDepth 100000 in
set_option maxHeartbeats 4000000 in
theorem c_X11_cancelLocksThatWait (l : Launch) (D : va_G) (t : Nat → ClassId) (G : GE) (κ : CS) (h : Nat) (a1 : Option Nat) (post : CS → Prop) (hw : F_X11_cancelLocksThatWait G h a1 post κ) (sz : Nat) : CMv l D t yX11_cancelLocksThatWait cX11_cancelLocksThatWait 6 5 129 G κ sz [.ref h, va_rf a1] post := by
  refine c_go (by decide) (by cases a1 <;> exact Nat.le_of_ble_eq_true rfl) ?_
  intro p e s m below meth c ls A hF hr hlk hin hAe hH hA hE hl
  unfold cB
  rw [hAe]
  clear hAe
  have hF : FX p m c cX11_cancelLocksThatWait 6 s _ RX11 D t := hF
  have hx := hF.1.1
  have hb := hF.1.2.1
  have hl : lv_has ls 6 [(0, .ref h), (1, va_rf a1)] := (by have h2 := hl; clear hw; revert h2; cases a1 <;> exact id)
  unfold F_X11_cancelLocksThatWait at hw
  refine lv_aload_n hx hb dX11_cancelLocksThatWait_0 rfl (lv_at hl 0 rfl) ?_
  refine cw_getPr (a := h) hF hH fk_X11_58 dX11_cancelLocksThatWait_1 hw (fun z1 hw => ?_)
  refine cw_cViq (q := z1) (As := []) (rest := []) hF hH hA hE mv_X11_161 ci_Jx4a65c (by decide) hw (fun b hw sz => c_Jx4a65c_size_8abf5 l D t G _ b  _ hw sz) dX11_cancelLocksThatWait_4 ⟨Nat.le_of_ble_eq_true rfl, Nat.le_of_ble_eq_true rfl⟩ rfl hl.1 (Nat.le_of_ble_eq_true rfl) rfl (fun z3 κ2 H locs cells slots hw hH => ?_)
  refine lv_istore_n (lv' := [(2, .int z3), (0, .ref h), (1, va_rf a1)]) hx hb dX11_cancelLocksThatWait_7 rfl hl (by decide) (by generalize a1 = y; cases y <;> rfl) (fun ls hl => ?_)
  refine lv_iconst (v := 0) hx hb dX11_cancelLocksThatWait_8 (by decide) ?_
  refine lv_istore_n (lv' := [(3, .int 0), (2, .int z3), (0, .ref h), (1, va_rf a1)]) hx hb dX11_cancelLocksThatWait_9 rfl hl (by decide) rfl (fun ls hl => ?_)
  refine lv_iconst (v := 0) hx hb dX11_cancelLocksThatWait_10 (by decide) ?_
  refine lv_istore (lv' := [(4, .int 0), (3, .int 0), (2, .int z3), (0, .ref h), (1, va_rf a1)]) hx hb dX11_cancelLocksThatWait_11 hl (by decide) rfl (fun ls hl => ?_)
  have hl : lv_has ls 6 [(4, .int 0), (3, .int 0), (2, .int z3), (1, va_rf a1), (0, .ref h)] := lv_sub hl [0, 1, 2, 4, 3] rfl
  refine cw_loop (β := Int32 × Int32) (fun x4 => [(4, .int x4.1), (3, .int x4.2), (2, .int z3), (1, va_rf a1), (0, .ref h)]) (0, 0) hl hw hH (fun K6 x4 κ5 ls H locs cells slots hl hw hH ih7 => ?_)
  have hl : lv_has ls 6 [(4, .int x4.1), (3, .int x4.2), (2, .int z3), (1, va_rf a1), (0, .ref h)] := hl
  refine lv_iload hx hb dX11_cancelLocksThatWait_13 (lv_at hl 0 rfl) ?_
  refine lv_iload_n hx hb dX11_cancelLocksThatWait_15 rfl (lv_at hl 2 rfl) ?_
  obtain ⟨K10, hK11, hw⟩ := jc_open hw
  refine cw_join (K := K10) 93 (fun (x8 : Unit) => []) (fun (x8 : Unit) => []) hl hH (fun x8 κ9 ls H locs cells slots hl hw hH => ?_) (fun jn12 => ?_)
  · have hw := hK11 x8 κ9 hw
    have hl : lv_has ls 6 [] := hl
    exact cw_retv hF hH ⟨rfl, rfl⟩ hr hlk dX11_cancelLocksThatWait_93 hw
  · skip
    refine w_icmp_ge (tgt := 93) hF dX11_cancelLocksThatWait_16 rfl hw (fun hw => ?_) (fun hw => ?_)
    · have hl : lv_has ls 6 [] := lv_sub hl [] rfl
      exact jn12 () κ5 ls _ _ _ _ hl hw hH
    · refine lv_iload_n hx hb dX11_cancelLocksThatWait_19 rfl (lv_at hl 1 rfl) ?_
      refine lv_aload_n hx hb dX11_cancelLocksThatWait_20 rfl (lv_at hl 4 rfl) ?_
      refine cw_getPr (a := h) hF hH fk_X11_58 dX11_cancelLocksThatWait_21 hw (fun z13 hw => ?_)
      refine cw_cViq (q := z13) (As := []) (rest := [.int x4.2]) hF hH hA hE mv_X11_161 ci_Jx4a65c (by decide) hw (fun b hw sz => c_Jx4a65c_size_8abf5 l D t G _ b  _ hw sz) dX11_cancelLocksThatWait_24 ⟨Nat.le_of_ble_eq_true rfl, Nat.le_of_ble_eq_true rfl⟩ rfl hl.1 (Nat.le_of_ble_eq_true rfl) rfl (fun z15 κ14 H locs cells slots hw hH => ?_)
      refine w_icmp_ge (tgt := 93) hF dX11_cancelLocksThatWait_27 rfl hw (fun hw => ?_) (fun hw => ?_)
      · have hl : lv_has ls 6 [] := lv_sub hl [] rfl
        exact jn12 () κ14 ls _ _ _ _ hl hw hH
      · refine lv_aload_n hx hb dX11_cancelLocksThatWait_30 rfl (lv_at hl 4 rfl) ?_
        refine cw_getPr (a := h) hF hH fk_X11_58 dX11_cancelLocksThatWait_31 hw (fun z16 hw => ?_)
        refine lv_iload_n hx hb dX11_cancelLocksThatWait_34 rfl (lv_at hl 1 rfl) ?_
        refine cw_cVqq (q := z16) (As := [.int x4.2]) (rest := []) hF hH hA hE mv_X11_164 ci_Jx4a65c (by decide) hw (fun b hw sz => c_Jx4a65c_get_915e3 l D t G _ b x4.2 _ hw sz) dX11_cancelLocksThatWait_35 ⟨Nat.le_of_ble_eq_true rfl, Nat.le_of_ble_eq_true rfl⟩ rfl hl.1 (Nat.le_of_ble_eq_true rfl) rfl (fun z18 κ17 H locs cells slots hw hH => ?_)
        refine cw_cast (q := z18) hF hH ci_X0 (by decide) (wc_16 15 rfl) (by decide) dX11_cancelLocksThatWait_38 hw (fun hw => ?_)
        refine w_astoreq (lv' := [(5, va_rf z18), (4, .int x4.1), (3, .int x4.2), (2, .int z3), (1, va_rf a1), (0, .ref h)]) hF dX11_cancelLocksThatWait_41 hl (by decide) rfl (fun ls hl => ?_)
        refine w_aloadq hF dX11_cancelLocksThatWait_43 (lv_at hl 0 rfl) ?_
        refine cw_getP (q := z18) hF hH fk_X11_533 dX11_cancelLocksThatWait_45 hw (fun z19 hw => ?_)
        obtain ⟨K22, hK23, hw⟩ := jc_open hw
        refine cw_join (K := K22) 87 (fun (x20 : Int32) => [(4, .int x4.1), (3, .int x20), (2, .int z3), (1, va_rf a1), (0, .ref h)]) (fun (x20 : Int32) => []) hl hH (fun x20 κ21 ls H locs cells slots hl hw hH => ?_) (fun jn24 => ?_)
        · have hw := hK23 x20 κ21 hw
          have hl : lv_has ls 6 [(4, .int x4.1), (3, .int x20), (2, .int z3), (1, va_rf a1), (0, .ref h)] := hl
          obtain ⟨z25, ez25⟩ : ∃ z : Int32, z = x4.1 + 1 := ⟨_, rfl⟩
          have hw := hw z25 ez25
          refine lv_iinc (lv' := [(4, .int z25), (3, .int x20), (2, .int z3), (1, va_rf a1), (0, .ref h)]) (k := 0) (v := z25) hx hb dX11_cancelLocksThatWait_87 hl rfl ez25.symm (by decide) rfl (fun ls hl => ?_)
          refine lv_goto (tgt := 13) hx hb dX11_cancelLocksThatWait_90 rfl ?_
          exact ih7 (z25, x20) κ21 ls _ _ _ _ hl hw hH
        · skip
          obtain ⟨K28, hK29, hw⟩ := jc_open hw
          refine cw_join (K := K28) 84 (fun (x26 : Unit) => [(4, .int x4.1), (3, .int x4.2), (2, .int z3), (1, va_rf a1), (0, .ref h)]) (fun (x26 : Unit) => []) hl hH (fun x26 κ27 ls H locs cells slots hl hw hH => ?_) (fun jn30 => ?_)
          · have hw := hK29 x26 κ27 hw
            have hl : lv_has ls 6 [(4, .int x4.1), (3, .int x4.2), (2, .int z3), (1, va_rf a1), (0, .ref h)] := hl
            obtain ⟨z31, ez31⟩ : ∃ z : Int32, z = x4.2 + 1 := ⟨_, rfl⟩
            have hw := hw z31 ez31
            refine lv_iinc (lv' := [(3, .int z31), (4, .int x4.1), (2, .int z3), (1, va_rf a1), (0, .ref h)]) (k := 1) (v := z31) hx hb dX11_cancelLocksThatWait_84 hl rfl ez31.symm (by decide) rfl (fun ls hl => ?_)
            have hl : lv_has ls 6 [(4, .int x4.1), (3, .int z31), (2, .int z3), (1, va_rf a1), (0, .ref h)] := lv_sub hl [1, 0, 2, 3, 4] rfl
            exact jn24 z31 κ27 ls _ _ _ _ hl hw hH
          · skip
            refine cw_ifnull (q := z19) (tgt := 84) hF dX11_cancelLocksThatWait_48 rfl hw (fun hw => ?_) (fun hw => ?_)
            · have hl : lv_has ls 6 [(4, .int x4.1), (3, .int x4.2), (2, .int z3), (1, va_rf a1), (0, .ref h)] := lv_sub hl [1, 2, 3, 4, 5] rfl
              exact jn30 () κ17 ls _ _ _ _ hl hw hH
            · refine w_aloadq hF dX11_cancelLocksThatWait_51 (lv_at hl 0 rfl) ?_
              refine cw_getP (q := z18) hF hH fk_X11_533 dX11_cancelLocksThatWait_53 hw (fun z32 hw => ?_)
              refine cw_getP (q := z32) hF hH fk_X11_563 dX11_cancelLocksThatWait_56 hw (fun z33 hw => ?_)
              refine w_aloadq_n hF dX11_cancelLocksThatWait_59 rfl (lv_at hl 4 rfl) ?_
              refine cw_acmp_ne (rx := z33) (ry := a1) (tgt := 84) hF dX11_cancelLocksThatWait_60 rfl hw (fun hw => ?_) (fun hw => ?_)
              · have hl : lv_has ls 6 [(4, .int x4.1), (3, .int x4.2), (2, .int z3), (1, va_rf a1), (0, .ref h)] := lv_sub hl [1, 2, 3, 4, 5] rfl
                exact jn30 () κ17 ls _ _ _ _ hl hw hH
              · refine lv_aload_n hx hb dX11_cancelLocksThatWait_63 rfl (lv_at hl 5 rfl) ?_
                refine cw_getPr (a := h) hF hH fk_X11_58 dX11_cancelLocksThatWait_64 hw (fun z34 hw => ?_)
                refine lv_iload_n hx hb dX11_cancelLocksThatWait_67 rfl (lv_at hl 2 rfl) ?_
                refine cw_cVqq (q := z34) (As := [.int x4.2]) (rest := []) hF hH hA hE mv_X11_496 ci_Jx4a65c (by decide) hw (fun b hw sz => c_Jx4a65c_remove_915e3 l D t G _ b x4.2 _ hw sz) dX11_cancelLocksThatWait_68 ⟨Nat.le_of_ble_eq_true rfl, Nat.le_of_ble_eq_true rfl⟩ rfl hl.1 (Nat.le_of_ble_eq_true rfl) rfl (fun z36 κ35 H locs cells slots hw hH => ?_)
                refine lv_pop hx hb dX11_cancelLocksThatWait_71 (cat_rf _) ?_
                refine lv_aload_n hx hb dX11_cancelLocksThatWait_72 rfl (lv_at hl 5 rfl) ?_
                refine w_aloadq hF dX11_cancelLocksThatWait_73 (lv_at hl 0 rfl) ?_
                refine lv_ldcw (v := (-1073741536)) hx hb hF.1.2.2.2.1 (hF.1.2.2.2.2 _ (wc_21 39 rfl)) dX11_cancelLocksThatWait_75 ?_
                refine cw_cVv (b := h) (As := [va_rf z18, .int (-1073741536)]) (rest := []) hF hH hA hE mv_X11_500 ci_X11 (by decide) (fun sz => c_X11_sendLater l D t G _ h z18 (-1073741536) _ hw.2 sz) dX11_cancelLocksThatWait_78 hw.1 ⟨Nat.le_of_ble_eq_true rfl, Nat.le_of_ble_eq_true rfl⟩ rfl hl.1 (Nat.le_of_ble_eq_true rfl) rfl (fun κ37 H locs cells slots hw hH => ?_)
                refine lv_goto (tgt := 87) hx hb dX11_cancelLocksThatWait_81 rfl ?_
                have hl : lv_has ls 6 [(4, .int x4.1), (3, .int x4.2), (2, .int z3), (1, va_rf a1), (0, .ref h)] := lv_sub hl [1, 2, 3, 4, 5] rfl
                exact jn24 x4.2 κ37 ls _ _ _ _ hl hw hH
set_option maxRecDepth 100000 in
def F_X11_doAgain (G : GE) (h : Nat) (a1 : Option Nat) (post : CS → Prop) (κ : CS) : Prop := lc (fun (K3 : Int32 → CS → Prop) (x1 : Int32) (κ2 : CS) => (h ∈ sL κ2.1 ∧ sK κ2.1 h = 1) ∧ ∀ z5 : Option Nat, z5 = sP κ2.1 h 12 → ∃ b : Nat, z5 = some b ∧ (b ∈ sL κ2.1 ∧ sK κ2.1 b = 7) ∧ F_Jx4a65c_size_8abf5 G b  (fun (z7 : Int32) (κ6 : CS) => ((z7.toInt ≤ x1.toInt) → post κ6) ∧ ((x1.toInt < z7.toInt) → (h ∈ sL κ6.1 ∧ sK κ6.1 h = 1) ∧ ∀ z8 : Option Nat, z8 = sP κ6.1 h 12 → ∃ b : Nat, z8 = some b ∧ (b ∈ sL κ6.1 ∧ sK κ6.1 b = 7) ∧ F_Jx4a65c_get_915e3 G b x1 (fun (z10 : Option Nat) (κ9 : CS) => (z10 = none ∨ ∃ b : Nat, z10 = some b ∧ b ∈ sL κ9.1 ∧ sK κ9.1 b = 8) ∧ ∃ b : Nat, z10 = some b ∧ (b ∈ sL κ9.1 ∧ sK κ9.1 b = 8) ∧ ∀ z11 : Int32, z11 = sI κ9.1 b 19 → jc (fun (K14 : Int32 → CS → Prop) => jc (fun (K21 : Unit → CS → Prop) => ((¬ z11.toInt = 0) → K21 () κ9) ∧ ((z11.toInt = 0) → ∃ b : Nat, z10 = some b ∧ (b ∈ sL κ9.1 ∧ sK κ9.1 b = 8) ∧ ∀ z24 : Option Nat, z24 = sP κ9.1 b 17 → jc (fun (K27 : Unit → CS → Prop) => ((z24 = none) → K27 () κ9) ∧ ((¬ z24 = none) → ∃ b : Nat, z10 = some b ∧ (b ∈ sL κ9.1 ∧ sK κ9.1 b = 8) ∧ ∀ z30 : Option Nat, z30 = sP κ9.1 b 18 → ((¬ z30 = a1) → K27 () κ9) ∧ ((z30 = a1) → K21 () κ9))) (fun (x25 : Unit) (κ26 : CS) => K14 0 κ26))) (fun (x19 : Unit) (κ20 : CS) => K14 1 κ20)) (fun (x12 : Int32) (κ13 : CS) => (0 ≤ x12.toInt ∧ x12.toInt ≤ 1) ∧ ∃ b : Nat, z10 = some b ∧ (b ∈ sL κ13.1 ∧ sK κ13.1 b = 8) ∧ ∀ κ17 : CS, κ17 = (h_uI κ13.1 b 19 x12, κ13.2) → ∀ z18 : Int32, z18 = x1 + 1 → K3 z18 κ17)) κ6)) κ2) 0 κ
theorem dX11_doAgain_0 : decode cX11_doAgain 0 = .ok (.iconst 0, 1) := by decide +kernel
theorem dX11_doAgain_1 : decode cX11_doAgain 1 = .ok (.istore_n 2, 1) := by decide +kernel
theorem dX11_doAgain_2 : decode cX11_doAgain 2 = .ok (.iload_n 2, 1) := by decide +kernel
theorem dX11_doAgain_3 : decode cX11_doAgain 3 = .ok (.aload_n 0, 1) := by decide +kernel
theorem dX11_doAgain_4 : decode cX11_doAgain 4 = .ok (.getfield 58, 3) := by decide +kernel
theorem dX11_doAgain_7 : decode cX11_doAgain 7 = .ok (.invokevirtual 161, 3) := by decide +kernel
theorem dX11_doAgain_10 : decode cX11_doAgain 10 = .ok (.if_icmp .ge 52, 3) := by decide +kernel
theorem dX11_doAgain_13 : decode cX11_doAgain 13 = .ok (.aload_n 0, 1) := by decide +kernel
theorem dX11_doAgain_14 : decode cX11_doAgain 14 = .ok (.getfield 58, 3) := by decide +kernel
theorem dX11_doAgain_17 : decode cX11_doAgain 17 = .ok (.iload_n 2, 1) := by decide +kernel
theorem dX11_doAgain_18 : decode cX11_doAgain 18 = .ok (.invokevirtual 164, 3) := by decide +kernel
theorem dX11_doAgain_21 : decode cX11_doAgain 21 = .ok (.checkcast 264, 3) := by decide +kernel
theorem dX11_doAgain_24 : decode cX11_doAgain 24 = .ok (.astore_n 3, 1) := by decide +kernel
theorem dX11_doAgain_25 : decode cX11_doAgain 25 = .ok (.aload_n 3, 1) := by decide +kernel
theorem dX11_doAgain_26 : decode cX11_doAgain 26 = .ok (.aload_n 3, 1) := by decide +kernel
theorem dX11_doAgain_27 : decode cX11_doAgain 27 = .ok (.getfield 540, 3) := by decide +kernel
theorem dX11_doAgain_30 : decode cX11_doAgain 30 = .ok (.ifCond .ne 18, 3) := by decide +kernel
theorem dX11_doAgain_33 : decode cX11_doAgain 33 = .ok (.aload_n 3, 1) := by decide +kernel
theorem dX11_doAgain_34 : decode cX11_doAgain 34 = .ok (.getfield 591, 3) := by decide +kernel
theorem dX11_doAgain_37 : decode cX11_doAgain 37 = .ok (.ifnull 15, 3) := by decide +kernel
theorem dX11_doAgain_40 : decode cX11_doAgain 40 = .ok (.aload_n 3, 1) := by decide +kernel
theorem dX11_doAgain_41 : decode cX11_doAgain 41 = .ok (.getfield 595, 3) := by decide +kernel
theorem dX11_doAgain_44 : decode cX11_doAgain 44 = .ok (.aload_n 1, 1) := by decide +kernel
theorem dX11_doAgain_45 : decode cX11_doAgain 45 = .ok (.if_acmp .ne 7, 3) := by decide +kernel
theorem dX11_doAgain_48 : decode cX11_doAgain 48 = .ok (.iconst 1, 1) := by decide +kernel
theorem dX11_doAgain_49 : decode cX11_doAgain 49 = .ok (.goto 4, 3) := by decide +kernel
theorem dX11_doAgain_52 : decode cX11_doAgain 52 = .ok (.iconst 0, 1) := by decide +kernel
theorem dX11_doAgain_53 : decode cX11_doAgain 53 = .ok (.putfield 540, 3) := by decide +kernel
theorem dX11_doAgain_56 : decode cX11_doAgain 56 = .ok (.iinc 2 1, 3) := by decide +kernel
theorem dX11_doAgain_59 : decode cX11_doAgain 59 = .ok (.goto (-57), 3) := by decide +kernel
theorem dX11_doAgain_62 : decode cX11_doAgain 62 = .ok (.return_, 1) := by decide +kernel
set_option maxRecDepth 100000 in
set_option maxHeartbeats 4000000 in
theorem c_X11_doAgain (l : Launch) (D : va_G) (t : Nat → ClassId) (G : GE) (κ : CS) (h : Nat) (a1 : Option Nat) (post : CS → Prop) (hw : F_X11_doAgain G h a1 post κ) (sz : Nat) : CMv l D t yX11_doAgain cX11_doAgain 4 3 78 G κ sz [.ref h, va_rf a1] post := by
  refine c_go (by decide) (by cases a1 <;> exact Nat.le_of_ble_eq_true rfl) ?_
  intro p e s m below meth c ls A hF hr hlk hin hAe hH hA hE hl
  unfold cB
  rw [hAe]
  clear hAe
  have hF : FX p m c cX11_doAgain 4 s _ RX11 D t := hF
  have hx := hF.1.1
  have hb := hF.1.2.1
  have hl : lv_has ls 4 [(0, .ref h), (1, va_rf a1)] := (by have h2 := hl; clear hw; revert h2; cases a1 <;> exact id)
  unfold F_X11_doAgain at hw
  refine lv_iconst (v := 0) hx hb dX11_doAgain_0 (by decide) ?_
  refine lv_istore_n (lv' := [(2, .int 0), (0, .ref h), (1, va_rf a1)]) hx hb dX11_doAgain_1 rfl hl (by decide) (by generalize a1 = y; cases y <;> rfl) (fun ls hl => ?_)
  have hl : lv_has ls 4 [(2, .int 0), (1, va_rf a1), (0, .ref h)] := lv_sub hl [0, 2, 1] rfl
  refine cw_loop (β := Int32) (fun x1 => [(2, .int x1), (1, va_rf a1), (0, .ref h)]) 0 hl hw hH (fun K3 x1 κ2 ls H locs cells slots hl hw hH ih4 => ?_)
  have hl : lv_has ls 4 [(2, .int x1), (1, va_rf a1), (0, .ref h)] := hl
  refine lv_iload_n hx hb dX11_doAgain_2 rfl (lv_at hl 0 rfl) ?_
  refine lv_aload_n hx hb dX11_doAgain_3 rfl (lv_at hl 2 rfl) ?_
  refine cw_getPr (a := h) hF hH fk_X11_58 dX11_doAgain_4 hw (fun z5 hw => ?_)
  refine cw_cViq (q := z5) (As := []) (rest := [.int x1]) hF hH hA hE mv_X11_161 ci_Jx4a65c (by decide) hw (fun b hw sz => c_Jx4a65c_size_8abf5 l D t G _ b  _ hw sz) dX11_doAgain_7 ⟨Nat.le_of_ble_eq_true rfl, Nat.le_of_ble_eq_true rfl⟩ rfl hl.1 (Nat.le_of_ble_eq_true rfl) rfl (fun z7 κ6 H locs cells slots hw hH => ?_)
  refine w_icmp_ge (tgt := 62) hF dX11_doAgain_10 rfl hw (fun hw => ?_) (fun hw => ?_)
  · exact cw_retv hF hH ⟨rfl, rfl⟩ hr hlk dX11_doAgain_62 hw
  · refine lv_aload_n hx hb dX11_doAgain_13 rfl (lv_at hl 2 rfl) ?_
    refine cw_getPr (a := h) hF hH fk_X11_58 dX11_doAgain_14 hw (fun z8 hw => ?_)
    refine lv_iload_n hx hb dX11_doAgain_17 rfl (lv_at hl 0 rfl) ?_
    refine cw_cVqq (q := z8) (As := [.int x1]) (rest := []) hF hH hA hE mv_X11_164 ci_Jx4a65c (by decide) hw (fun b hw sz => c_Jx4a65c_get_915e3 l D t G _ b x1 _ hw sz) dX11_doAgain_18 ⟨Nat.le_of_ble_eq_true rfl, Nat.le_of_ble_eq_true rfl⟩ rfl hl.1 (Nat.le_of_ble_eq_true rfl) rfl (fun z10 κ9 H locs cells slots hw hH => ?_)
    refine cw_cast (q := z10) hF hH ci_X0 (by decide) (wc_16 15 rfl) (by decide) dX11_doAgain_21 hw (fun hw => ?_)
    refine w_astoreq_n (lv' := [(3, va_rf z10), (2, .int x1), (1, va_rf a1), (0, .ref h)]) hF dX11_doAgain_24 rfl hl (by decide) rfl (fun ls hl => ?_)
    refine w_aloadq_n hF dX11_doAgain_25 rfl (lv_at hl 0 rfl) ?_
    refine w_aloadq_n hF dX11_doAgain_26 rfl (lv_at hl 0 rfl) ?_
    refine cw_getI (q := z10) hF hH fk_X11_540 dX11_doAgain_27 hw (fun z11 hw => ?_)
    obtain ⟨K14, hK15, hw⟩ := jc_open hw
    refine cw_join (K := K14) 53 (fun (x12 : Int32) => [(2, .int x1), (1, va_rf a1), (0, .ref h)]) (fun (x12 : Int32) => [.int x12, va_rf z10]) hl hH (fun x12 κ13 ls H locs cells slots hl hw hH => ?_) (fun jn16 => ?_)
    · have hw := hK15 x12 κ13 hw
      have hl : lv_has ls 4 [(2, .int x1), (1, va_rf a1), (0, .ref h)] := hl
      refine cw_putZ (q := z10) (v := x12) hF hH fk_X11_540 dX11_doAgain_53 rfl rfl hw (fun κ17 H locs cells slots hw hH => ?_)
      obtain ⟨z18, ez18⟩ : ∃ z : Int32, z = x1 + 1 := ⟨_, rfl⟩
      have hw := hw z18 ez18
      refine lv_iinc (lv' := [(2, .int z18), (1, va_rf a1), (0, .ref h)]) (k := 0) (v := z18) hx hb dX11_doAgain_56 hl rfl ez18.symm (by decide) (by generalize a1 = y; cases y <;> rfl) (fun ls hl => ?_)
      refine lv_goto (tgt := 2) hx hb dX11_doAgain_59 rfl ?_
      exact ih4 z18 κ17 ls _ _ _ _ hl hw hH
    · skip
      obtain ⟨K21, hK22, hw⟩ := jc_open hw
      refine cw_join (K := K21) 48 (fun (x19 : Unit) => [(2, .int x1), (1, va_rf a1), (0, .ref h)]) (fun (x19 : Unit) => [va_rf z10]) hl hH (fun x19 κ20 ls H locs cells slots hl hw hH => ?_) (fun jn23 => ?_)
      · have hw := hK22 x19 κ20 hw
        have hl : lv_has ls 4 [(2, .int x1), (1, va_rf a1), (0, .ref h)] := hl
        refine lv_iconst (v := 1) hx hb dX11_doAgain_48 (by decide) ?_
        refine lv_goto (tgt := 53) hx hb dX11_doAgain_49 rfl ?_
        exact jn16 1 κ20 ls _ _ _ _ hl hw hH
      · skip
        refine w_if_ne (tgt := 48) hF dX11_doAgain_30 rfl hw (fun hw => ?_) (fun hw => ?_)
        · have hl : lv_has ls 4 [(2, .int x1), (1, va_rf a1), (0, .ref h)] := lv_sub hl [1, 2, 3] rfl
          exact jn23 () κ9 ls _ _ _ _ hl hw hH
        · refine w_aloadq_n hF dX11_doAgain_33 rfl (lv_at hl 0 rfl) ?_
          refine cw_getP (q := z10) hF hH fk_X11_591 dX11_doAgain_34 hw (fun z24 hw => ?_)
          obtain ⟨K27, hK28, hw⟩ := jc_open hw
          refine cw_join (K := K27) 52 (fun (x25 : Unit) => [(2, .int x1), (1, va_rf a1), (0, .ref h)]) (fun (x25 : Unit) => [va_rf z10]) hl hH (fun x25 κ26 ls H locs cells slots hl hw hH => ?_) (fun jn29 => ?_)
          · have hw := hK28 x25 κ26 hw
            have hl : lv_has ls 4 [(2, .int x1), (1, va_rf a1), (0, .ref h)] := hl
            refine lv_iconst (v := 0) hx hb dX11_doAgain_52 (by decide) ?_
            exact jn16 0 κ26 ls _ _ _ _ hl hw hH
          · skip
            refine cw_ifnull (q := z24) (tgt := 52) hF dX11_doAgain_37 rfl hw (fun hw => ?_) (fun hw => ?_)
            · have hl : lv_has ls 4 [(2, .int x1), (1, va_rf a1), (0, .ref h)] := lv_sub hl [1, 2, 3] rfl
              exact jn29 () κ9 ls _ _ _ _ hl hw hH
            · refine w_aloadq_n hF dX11_doAgain_40 rfl (lv_at hl 0 rfl) ?_
              refine cw_getP (q := z10) hF hH fk_X11_595 dX11_doAgain_41 hw (fun z30 hw => ?_)
              refine w_aloadq_n hF dX11_doAgain_44 rfl (lv_at hl 2 rfl) ?_
              refine cw_acmp_ne (rx := z30) (ry := a1) (tgt := 52) hF dX11_doAgain_45 rfl hw (fun hw => ?_) (fun hw => ?_)
              · have hl : lv_has ls 4 [(2, .int x1), (1, va_rf a1), (0, .ref h)] := lv_sub hl [1, 2, 3] rfl
                exact jn29 () κ9 ls _ _ _ _ hl hw hH
              · have hl : lv_has ls 4 [(2, .int x1), (1, va_rf a1), (0, .ref h)] := lv_sub hl [1, 2, 3] rfl
                exact jn23 () κ9 ls _ _ _ _ hl hw hH
set_option maxRecDepth 100000 in
def F_X11_closeOpen (G : GE) (h : Nat) (a1 : Option Nat) (post : CS → Prop) (κ : CS) : Prop := (h ∈ sL κ.1 ∧ sK κ.1 h = 1) ∧ F_X11_cancelLocksThatWait G h a1 (fun (κ1 : CS) => (h ∈ sL κ1.1 ∧ sK κ1.1 h = 1) ∧ ∀ z3 : Option Nat, z3 = sP κ1.1 h 11 → ∃ b : Nat, z3 = some b ∧ (b ∈ sL κ1.1 ∧ sK κ1.1 b = 7) ∧ F_Jx4a65c_size_8abf5 G b  (fun (z5 : Int32) (κ4 : CS) => ∀ z6 : Int32, z6 = z5 - 1 → lc (fun (K9 : Int32 → CS → Prop) (x7 : Int32) (κ8 : CS) => ((x7.toInt < 0) → (h ∈ sL κ8.1 ∧ sK κ8.1 h = 1) ∧ ∀ z11 : Option Nat, z11 = sP κ8.1 h 10 → ∃ b : Nat, z11 = some b ∧ (b ∈ sL κ8.1 ∧ sK κ8.1 b = 7) ∧ F_Jx4a65c_size_8abf5 G b  (fun (z13 : Int32) (κ12 : CS) => ∀ z14 : Int32, z14 = z13 - 1 → lc (fun (K17 : Int32 → CS → Prop) (x15 : Int32) (κ16 : CS) => ((x15.toInt < 0) → ∃ b : Nat, a1 = some b ∧ (b ∈ sL κ16.1 ∧ sK κ16.1 b = 10) ∧ ∀ z19 : Option Nat, z19 = sP κ16.1 b 2 → ∃ b : Nat, z19 = some b ∧ (b ∈ sL κ16.1 ∧ sK κ16.1 b = 5) ∧ ∀ z20 : Int32, z20 = sI κ16.1 b 3 → jc (fun (K23 : Int32 → CS → Prop) => jc (fun (K56 : Unit → CS → Prop) => ((¬ z20.toInt = 0) → K56 () κ16) ∧ ((z20.toInt = 0) → ∃ b : Nat, a1 = some b ∧ (b ∈ sL κ16.1 ∧ sK κ16.1 b = 10) ∧ ∀ z59 : Int32, z59 = sI κ16.1 b 5 → ((z59.toInt = 0) → K23 0 κ16) ∧ ((¬ z59.toInt = 0) → K56 () κ16))) (fun (x54 : Unit) (κ55 : CS) => K23 1 κ55)) (fun (x21 : Int32) (κ22 : CS) => (0 ≤ x21.toInt ∧ x21.toInt ≤ 1) ∧ ∃ b : Nat, z19 = some b ∧ (b ∈ sL κ22.1 ∧ sK κ22.1 b = 5) ∧ ∀ κ26 : CS, κ26 = (h_uI κ22.1 b 3 x21, κ22.2) → ∃ b : Nat, z19 = some b ∧ (b ∈ sL κ26.1 ∧ sK κ26.1 b = 5) ∧ ∀ z27 : Int32, z27 = sI κ26.1 b 3 → jc (fun (K30 : Unit → CS → Prop) => ((z27.toInt = 0) → K30 () κ26) ∧ ((¬ z27.toInt = 0) → (h ∈ sL κ26.1 ∧ sK κ26.1 h = 1) ∧ F_X11_isOpened G h z19 (fun (z38 : Int32) (κ37 : CS) => ((¬ z38.toInt = 0) → K30 () κ37) ∧ ((z38.toInt = 0) → ∃ b : Nat, z19 = some b ∧ (b ∈ sL κ37.1 ∧ sK κ37.1 b = 5) ∧ ∀ z39 : Int32, z39 = sI κ37.1 b 2 → jc (fun (K42 : Unit → CS → Prop) => ((z39.toInt = 0) → K42 () κ37) ∧ ((¬ z39.toInt = 0) → (h ∈ sL κ37.1 ∧ sK κ37.1 h = 1) ∧ ∀ z49 : Option Nat, z49 = sP κ37.1 h 3 → ∃ b : Nat, z19 = some b ∧ (b ∈ sL κ37.1 ∧ sK κ37.1 b = 5) ∧ ∀ z50 : Int32, z50 = sI κ37.1 b 0 → ∃ b : Nat, z49 = some b ∧ (b ∈ sL κ37.1 ∧ sK κ37.1 b = 6) ∧ F_X9_holdsAny G b z50 (fun (z52 : Int32) (κ51 : CS) => ((z52.toInt = 0) → K42 () κ51) ∧ ((¬ z52.toInt = 0) → (0 ≤ (0 : Int32).toInt ∧ (0 : Int32).toInt ≤ 1) ∧ ∃ b : Nat, z19 = some b ∧ (b ∈ sL κ51.1 ∧ sK κ51.1 b = 5) ∧ ∀ κ53 : CS, κ53 = (h_uI κ51.1 b 3 0, κ51.2) → K30 () κ53)) κ37)) (fun (x40 : Unit) (κ41 : CS) => (h ∈ sL κ41.1 ∧ sK κ41.1 h = 1) ∧ F_X11_nextChange G h 5 z19 (fun (z46 : Option Nat) (κ45 : CS) => (h ∈ sL κ45.1 ∧ sK κ45.1 h = 1) ∧ F_X11_done G h z46 (fun (κ47 : CS) => K30 () κ47) κ45) κ41))) κ26)) (fun (x28 : Unit) (κ29 : CS) => (h ∈ sL κ29.1 ∧ sK κ29.1 h = 1) ∧ F_X11_comeToDisk G h  (fun (κ33 : CS) => (h ∈ sL κ33.1 ∧ sK κ33.1 h = 1) ∧ F_X11_doAgain G h z19 (fun (κ35 : CS) => post κ35) κ33) κ29))) ∧ ((0 ≤ x15.toInt) → (h ∈ sL κ16.1 ∧ sK κ16.1 h = 1) ∧ ∀ z60 : Option Nat, z60 = sP κ16.1 h 10 → ∃ b : Nat, z60 = some b ∧ (b ∈ sL κ16.1 ∧ sK κ16.1 b = 7) ∧ F_Jx4a65c_get_915e3 G b x15 (fun (z62 : Option Nat) (κ61 : CS) => jc (fun (K65 : Unit → CS → Prop) => ((¬ z62 = a1) → K65 () κ61) ∧ ((z62 = a1) → (h ∈ sL κ61.1 ∧ sK κ61.1 h = 1) ∧ ∀ z69 : Option Nat, z69 = sP κ61.1 h 10 → ∃ b : Nat, z69 = some b ∧ (b ∈ sL κ61.1 ∧ sK κ61.1 b = 7) ∧ F_Jx4a65c_remove_915e3 G b x15 (fun (z71 : Option Nat) (κ70 : CS) => K65 () κ70) κ61)) (fun (x63 : Unit) (κ64 : CS) => ∀ z68 : Int32, z68 = x15 + (-1) → K17 z68 κ64)) κ16)) z14 κ12) κ8) ∧ ((0 ≤ x7.toInt) → (h ∈ sL κ8.1 ∧ sK κ8.1 h = 1) ∧ ∀ z72 : Option Nat, z72 = sP κ8.1 h 11 → ∃ b : Nat, z72 = some b ∧ (b ∈ sL κ8.1 ∧ sK κ8.1 b = 7) ∧ F_Jx4a65c_get_915e3 G b x7 (fun (z74 : Option Nat) (κ73 : CS) => (z74 = none ∨ ∃ b : Nat, z74 = some b ∧ b ∈ sL κ73.1 ∧ sK κ73.1 b = 9) ∧ ∃ b : Nat, z74 = some b ∧ (b ∈ sL κ73.1 ∧ sK κ73.1 b = 9) ∧ ∀ z75 : Option Nat, z75 = sP κ73.1 b 0 → jc (fun (K78 : Unit → CS → Prop) => ((¬ z75 = a1) → K78 () κ73) ∧ ((z75 = a1) → (h ∈ sL κ73.1 ∧ sK κ73.1 h = 1) ∧ ∀ z82 : Option Nat, z82 = sP κ73.1 h 11 → ∃ b : Nat, z82 = some b ∧ (b ∈ sL κ73.1 ∧ sK κ73.1 b = 7) ∧ F_Jx4a65c_remove_915e3 G b x7 (fun (z84 : Option Nat) (κ83 : CS) => K78 () κ83) κ73)) (fun (x76 : Unit) (κ77 : CS) => ∀ z81 : Int32, z81 = x7 + (-1) → K9 z81 κ77)) κ8)) z6 κ4) κ1) κ
theorem dX11_closeOpen_0 : decode cX11_closeOpen 0 = .ok (.aload_n 0, 1) := by decide +kernel
theorem dX11_closeOpen_1 : decode cX11_closeOpen 1 = .ok (.aload_n 1, 1) := by decide +kernel
theorem dX11_closeOpen_2 : decode cX11_closeOpen 2 = .ok (.invokevirtual 558, 3) := by decide +kernel
theorem dX11_closeOpen_5 : decode cX11_closeOpen 5 = .ok (.aload_n 0, 1) := by decide +kernel
theorem dX11_closeOpen_6 : decode cX11_closeOpen 6 = .ok (.getfield 55, 3) := by decide +kernel
theorem dX11_closeOpen_9 : decode cX11_closeOpen 9 = .ok (.invokevirtual 161, 3) := by decide +kernel
theorem dX11_closeOpen_12 : decode cX11_closeOpen 12 = .ok (.iconst 1, 1) := by decide +kernel
theorem dX11_closeOpen_13 : decode cX11_closeOpen 13 = .ok (.isub, 1) := by decide +kernel
theorem dX11_closeOpen_14 : decode cX11_closeOpen 14 = .ok (.istore_n 2, 1) := by decide +kernel
theorem dX11_closeOpen_15 : decode cX11_closeOpen 15 = .ok (.iload_n 2, 1) := by decide +kernel
theorem dX11_closeOpen_16 : decode cX11_closeOpen 16 = .ok (.ifCond .lt 36, 3) := by decide +kernel
theorem dX11_closeOpen_19 : decode cX11_closeOpen 19 = .ok (.aload_n 0, 1) := by decide +kernel
theorem dX11_closeOpen_20 : decode cX11_closeOpen 20 = .ok (.getfield 55, 3) := by decide +kernel
theorem dX11_closeOpen_23 : decode cX11_closeOpen 23 = .ok (.iload_n 2, 1) := by decide +kernel
theorem dX11_closeOpen_24 : decode cX11_closeOpen 24 = .ok (.invokevirtual 164, 3) := by decide +kernel
theorem dX11_closeOpen_27 : decode cX11_closeOpen 27 = .ok (.checkcast 561, 3) := by decide +kernel
theorem dX11_closeOpen_30 : decode cX11_closeOpen 30 = .ok (.getfield 563, 3) := by decide +kernel
theorem dX11_closeOpen_33 : decode cX11_closeOpen 33 = .ok (.aload_n 1, 1) := by decide +kernel
theorem dX11_closeOpen_34 : decode cX11_closeOpen 34 = .ok (.if_acmp .ne 12, 3) := by decide +kernel
theorem dX11_closeOpen_37 : decode cX11_closeOpen 37 = .ok (.aload_n 0, 1) := by decide +kernel
theorem dX11_closeOpen_38 : decode cX11_closeOpen 38 = .ok (.getfield 55, 3) := by decide +kernel
theorem dX11_closeOpen_41 : decode cX11_closeOpen 41 = .ok (.iload_n 2, 1) := by decide +kernel
theorem dX11_closeOpen_42 : decode cX11_closeOpen 42 = .ok (.invokevirtual 496, 3) := by decide +kernel
theorem dX11_closeOpen_45 : decode cX11_closeOpen 45 = .ok (.pop, 1) := by decide +kernel
theorem dX11_closeOpen_46 : decode cX11_closeOpen 46 = .ok (.iinc 2 (-1), 3) := by decide +kernel
theorem dX11_closeOpen_49 : decode cX11_closeOpen 49 = .ok (.goto (-34), 3) := by decide +kernel
theorem dX11_closeOpen_52 : decode cX11_closeOpen 52 = .ok (.aload_n 0, 1) := by decide +kernel
theorem dX11_closeOpen_53 : decode cX11_closeOpen 53 = .ok (.getfield 52, 3) := by decide +kernel
theorem dX11_closeOpen_56 : decode cX11_closeOpen 56 = .ok (.invokevirtual 161, 3) := by decide +kernel
theorem dX11_closeOpen_59 : decode cX11_closeOpen 59 = .ok (.iconst 1, 1) := by decide +kernel
theorem dX11_closeOpen_60 : decode cX11_closeOpen 60 = .ok (.isub, 1) := by decide +kernel
theorem dX11_closeOpen_61 : decode cX11_closeOpen 61 = .ok (.istore_n 2, 1) := by decide +kernel
theorem dX11_closeOpen_62 : decode cX11_closeOpen 62 = .ok (.iload_n 2, 1) := by decide +kernel
theorem dX11_closeOpen_63 : decode cX11_closeOpen 63 = .ok (.ifCond .lt 30, 3) := by decide +kernel
theorem dX11_closeOpen_66 : decode cX11_closeOpen 66 = .ok (.aload_n 0, 1) := by decide +kernel
theorem dX11_closeOpen_67 : decode cX11_closeOpen 67 = .ok (.getfield 52, 3) := by decide +kernel
theorem dX11_closeOpen_70 : decode cX11_closeOpen 70 = .ok (.iload_n 2, 1) := by decide +kernel
theorem dX11_closeOpen_71 : decode cX11_closeOpen 71 = .ok (.invokevirtual 164, 3) := by decide +kernel
theorem dX11_closeOpen_74 : decode cX11_closeOpen 74 = .ok (.aload_n 1, 1) := by decide +kernel
theorem dX11_closeOpen_75 : decode cX11_closeOpen 75 = .ok (.if_acmp .ne 12, 3) := by decide +kernel
theorem dX11_closeOpen_78 : decode cX11_closeOpen 78 = .ok (.aload_n 0, 1) := by decide +kernel
theorem dX11_closeOpen_79 : decode cX11_closeOpen 79 = .ok (.getfield 52, 3) := by decide +kernel
theorem dX11_closeOpen_82 : decode cX11_closeOpen 82 = .ok (.iload_n 2, 1) := by decide +kernel
theorem dX11_closeOpen_83 : decode cX11_closeOpen 83 = .ok (.invokevirtual 496, 3) := by decide +kernel
theorem dX11_closeOpen_86 : decode cX11_closeOpen 86 = .ok (.pop, 1) := by decide +kernel
theorem dX11_closeOpen_87 : decode cX11_closeOpen 87 = .ok (.iinc 2 (-1), 3) := by decide +kernel
theorem dX11_closeOpen_90 : decode cX11_closeOpen 90 = .ok (.goto (-28), 3) := by decide +kernel
theorem dX11_closeOpen_93 : decode cX11_closeOpen 93 = .ok (.aload_n 1, 1) := by decide +kernel
theorem dX11_closeOpen_94 : decode cX11_closeOpen 94 = .ok (.getfield 564, 3) := by decide +kernel
theorem dX11_closeOpen_97 : decode cX11_closeOpen 97 = .ok (.astore_n 2, 1) := by decide +kernel
theorem dX11_closeOpen_98 : decode cX11_closeOpen 98 = .ok (.aload_n 2, 1) := by decide +kernel
theorem dX11_closeOpen_99 : decode cX11_closeOpen 99 = .ok (.aload_n 2, 1) := by decide +kernel
theorem dX11_closeOpen_100 : decode cX11_closeOpen 100 = .ok (.getfield 567, 3) := by decide +kernel
theorem dX11_closeOpen_103 : decode cX11_closeOpen 103 = .ok (.ifCond .ne 10, 3) := by decide +kernel
theorem dX11_closeOpen_106 : decode cX11_closeOpen 106 = .ok (.aload_n 1, 1) := by decide +kernel
theorem dX11_closeOpen_107 : decode cX11_closeOpen 107 = .ok (.getfield 570, 3) := by decide +kernel
theorem dX11_closeOpen_110 : decode cX11_closeOpen 110 = .ok (.ifCond .eq 7, 3) := by decide +kernel
theorem dX11_closeOpen_113 : decode cX11_closeOpen 113 = .ok (.iconst 1, 1) := by decide +kernel
theorem dX11_closeOpen_114 : decode cX11_closeOpen 114 = .ok (.goto 4, 3) := by decide +kernel
theorem dX11_closeOpen_117 : decode cX11_closeOpen 117 = .ok (.iconst 0, 1) := by decide +kernel
theorem dX11_closeOpen_118 : decode cX11_closeOpen 118 = .ok (.putfield 567, 3) := by decide +kernel
theorem dX11_closeOpen_121 : decode cX11_closeOpen 121 = .ok (.aload_n 2, 1) := by decide +kernel
theorem dX11_closeOpen_122 : decode cX11_closeOpen 122 = .ok (.getfield 567, 3) := by decide +kernel
theorem dX11_closeOpen_125 : decode cX11_closeOpen 125 = .ok (.ifCond .eq 50, 3) := by decide +kernel
theorem dX11_closeOpen_128 : decode cX11_closeOpen 128 = .ok (.aload_n 0, 1) := by decide +kernel
theorem dX11_closeOpen_129 : decode cX11_closeOpen 129 = .ok (.aload_n 2, 1) := by decide +kernel
theorem dX11_closeOpen_130 : decode cX11_closeOpen 130 = .ok (.invokevirtual 573, 3) := by decide +kernel
theorem dX11_closeOpen_133 : decode cX11_closeOpen 133 = .ok (.ifCond .ne 42, 3) := by decide +kernel
theorem dX11_closeOpen_136 : decode cX11_closeOpen 136 = .ok (.aload_n 2, 1) := by decide +kernel
theorem dX11_closeOpen_137 : decode cX11_closeOpen 137 = .ok (.getfield 577, 3) := by decide +kernel
theorem dX11_closeOpen_140 : decode cX11_closeOpen 140 = .ok (.ifCond .eq 25, 3) := by decide +kernel
theorem dX11_closeOpen_143 : decode cX11_closeOpen 143 = .ok (.aload_n 0, 1) := by decide +kernel
theorem dX11_closeOpen_144 : decode cX11_closeOpen 144 = .ok (.getfield 29, 3) := by decide +kernel
theorem dX11_closeOpen_147 : decode cX11_closeOpen 147 = .ok (.aload_n 2, 1) := by decide +kernel
theorem dX11_closeOpen_148 : decode cX11_closeOpen 148 = .ok (.getfield 248, 3) := by decide +kernel
theorem dX11_closeOpen_151 : decode cX11_closeOpen 151 = .ok (.invokevirtual 580, 3) := by decide +kernel
theorem dX11_closeOpen_154 : decode cX11_closeOpen 154 = .ok (.ifCond .eq 11, 3) := by decide +kernel
theorem dX11_closeOpen_157 : decode cX11_closeOpen 157 = .ok (.aload_n 2, 1) := by decide +kernel
theorem dX11_closeOpen_158 : decode cX11_closeOpen 158 = .ok (.iconst 0, 1) := by decide +kernel
theorem dX11_closeOpen_159 : decode cX11_closeOpen 159 = .ok (.putfield 567, 3) := by decide +kernel
theorem dX11_closeOpen_162 : decode cX11_closeOpen 162 = .ok (.goto 13, 3) := by decide +kernel
theorem dX11_closeOpen_165 : decode cX11_closeOpen 165 = .ok (.aload_n 0, 1) := by decide +kernel
theorem dX11_closeOpen_166 : decode cX11_closeOpen 166 = .ok (.aload_n 0, 1) := by decide +kernel
theorem dX11_closeOpen_167 : decode cX11_closeOpen 167 = .ok (.iconst 5, 1) := by decide +kernel
theorem dX11_closeOpen_168 : decode cX11_closeOpen 168 = .ok (.aload_n 2, 1) := by decide +kernel
theorem dX11_closeOpen_169 : decode cX11_closeOpen 169 = .ok (.invokevirtual 234, 3) := by decide +kernel
theorem dX11_closeOpen_172 : decode cX11_closeOpen 172 = .ok (.invokevirtual 584, 3) := by decide +kernel
theorem dX11_closeOpen_175 : decode cX11_closeOpen 175 = .ok (.aload_n 0, 1) := by decide +kernel
theorem dX11_closeOpen_176 : decode cX11_closeOpen 176 = .ok (.invokevirtual 185, 3) := by decide +kernel
theorem dX11_closeOpen_179 : decode cX11_closeOpen 179 = .ok (.aload_n 0, 1) := by decide +kernel
theorem dX11_closeOpen_180 : decode cX11_closeOpen 180 = .ok (.aload_n 2, 1) := by decide +kernel
theorem dX11_closeOpen_181 : decode cX11_closeOpen 181 = .ok (.invokevirtual 587, 3) := by decide +kernel
theorem dX11_closeOpen_184 : decode cX11_closeOpen 184 = .ok (.return_, 1) := by decide +kernel
set_option maxRecDepth 100000 in
set_option maxHeartbeats 4000000 in
theorem c_X11_closeOpen (l : Launch) (D : va_G) (t : Nat → ClassId) (G : GE) (κ : CS) (h : Nat) (a1 : Option Nat) (post : CS → Prop) (hw : F_X11_closeOpen G h a1 post κ) (sz : Nat) : CMv l D t yX11_closeOpen cX11_closeOpen 3 6 154 G κ sz [.ref h, va_rf a1] post := by
  refine c_go (by decide) (by cases a1 <;> exact Nat.le_of_ble_eq_true rfl) ?_
  intro p e s m below meth c ls A hF hr hlk hin hAe hH hA hE hl
  unfold cB
  rw [hAe]
  clear hAe
  have hF : FX p m c cX11_closeOpen 3 s _ RX11 D t := hF
  have hx := hF.1.1
  have hb := hF.1.2.1
  have hl : lv_has ls 3 [(0, .ref h), (1, va_rf a1)] := (by have h2 := hl; clear hw; revert h2; cases a1 <;> exact id)
  unfold F_X11_closeOpen at hw
  refine lv_aload_n hx hb dX11_closeOpen_0 rfl (lv_at hl 0 rfl) ?_
  refine w_aloadq_n hF dX11_closeOpen_1 rfl (lv_at hl 1 rfl) ?_
  refine cw_cVv (b := h) (As := [va_rf a1]) (rest := []) hF hH hA hE mv_X11_558 ci_X11 (by decide) (fun sz => c_X11_cancelLocksThatWait l D t G _ h a1 _ hw.2 sz) dX11_closeOpen_2 hw.1 ⟨Nat.le_of_ble_eq_true rfl, Nat.le_of_ble_eq_true rfl⟩ rfl hl.1 (Nat.le_of_ble_eq_true rfl) rfl (fun κ1 H locs cells slots hw hH => ?_)
  refine lv_aload_n hx hb dX11_closeOpen_5 rfl (lv_at hl 0 rfl) ?_
  refine cw_getPr (a := h) hF hH fk_X11_55 dX11_closeOpen_6 hw (fun z3 hw => ?_)
  refine cw_cViq (q := z3) (As := []) (rest := []) hF hH hA hE mv_X11_161 ci_Jx4a65c (by decide) hw (fun b hw sz => c_Jx4a65c_size_8abf5 l D t G _ b  _ hw sz) dX11_closeOpen_9 ⟨Nat.le_of_ble_eq_true rfl, Nat.le_of_ble_eq_true rfl⟩ rfl hl.1 (Nat.le_of_ble_eq_true rfl) rfl (fun z5 κ4 H locs cells slots hw hH => ?_)
  refine lv_iconst (v := 1) hx hb dX11_closeOpen_12 (by decide) ?_
  refine lv_isub hx hb dX11_closeOpen_13 ?_
  refine w_nmi hw (fun z6 hw => ?_)
  refine lv_istore_n (lv' := [(2, .int z6), (0, .ref h), (1, va_rf a1)]) hx hb dX11_closeOpen_14 rfl hl (by decide) (by generalize a1 = y; cases y <;> rfl) (fun ls hl => ?_)
  have hl : lv_has ls 3 [(2, .int z6), (1, va_rf a1), (0, .ref h)] := lv_sub hl [0, 2, 1] rfl
  refine cw_loop (β := Int32) (fun x7 => [(2, .int x7), (1, va_rf a1), (0, .ref h)]) z6 hl hw hH (fun K9 x7 κ8 ls H locs cells slots hl hw hH ih10 => ?_)
  have hl : lv_has ls 3 [(2, .int x7), (1, va_rf a1), (0, .ref h)] := hl
  refine lv_iload_n hx hb dX11_closeOpen_15 rfl (lv_at hl 0 rfl) ?_
  refine w_if_lt (tgt := 52) hF dX11_closeOpen_16 rfl hw (fun hw => ?_) (fun hw => ?_)
  · refine lv_aload_n hx hb dX11_closeOpen_52 rfl (lv_at hl 2 rfl) ?_
    refine cw_getPr (a := h) hF hH fk_X11_52 dX11_closeOpen_53 hw (fun z11 hw => ?_)
    refine cw_cViq (q := z11) (As := []) (rest := []) hF hH hA hE mv_X11_161 ci_Jx4a65c (by decide) hw (fun b hw sz => c_Jx4a65c_size_8abf5 l D t G _ b  _ hw sz) dX11_closeOpen_56 ⟨Nat.le_of_ble_eq_true rfl, Nat.le_of_ble_eq_true rfl⟩ rfl hl.1 (Nat.le_of_ble_eq_true rfl) rfl (fun z13 κ12 H locs cells slots hw hH => ?_)
    refine lv_iconst (v := 1) hx hb dX11_closeOpen_59 (by decide) ?_
    refine lv_isub hx hb dX11_closeOpen_60 ?_
    refine w_nmi hw (fun z14 hw => ?_)
    refine lv_istore_n (lv' := [(2, .int z14), (1, va_rf a1), (0, .ref h)]) hx hb dX11_closeOpen_61 rfl hl (by decide) (by generalize a1 = y; cases y <;> rfl) (fun ls hl => ?_)
    refine cw_loop (β := Int32) (fun x15 => [(2, .int x15), (1, va_rf a1), (0, .ref h)]) z14 hl hw hH (fun K17 x15 κ16 ls H locs cells slots hl hw hH ih18 => ?_)
    have hl : lv_has ls 3 [(2, .int x15), (1, va_rf a1), (0, .ref h)] := hl
    refine lv_iload_n hx hb dX11_closeOpen_62 rfl (lv_at hl 0 rfl) ?_
    refine w_if_lt (tgt := 93) hF dX11_closeOpen_63 rfl hw (fun hw => ?_) (fun hw => ?_)
    · refine w_aloadq_n hF dX11_closeOpen_93 rfl (lv_at hl 1 rfl) ?_
      refine cw_getP (q := a1) hF hH fk_X11_564 dX11_closeOpen_94 hw (fun z19 hw => ?_)
      refine w_astoreq_n (lv' := [(2, va_rf z19), (1, va_rf a1), (0, .ref h)]) hF dX11_closeOpen_97 rfl hl (by decide) (by generalize a1 = y; cases y <;> rfl) (fun ls hl => ?_)
      refine w_aloadq_n hF dX11_closeOpen_98 rfl (lv_at hl 0 rfl) ?_
      refine w_aloadq_n hF dX11_closeOpen_99 rfl (lv_at hl 0 rfl) ?_
      refine cw_getI (q := z19) hF hH fk_X11_567 dX11_closeOpen_100 hw (fun z20 hw => ?_)
      obtain ⟨K23, hK24, hw⟩ := jc_open hw
      refine cw_join (K := K23) 118 (fun (x21 : Int32) => [(2, va_rf z19), (0, .ref h)]) (fun (x21 : Int32) => [.int x21, va_rf z19]) hl hH (fun x21 κ22 ls H locs cells slots hl hw hH => ?_) (fun jn25 => ?_)
      · have hw := hK24 x21 κ22 hw
        have hl : lv_has ls 3 [(2, va_rf z19), (0, .ref h)] := hl
        refine cw_putZ (q := z19) (v := x21) hF hH fk_X11_567 dX11_closeOpen_118 rfl rfl hw (fun κ26 H locs cells slots hw hH => ?_)
        refine w_aloadq_n hF dX11_closeOpen_121 rfl (lv_at hl 0 rfl) ?_
        refine cw_getI (q := z19) hF hH fk_X11_567 dX11_closeOpen_122 hw (fun z27 hw => ?_)
        obtain ⟨K30, hK31, hw⟩ := jc_open hw
        refine cw_join (K := K30) 175 (fun (x28 : Unit) => [(2, va_rf z19), (0, .ref h)]) (fun (x28 : Unit) => []) hl hH (fun x28 κ29 ls H locs cells slots hl hw hH => ?_) (fun jn32 => ?_)
        · have hw := hK31 x28 κ29 hw
          have hl : lv_has ls 3 [(2, va_rf z19), (0, .ref h)] := hl
          refine lv_aload_n hx hb dX11_closeOpen_175 rfl (lv_at hl 1 rfl) ?_
          refine cw_cVv (b := h) (As := []) (rest := []) hF hH hA hE mv_X11_185 ci_X11 (by decide) (fun sz => c_X11_comeToDisk l D t G _ h  _ hw.2 sz) dX11_closeOpen_176 hw.1 ⟨Nat.le_of_ble_eq_true rfl, Nat.le_of_ble_eq_true rfl⟩ rfl hl.1 (Nat.le_of_ble_eq_true rfl) rfl (fun κ33 H locs cells slots hw hH => ?_)
          refine lv_aload_n hx hb dX11_closeOpen_179 rfl (lv_at hl 1 rfl) ?_
          refine w_aloadq_n hF dX11_closeOpen_180 rfl (lv_at hl 0 rfl) ?_
          refine cw_cVv (b := h) (As := [va_rf z19]) (rest := []) hF hH hA hE mv_X11_587 ci_X11 (by decide) (fun sz => c_X11_doAgain l D t G _ h z19 _ hw.2 sz) dX11_closeOpen_181 hw.1 ⟨Nat.le_of_ble_eq_true rfl, Nat.le_of_ble_eq_true rfl⟩ rfl hl.1 (Nat.le_of_ble_eq_true rfl) rfl (fun κ35 H locs cells slots hw hH => ?_)
          exact cw_retv hF hH ⟨rfl, rfl⟩ hr hlk dX11_closeOpen_184 hw
        · skip
          refine w_if_eq (tgt := 175) hF dX11_closeOpen_125 rfl hw (fun hw => ?_) (fun hw => ?_)
          · exact jn32 () κ26 ls _ _ _ _ hl hw hH
          · refine lv_aload_n hx hb dX11_closeOpen_128 rfl (lv_at hl 1 rfl) ?_
            refine w_aloadq_n hF dX11_closeOpen_129 rfl (lv_at hl 0 rfl) ?_
            refine cw_cVi (b := h) (As := [va_rf z19]) (rest := []) hF hH hA hE mv_X11_573 ci_X11 (by decide) (fun sz => c_X11_isOpened l D t G _ h z19 _ hw.2 sz) dX11_closeOpen_130 hw.1 ⟨Nat.le_of_ble_eq_true rfl, Nat.le_of_ble_eq_true rfl⟩ rfl hl.1 (Nat.le_of_ble_eq_true rfl) rfl (fun z38 κ37 H locs cells slots hw hH => ?_)
            refine w_if_ne (tgt := 175) hF dX11_closeOpen_133 rfl hw (fun hw => ?_) (fun hw => ?_)
            · exact jn32 () κ37 ls _ _ _ _ hl hw hH
            · refine w_aloadq_n hF dX11_closeOpen_136 rfl (lv_at hl 0 rfl) ?_
              refine cw_getI (q := z19) hF hH fk_X11_577 dX11_closeOpen_137 hw (fun z39 hw => ?_)
              obtain ⟨K42, hK43, hw⟩ := jc_open hw
              refine cw_join (K := K42) 165 (fun (x40 : Unit) => [(2, va_rf z19), (0, .ref h)]) (fun (x40 : Unit) => []) hl hH (fun x40 κ41 ls H locs cells slots hl hw hH => ?_) (fun jn44 => ?_)
              · have hw := hK43 x40 κ41 hw
                have hl : lv_has ls 3 [(2, va_rf z19), (0, .ref h)] := hl
                refine lv_aload_n hx hb dX11_closeOpen_165 rfl (lv_at hl 1 rfl) ?_
                refine lv_aload_n hx hb dX11_closeOpen_166 rfl (lv_at hl 1 rfl) ?_
                refine lv_iconst (v := 5) hx hb dX11_closeOpen_167 (by decide) ?_
                refine w_aloadq_n hF dX11_closeOpen_168 rfl (lv_at hl 0 rfl) ?_
                refine cw_cVq (b := h) (As := [.int 5, va_rf z19]) (rest := [.ref h]) hF hH hA hE mv_X11_234 ci_X11 (by decide) (fun sz => c_X11_nextChange l D t G _ h 5 z19 _ hw.2 sz) dX11_closeOpen_169 hw.1 ⟨Nat.le_of_ble_eq_true rfl, Nat.le_of_ble_eq_true rfl⟩ rfl hl.1 (Nat.le_of_ble_eq_true rfl) rfl (fun z46 κ45 H locs cells slots hw hH => ?_)
                refine cw_cVv (b := h) (As := [va_rf z46]) (rest := []) hF hH hA hE mv_X11_584 ci_X11 (by decide) (fun sz => c_X11_done l D t G _ h z46 _ hw.2 sz) dX11_closeOpen_172 hw.1 ⟨Nat.le_of_ble_eq_true rfl, Nat.le_of_ble_eq_true rfl⟩ rfl hl.1 (Nat.le_of_ble_eq_true rfl) rfl (fun κ47 H locs cells slots hw hH => ?_)
                exact jn32 () κ47 ls _ _ _ _ hl hw hH
              · skip
                refine w_if_eq (tgt := 165) hF dX11_closeOpen_140 rfl hw (fun hw => ?_) (fun hw => ?_)
                · exact jn44 () κ37 ls _ _ _ _ hl hw hH
                · refine lv_aload_n hx hb dX11_closeOpen_143 rfl (lv_at hl 1 rfl) ?_
                  refine cw_getPr (a := h) hF hH fk_X11_29 dX11_closeOpen_144 hw (fun z49 hw => ?_)
                  refine w_aloadq_n hF dX11_closeOpen_147 rfl (lv_at hl 0 rfl) ?_
                  refine cw_getI (q := z19) hF hH fk_X11_248 dX11_closeOpen_148 hw (fun z50 hw => ?_)
                  refine cw_cViq (q := z49) (As := [.int z50]) (rest := []) hF hH hA hE mv_X11_580 ci_X9 (by decide) hw (fun b hw sz => c_X9_holdsAny l D t G _ b z50 _ hw sz) dX11_closeOpen_151 ⟨Nat.le_of_ble_eq_true rfl, Nat.le_of_ble_eq_true rfl⟩ rfl hl.1 (Nat.le_of_ble_eq_true rfl) rfl (fun z52 κ51 H locs cells slots hw hH => ?_)
                  refine w_if_eq (tgt := 165) hF dX11_closeOpen_154 rfl hw (fun hw => ?_) (fun hw => ?_)
                  · exact jn44 () κ51 ls _ _ _ _ hl hw hH
                  · refine w_aloadq_n hF dX11_closeOpen_157 rfl (lv_at hl 0 rfl) ?_
                    refine lv_iconst (v := 0) hx hb dX11_closeOpen_158 (by decide) ?_
                    refine cw_putZ (q := z19) (v := 0) hF hH fk_X11_567 dX11_closeOpen_159 rfl rfl hw (fun κ53 H locs cells slots hw hH => ?_)
                    refine lv_goto (tgt := 175) hx hb dX11_closeOpen_162 rfl ?_
                    exact jn32 () κ53 ls _ _ _ _ hl hw hH
      · skip
        obtain ⟨K56, hK57, hw⟩ := jc_open hw
        refine cw_join (K := K56) 113 (fun (x54 : Unit) => [(2, va_rf z19), (0, .ref h)]) (fun (x54 : Unit) => [va_rf z19]) hl hH (fun x54 κ55 ls H locs cells slots hl hw hH => ?_) (fun jn58 => ?_)
        · have hw := hK57 x54 κ55 hw
          have hl : lv_has ls 3 [(2, va_rf z19), (0, .ref h)] := hl
          refine lv_iconst (v := 1) hx hb dX11_closeOpen_113 (by decide) ?_
          refine lv_goto (tgt := 118) hx hb dX11_closeOpen_114 rfl ?_
          exact jn25 1 κ55 ls _ _ _ _ hl hw hH
        · skip
          refine w_if_ne (tgt := 113) hF dX11_closeOpen_103 rfl hw (fun hw => ?_) (fun hw => ?_)
          · have hl : lv_has ls 3 [(2, va_rf z19), (0, .ref h)] := lv_sub hl [0, 2] rfl
            exact jn58 () κ16 ls _ _ _ _ hl hw hH
          · refine w_aloadq_n hF dX11_closeOpen_106 rfl (lv_at hl 1 rfl) ?_
            refine cw_getI (q := a1) hF hH fk_X11_570 dX11_closeOpen_107 hw (fun z59 hw => ?_)
            refine w_if_eq (tgt := 117) hF dX11_closeOpen_110 rfl hw (fun hw => ?_) (fun hw => ?_)
            · refine lv_iconst (v := 0) hx hb dX11_closeOpen_117 (by decide) ?_
              have hl : lv_has ls 3 [(2, va_rf z19), (0, .ref h)] := lv_sub hl [0, 2] rfl
              exact jn25 0 κ16 ls _ _ _ _ hl hw hH
            · have hl : lv_has ls 3 [(2, va_rf z19), (0, .ref h)] := lv_sub hl [0, 2] rfl
              exact jn58 () κ16 ls _ _ _ _ hl hw hH
    · refine lv_aload_n hx hb dX11_closeOpen_66 rfl (lv_at hl 2 rfl) ?_
      refine cw_getPr (a := h) hF hH fk_X11_52 dX11_closeOpen_67 hw (fun z60 hw => ?_)
      refine lv_iload_n hx hb dX11_closeOpen_70 rfl (lv_at hl 0 rfl) ?_
      refine cw_cVqq (q := z60) (As := [.int x15]) (rest := []) hF hH hA hE mv_X11_164 ci_Jx4a65c (by decide) hw (fun b hw sz => c_Jx4a65c_get_915e3 l D t G _ b x15 _ hw sz) dX11_closeOpen_71 ⟨Nat.le_of_ble_eq_true rfl, Nat.le_of_ble_eq_true rfl⟩ rfl hl.1 (Nat.le_of_ble_eq_true rfl) rfl (fun z62 κ61 H locs cells slots hw hH => ?_)
      refine w_aloadq_n hF dX11_closeOpen_74 rfl (lv_at hl 1 rfl) ?_
      obtain ⟨K65, hK66, hw⟩ := jc_open hw
      refine cw_join (K := K65) 87 (fun (x63 : Unit) => [(2, .int x15), (1, va_rf a1), (0, .ref h)]) (fun (x63 : Unit) => []) hl hH (fun x63 κ64 ls H locs cells slots hl hw hH => ?_) (fun jn67 => ?_)
      · have hw := hK66 x63 κ64 hw
        have hl : lv_has ls 3 [(2, .int x15), (1, va_rf a1), (0, .ref h)] := hl
        obtain ⟨z68, ez68⟩ : ∃ z : Int32, z = x15 + (-1) := ⟨_, rfl⟩
        have hw := hw z68 ez68
        refine lv_iinc (lv' := [(2, .int z68), (1, va_rf a1), (0, .ref h)]) (k := 0) (v := z68) hx hb dX11_closeOpen_87 hl rfl ez68.symm (by decide) (by generalize a1 = y; cases y <;> rfl) (fun ls hl => ?_)
        refine lv_goto (tgt := 62) hx hb dX11_closeOpen_90 rfl ?_
        exact ih18 z68 κ64 ls _ _ _ _ hl hw hH
      · skip
        refine cw_acmp_ne (rx := z62) (ry := a1) (tgt := 87) hF dX11_closeOpen_75 rfl hw (fun hw => ?_) (fun hw => ?_)
        · exact jn67 () κ61 ls _ _ _ _ hl hw hH
        · refine lv_aload_n hx hb dX11_closeOpen_78 rfl (lv_at hl 2 rfl) ?_
          refine cw_getPr (a := h) hF hH fk_X11_52 dX11_closeOpen_79 hw (fun z69 hw => ?_)
          refine lv_iload_n hx hb dX11_closeOpen_82 rfl (lv_at hl 0 rfl) ?_
          refine cw_cVqq (q := z69) (As := [.int x15]) (rest := []) hF hH hA hE mv_X11_496 ci_Jx4a65c (by decide) hw (fun b hw sz => c_Jx4a65c_remove_915e3 l D t G _ b x15 _ hw sz) dX11_closeOpen_83 ⟨Nat.le_of_ble_eq_true rfl, Nat.le_of_ble_eq_true rfl⟩ rfl hl.1 (Nat.le_of_ble_eq_true rfl) rfl (fun z71 κ70 H locs cells slots hw hH => ?_)
          refine lv_pop hx hb dX11_closeOpen_86 (cat_rf _) ?_
          exact jn67 () κ70 ls _ _ _ _ hl hw hH
  · refine lv_aload_n hx hb dX11_closeOpen_19 rfl (lv_at hl 2 rfl) ?_
    refine cw_getPr (a := h) hF hH fk_X11_55 dX11_closeOpen_20 hw (fun z72 hw => ?_)
    refine lv_iload_n hx hb dX11_closeOpen_23 rfl (lv_at hl 0 rfl) ?_
    refine cw_cVqq (q := z72) (As := [.int x7]) (rest := []) hF hH hA hE mv_X11_164 ci_Jx4a65c (by decide) hw (fun b hw sz => c_Jx4a65c_get_915e3 l D t G _ b x7 _ hw sz) dX11_closeOpen_24 ⟨Nat.le_of_ble_eq_true rfl, Nat.le_of_ble_eq_true rfl⟩ rfl hl.1 (Nat.le_of_ble_eq_true rfl) rfl (fun z74 κ73 H locs cells slots hw hH => ?_)
    refine cw_cast (q := z74) hF hH ci_X3 (by decide) (wc_17 27 rfl) (by decide) dX11_closeOpen_27 hw (fun hw => ?_)
    refine cw_getP (q := z74) hF hH fk_X11_563 dX11_closeOpen_30 hw (fun z75 hw => ?_)
    refine w_aloadq_n hF dX11_closeOpen_33 rfl (lv_at hl 1 rfl) ?_
    obtain ⟨K78, hK79, hw⟩ := jc_open hw
    refine cw_join (K := K78) 46 (fun (x76 : Unit) => [(2, .int x7), (1, va_rf a1), (0, .ref h)]) (fun (x76 : Unit) => []) hl hH (fun x76 κ77 ls H locs cells slots hl hw hH => ?_) (fun jn80 => ?_)
    · have hw := hK79 x76 κ77 hw
      have hl : lv_has ls 3 [(2, .int x7), (1, va_rf a1), (0, .ref h)] := hl
      obtain ⟨z81, ez81⟩ : ∃ z : Int32, z = x7 + (-1) := ⟨_, rfl⟩
      have hw := hw z81 ez81
      refine lv_iinc (lv' := [(2, .int z81), (1, va_rf a1), (0, .ref h)]) (k := 0) (v := z81) hx hb dX11_closeOpen_46 hl rfl ez81.symm (by decide) (by generalize a1 = y; cases y <;> rfl) (fun ls hl => ?_)
      refine lv_goto (tgt := 15) hx hb dX11_closeOpen_49 rfl ?_
      exact ih10 z81 κ77 ls _ _ _ _ hl hw hH
    · skip
      refine cw_acmp_ne (rx := z75) (ry := a1) (tgt := 46) hF dX11_closeOpen_34 rfl hw (fun hw => ?_) (fun hw => ?_)
      · exact jn80 () κ73 ls _ _ _ _ hl hw hH
      · refine lv_aload_n hx hb dX11_closeOpen_37 rfl (lv_at hl 2 rfl) ?_
        refine cw_getPr (a := h) hF hH fk_X11_55 dX11_closeOpen_38 hw (fun z82 hw => ?_)
        refine lv_iload_n hx hb dX11_closeOpen_41 rfl (lv_at hl 0 rfl) ?_
        refine cw_cVqq (q := z82) (As := [.int x7]) (rest := []) hF hH hA hE mv_X11_496 ci_Jx4a65c (by decide) hw (fun b hw sz => c_Jx4a65c_remove_915e3 l D t G _ b x7 _ hw sz) dX11_closeOpen_42 ⟨Nat.le_of_ble_eq_true rfl, Nat.le_of_ble_eq_true rfl⟩ rfl hl.1 (Nat.le_of_ble_eq_true rfl) rfl (fun z84 κ83 H locs cells slots hw hH => ?_)
        refine lv_pop hx hb dX11_closeOpen_45 (cat_rf _) ?_
        exact jn80 () κ83 ls _ _ _ _ hl hw hH
set_option maxRecDepth 100000 in
def F_X11_settle (G : GE) (h : Nat) (post : CS → Prop) (κ : CS) : Prop := lc (fun (K3 : Int32 → CS → Prop) (x1 : Int32) (κ2 : CS) => (((1000000 : Int32).toInt ≤ x1.toInt) → post κ2) ∧ ((x1.toInt < (1000000 : Int32).toInt) → (h ∈ sL κ2.1 ∧ sK κ2.1 h = 1) ∧ F_X11_wakeLocks G h  (fun (κ5 : CS) => (h ∈ sL κ5.1 ∧ sK κ5.1 h = 1) ∧ F_X11_nextAgain G h  (fun (z8 : Option Nat) (κ7 : CS) => jc (fun (K11 : (Option Nat) → CS → Prop) => ((¬ z8 = none) → K11 (none : Option Nat) κ7) ∧ ((z8 = none) → (h ∈ sL κ7.1 ∧ sK κ7.1 h = 1) ∧ F_X11_nextClosing G h  (fun (z35 : Option Nat) (κ34 : CS) => K11 z35 κ34) κ7)) (fun (x9 : Option Nat) (κ10 : CS) => jc (fun (K16 : Unit → CS → Prop) => ((z8 = none) → ((x9 = none) → post κ10) ∧ ((¬ x9 = none) → (h ∈ sL κ10.1 ∧ sK κ10.1 h = 1) ∧ F_X11_closeOpen G h x9 (fun (κ20 : CS) => K16 () κ20) κ10)) ∧ ((¬ z8 = none) → (h ∈ sL κ10.1 ∧ sK κ10.1 h = 1) ∧ ∀ z22 : Option Nat, z22 = sP κ10.1 h 16 → (h ∈ sL κ10.1 ∧ sK κ10.1 h = 1) ∧ F_X11_tryOpen G h z8 z22 (fun (z24 : Int32) (κ23 : CS) => jc (fun (K27 : Unit → CS → Prop) => ((z24.toInt = (259 : Int32).toInt) → K27 () κ23) ∧ ((¬ z24.toInt = (259 : Int32).toInt) → (h ∈ sL κ23.1 ∧ sK κ23.1 h = 1) ∧ F_X11_stopWaiting G h z8 (fun (κ30 : CS) => (h ∈ sL κ30.1 ∧ sK κ30.1 h = 1) ∧ F_X11_sendLater G h z8 z24 (fun (κ32 : CS) => K27 () κ32) κ30) κ23)) (fun (x25 : Unit) (κ26 : CS) => K16 () κ26)) κ10)) (fun (x14 : Unit) (κ15 : CS) => ∀ z19 : Int32, z19 = x1 + 1 → K3 z19 κ15))) κ5) κ2)) 0 κ
theorem dX11_settle_0 : decode cX11_settle 0 = .ok (.iconst 0, 1) := by decide +kernel
theorem dX11_settle_1 : decode cX11_settle 1 = .ok (.istore_n 1, 1) := by decide +kernel
theorem dX11_settle_2 : decode cX11_settle 2 = .ok (.iload_n 1, 1) := by decide +kernel
theorem dX11_settle_3 : decode cX11_settle 3 = .ok (.ldc 156, 2) := by decide +kernel
theorem dX11_settle_5 : decode cX11_settle 5 = .ok (.if_icmp .ge 82, 3) := by decide +kernel
theorem dX11_settle_8 : decode cX11_settle 8 = .ok (.aload_n 0, 1) := by decide +kernel
theorem dX11_settle_9 : decode cX11_settle 9 = .ok (.invokevirtual 510, 3) := by decide +kernel
theorem dX11_settle_12 : decode cX11_settle 12 = .ok (.aload_n 0, 1) := by decide +kernel
theorem dX11_settle_13 : decode cX11_settle 13 = .ok (.invokevirtual 513, 3) := by decide +kernel
theorem dX11_settle_16 : decode cX11_settle 16 = .ok (.astore_n 2, 1) := by decide +kernel
theorem dX11_settle_17 : decode cX11_settle 17 = .ok (.aload_n 2, 1) := by decide +kernel
theorem dX11_settle_18 : decode cX11_settle 18 = .ok (.ifnonnull 10, 3) := by decide +kernel
theorem dX11_settle_21 : decode cX11_settle 21 = .ok (.aload_n 0, 1) := by decide +kernel
theorem dX11_settle_22 : decode cX11_settle 22 = .ok (.invokevirtual 517, 3) := by decide +kernel
theorem dX11_settle_25 : decode cX11_settle 25 = .ok (.goto 4, 3) := by decide +kernel
theorem dX11_settle_28 : decode cX11_settle 28 = .ok (.aconst_null, 1) := by decide +kernel
theorem dX11_settle_29 : decode cX11_settle 29 = .ok (.astore_n 3, 1) := by decide +kernel
theorem dX11_settle_30 : decode cX11_settle 30 = .ok (.aload_n 2, 1) := by decide +kernel
theorem dX11_settle_31 : decode cX11_settle 31 = .ok (.ifnull 37, 3) := by decide +kernel
theorem dX11_settle_34 : decode cX11_settle 34 = .ok (.aload_n 0, 1) := by decide +kernel
theorem dX11_settle_35 : decode cX11_settle 35 = .ok (.aload_n 2, 1) := by decide +kernel
theorem dX11_settle_36 : decode cX11_settle 36 = .ok (.aload_n 0, 1) := by decide +kernel
theorem dX11_settle_37 : decode cX11_settle 37 = .ok (.getfield 71, 3) := by decide +kernel
theorem dX11_settle_40 : decode cX11_settle 40 = .ok (.invokevirtual 521, 3) := by decide +kernel
theorem dX11_settle_43 : decode cX11_settle 43 = .ok (.istore 4, 2) := by decide +kernel
theorem dX11_settle_45 : decode cX11_settle 45 = .ok (.iload 4, 2) := by decide +kernel
theorem dX11_settle_47 : decode cX11_settle 47 = .ok (.sipush 259, 3) := by decide +kernel
theorem dX11_settle_50 : decode cX11_settle 50 = .ok (.if_icmp .eq 15, 3) := by decide +kernel
theorem dX11_settle_53 : decode cX11_settle 53 = .ok (.aload_n 0, 1) := by decide +kernel
theorem dX11_settle_54 : decode cX11_settle 54 = .ok (.aload_n 2, 1) := by decide +kernel
theorem dX11_settle_55 : decode cX11_settle 55 = .ok (.invokevirtual 525, 3) := by decide +kernel
theorem dX11_settle_58 : decode cX11_settle 58 = .ok (.aload_n 0, 1) := by decide +kernel
theorem dX11_settle_59 : decode cX11_settle 59 = .ok (.aload_n 2, 1) := by decide +kernel
theorem dX11_settle_60 : decode cX11_settle 60 = .ok (.iload 4, 2) := by decide +kernel
theorem dX11_settle_62 : decode cX11_settle 62 = .ok (.invokevirtual 500, 3) := by decide +kernel
theorem dX11_settle_65 : decode cX11_settle 65 = .ok (.goto 16, 3) := by decide +kernel
theorem dX11_settle_68 : decode cX11_settle 68 = .ok (.aload_n 3, 1) := by decide +kernel
theorem dX11_settle_69 : decode cX11_settle 69 = .ok (.ifnull 11, 3) := by decide +kernel
theorem dX11_settle_72 : decode cX11_settle 72 = .ok (.aload_n 0, 1) := by decide +kernel
theorem dX11_settle_73 : decode cX11_settle 73 = .ok (.aload_n 3, 1) := by decide +kernel
theorem dX11_settle_74 : decode cX11_settle 74 = .ok (.invokevirtual 529, 3) := by decide +kernel
theorem dX11_settle_77 : decode cX11_settle 77 = .ok (.goto 4, 3) := by decide +kernel
theorem dX11_settle_80 : decode cX11_settle 80 = .ok (.return_, 1) := by decide +kernel
theorem dX11_settle_81 : decode cX11_settle 81 = .ok (.iinc 1 1, 3) := by decide +kernel
theorem dX11_settle_84 : decode cX11_settle 84 = .ok (.goto (-82), 3) := by decide +kernel
theorem dX11_settle_87 : decode cX11_settle 87 = .ok (.return_, 1) := by decide +kernel
set_option maxRecDepth 100000 in
set_option maxHeartbeats 4000000 in
theorem c_X11_settle (l : Launch) (D : va_G) (t : Nat → ClassId) (G : GE) (κ : CS) (h : Nat) (post : CS → Prop) (hw : F_X11_settle G h post κ) (sz : Nat) : CMv l D t yX11_settle cX11_settle 5 10 250 G κ sz [.ref h] post := by
  refine c_go (by decide) (Nat.le_of_ble_eq_true rfl) ?_
  intro p e s m below meth c ls A hF hr hlk hin hAe hH hA hE hl
  unfold cB
  rw [hAe]
  clear hAe
  have hF : FX p m c cX11_settle 5 s _ RX11 D t := hF
  have hx := hF.1.1
  have hb := hF.1.2.1
  have hl : lv_has ls 5 [(0, .ref h)] := hl
  unfold F_X11_settle at hw
  refine lv_iconst (v := 0) hx hb dX11_settle_0 (by decide) ?_
  refine lv_istore_n (lv' := [(1, .int 0), (0, .ref h)]) hx hb dX11_settle_1 rfl hl (by decide) rfl (fun ls hl => ?_)
  refine cw_loop (β := Int32) (fun x1 => [(1, .int x1), (0, .ref h)]) 0 hl hw hH (fun K3 x1 κ2 ls H locs cells slots hl hw hH ih4 => ?_)
  have hl : lv_has ls 5 [(1, .int x1), (0, .ref h)] := hl
  refine lv_iload_n hx hb dX11_settle_2 rfl (lv_at hl 0 rfl) ?_
  refine lv_ldc (v := 1000000) hx hb hF.1.2.2.2.1 (hF.1.2.2.2.2 _ (wc_15 38 rfl)) dX11_settle_3 ?_
  refine w_icmp_ge (tgt := 87) hF dX11_settle_5 rfl hw (fun hw => ?_) (fun hw => ?_)
  · exact cw_retv hF hH ⟨rfl, rfl⟩ hr hlk dX11_settle_87 hw
  · refine lv_aload_n hx hb dX11_settle_8 rfl (lv_at hl 1 rfl) ?_
    refine cw_cVv (b := h) (As := []) (rest := []) hF hH hA hE mv_X11_510 ci_X11 (by decide) (fun sz => c_X11_wakeLocks l D t G _ h  _ hw.2 sz) dX11_settle_9 hw.1 ⟨Nat.le_of_ble_eq_true rfl, Nat.le_of_ble_eq_true rfl⟩ rfl hl.1 (Nat.le_of_ble_eq_true rfl) rfl (fun κ5 H locs cells slots hw hH => ?_)
    refine lv_aload_n hx hb dX11_settle_12 rfl (lv_at hl 1 rfl) ?_
    refine cw_cVq (b := h) (As := []) (rest := []) hF hH hA hE mv_X11_513 ci_X11 (by decide) (fun sz => c_X11_nextAgain l D t G _ h  _ hw.2 sz) dX11_settle_13 hw.1 ⟨Nat.le_of_ble_eq_true rfl, Nat.le_of_ble_eq_true rfl⟩ rfl hl.1 (Nat.le_of_ble_eq_true rfl) rfl (fun z8 κ7 H locs cells slots hw hH => ?_)
    refine w_astoreq_n (lv' := [(2, va_rf z8), (1, .int x1), (0, .ref h)]) hF dX11_settle_16 rfl hl (by decide) rfl (fun ls hl => ?_)
    refine w_aloadq_n hF dX11_settle_17 rfl (lv_at hl 0 rfl) ?_
    obtain ⟨K11, hK12, hw⟩ := jc_open hw
    refine cw_join (K := K11) 29 (fun (x9 : Option Nat) => [(2, va_rf z8), (1, .int x1), (0, .ref h)]) (fun (x9 : Option Nat) => [va_rf x9]) hl hH (fun x9 κ10 ls H locs cells slots hl hw hH => ?_) (fun jn13 => ?_)
    · have hw := hK12 x9 κ10 hw
      have hl : lv_has ls 5 [(2, va_rf z8), (1, .int x1), (0, .ref h)] := hl
      refine w_astoreq_n (lv' := [(3, va_rf x9), (2, va_rf z8), (1, .int x1), (0, .ref h)]) hF dX11_settle_29 rfl hl (by decide) (by generalize z8 = y; cases y <;> rfl) (fun ls hl => ?_)
      refine w_aloadq_n hF dX11_settle_30 rfl (lv_at hl 1 rfl) ?_
      obtain ⟨K16, hK17, hw⟩ := jc_open hw
      refine cw_join (K := K16) 81 (fun (x14 : Unit) => [(1, .int x1), (0, .ref h)]) (fun (x14 : Unit) => []) hl hH (fun x14 κ15 ls H locs cells slots hl hw hH => ?_) (fun jn18 => ?_)
      · have hw := hK17 x14 κ15 hw
        have hl : lv_has ls 5 [(1, .int x1), (0, .ref h)] := hl
        obtain ⟨z19, ez19⟩ : ∃ z : Int32, z = x1 + 1 := ⟨_, rfl⟩
        have hw := hw z19 ez19
        refine lv_iinc (lv' := [(1, .int z19), (0, .ref h)]) (k := 0) (v := z19) hx hb dX11_settle_81 hl rfl ez19.symm (by decide) rfl (fun ls hl => ?_)
        refine lv_goto (tgt := 2) hx hb dX11_settle_84 rfl ?_
        exact ih4 z19 κ15 ls _ _ _ _ hl hw hH
      · skip
        refine cw_ifnull (q := z8) (tgt := 68) hF dX11_settle_31 rfl hw (fun hw => ?_) (fun hw => ?_)
        · refine w_aloadq_n hF dX11_settle_68 rfl (lv_at hl 0 rfl) ?_
          refine cw_ifnull (q := x9) (tgt := 80) hF dX11_settle_69 rfl hw (fun hw => ?_) (fun hw => ?_)
          · exact cw_retv hF hH ⟨rfl, rfl⟩ hr hlk dX11_settle_80 hw
          · refine lv_aload_n hx hb dX11_settle_72 rfl (lv_at hl 3 rfl) ?_
            refine w_aloadq_n hF dX11_settle_73 rfl (lv_at hl 0 rfl) ?_
            refine cw_cVv (b := h) (As := [va_rf x9]) (rest := []) hF hH hA hE mv_X11_529 ci_X11 (by decide) (fun sz => c_X11_closeOpen l D t G _ h x9 _ hw.2 sz) dX11_settle_74 hw.1 ⟨Nat.le_of_ble_eq_true rfl, Nat.le_of_ble_eq_true rfl⟩ rfl hl.1 (Nat.le_of_ble_eq_true rfl) rfl (fun κ20 H locs cells slots hw hH => ?_)
            refine lv_goto (tgt := 81) hx hb dX11_settle_77 rfl ?_
            have hl : lv_has ls 5 [(1, .int x1), (0, .ref h)] := lv_sub hl [2, 3] rfl
            exact jn18 () κ20 ls _ _ _ _ hl hw hH
        · refine lv_aload_n hx hb dX11_settle_34 rfl (lv_at hl 3 rfl) ?_
          refine w_aloadq_n hF dX11_settle_35 rfl (lv_at hl 1 rfl) ?_
          refine lv_aload_n hx hb dX11_settle_36 rfl (lv_at hl 3 rfl) ?_
          refine cw_getPr (a := h) hF hH fk_X11_71 dX11_settle_37 hw (fun z22 hw => ?_)
          refine cw_cVi (b := h) (As := [va_rf z8, va_rf z22]) (rest := []) hF hH hA hE mv_X11_521 ci_X11 (by decide) (fun sz => c_X11_tryOpen l D t G _ h z8 z22 _ hw.2 sz) dX11_settle_40 hw.1 ⟨Nat.le_of_ble_eq_true rfl, Nat.le_of_ble_eq_true rfl⟩ rfl hl.1 (Nat.le_of_ble_eq_true rfl) rfl (fun z24 κ23 H locs cells slots hw hH => ?_)
          refine lv_istore (lv' := [(4, .int z24), (3, va_rf x9), (2, va_rf z8), (1, .int x1), (0, .ref h)]) hx hb dX11_settle_43 hl (by decide) (by generalize x9 = y; cases y <;> rfl) (fun ls hl => ?_)
          refine lv_iload hx hb dX11_settle_45 (lv_at hl 0 rfl) ?_
          refine lv_sipush (v := 259) hx hb dX11_settle_47 (by decide) ?_
          obtain ⟨K27, hK28, hw⟩ := jc_open hw
          refine cw_join (K := K27) 65 (fun (x25 : Unit) => [(1, .int x1), (0, .ref h)]) (fun (x25 : Unit) => []) hl hH (fun x25 κ26 ls H locs cells slots hl hw hH => ?_) (fun jn29 => ?_)
          · have hw := hK28 x25 κ26 hw
            have hl : lv_has ls 5 [(1, .int x1), (0, .ref h)] := hl
            refine lv_goto (tgt := 81) hx hb dX11_settle_65 rfl ?_
            exact jn18 () κ26 ls _ _ _ _ hl hw hH
          · skip
            refine w_icmp_eq (tgt := 65) hF dX11_settle_50 rfl hw (fun hw => ?_) (fun hw => ?_)
            · have hl : lv_has ls 5 [(1, .int x1), (0, .ref h)] := lv_sub hl [3, 4] rfl
              exact jn29 () κ23 ls _ _ _ _ hl hw hH
            · refine lv_aload_n hx hb dX11_settle_53 rfl (lv_at hl 4 rfl) ?_
              refine w_aloadq_n hF dX11_settle_54 rfl (lv_at hl 2 rfl) ?_
              refine cw_cVv (b := h) (As := [va_rf z8]) (rest := []) hF hH hA hE mv_X11_525 ci_X11 (by decide) (fun sz => c_X11_stopWaiting l D t G _ h z8 _ hw.2 sz) dX11_settle_55 hw.1 ⟨Nat.le_of_ble_eq_true rfl, Nat.le_of_ble_eq_true rfl⟩ rfl hl.1 (Nat.le_of_ble_eq_true rfl) rfl (fun κ30 H locs cells slots hw hH => ?_)
              refine lv_aload_n hx hb dX11_settle_58 rfl (lv_at hl 4 rfl) ?_
              refine w_aloadq_n hF dX11_settle_59 rfl (lv_at hl 2 rfl) ?_
              refine lv_iload hx hb dX11_settle_60 (lv_at hl 0 rfl) ?_
              refine cw_cVv (b := h) (As := [va_rf z8, .int z24]) (rest := []) hF hH hA hE mv_X11_500 ci_X11 (by decide) (fun sz => c_X11_sendLater l D t G _ h z8 z24 _ hw.2 sz) dX11_settle_62 hw.1 ⟨Nat.le_of_ble_eq_true rfl, Nat.le_of_ble_eq_true rfl⟩ rfl hl.1 (Nat.le_of_ble_eq_true rfl) rfl (fun κ32 H locs cells slots hw hH => ?_)
              have hl : lv_has ls 5 [(1, .int x1), (0, .ref h)] := lv_sub hl [3, 4] rfl
              exact jn29 () κ32 ls _ _ _ _ hl hw hH
    · skip
      refine cw_ifnonnull (q := z8) (tgt := 28) hF dX11_settle_18 rfl hw (fun hw => ?_) (fun hw => ?_)
      · refine cw_null dX11_settle_28 hF ?_
        exact jn13 (none : Option Nat) κ7 ls _ _ _ _ hl hw hH
      · refine lv_aload_n hx hb dX11_settle_21 rfl (lv_at hl 2 rfl) ?_
        refine cw_cVq (b := h) (As := []) (rest := []) hF hH hA hE mv_X11_517 ci_X11 (by decide) (fun sz => c_X11_nextClosing l D t G _ h  _ hw.2 sz) dX11_settle_22 hw.1 ⟨Nat.le_of_ble_eq_true rfl, Nat.le_of_ble_eq_true rfl⟩ rfl hl.1 (Nat.le_of_ble_eq_true rfl) rfl (fun z35 κ34 H locs cells slots hw hH => ?_)
        refine lv_goto (tgt := 29) hx hb dX11_settle_25 rfl ?_
        exact jn13 z35 κ34 ls _ _ _ _ hl hw hH

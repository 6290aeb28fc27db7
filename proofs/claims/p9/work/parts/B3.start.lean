/-! the law: how it begins -/
def R_law : String := "ShareHouseLaw"
def lw_P (b : Addr) (xs : List Int32) (args : Array Value) (s : State) : Prop := args = #[.ref b] ∧ s.IntsAt b xs ∧ xs.length ≤ 384 ∧ (Jvm.Cond.and given_1 narrow_1).before args s = true
def lw_Q (_ : Array Value) (s : State) (o : Outcome) (t : State) : Prop := o = .returned (some (.int 1)) ∧ Framed s o t [] 600000 7302250
def lw_Z (below : List Frame) (a : Array Value) (s : State) : State → Prop := fun t => ∃ o, t.status = .running ∧ Ended t below o ∧ lw_Q a s o t
/-- the law's own end, with 1 on the stack, nothing written that was there before, its room as the claim has it -/
theorem lw_ret {p : Program} {l : Launch} {e : Env} {s : State} {m : MethodId} {below : List Frame} {meth : Method} {c : Code} {b : Nat} (hx : p.tables.exec = Jvm.exec) (hb : c.code = code) (hr : meth.sig.returnType = ret) (hlocks : meth.locks = false) {pc : Nat} {H : Heap} {ls : Array Slot} (hdg : decode code pc = .ok (.ireturn, 1)) : W p l e room_1 s m #[Value.ref b] below meth c H [] 600000 7302250 (lw_Z below #[Value.ref b] s) (F0 m pc ls [.int 1]) := by
  intro T hT X
  obtain ⟨fs, hret, hrun, hended, hW, hframe⟩ := X.leave (v := some (.int 1)) (hlocks := hlocks) (fun h => by rw [hr] at h; cases h)
  have hmeth' : T.vm.method? m = some meth := X.method'
  refine ⟨T.setFrames fs, ?_, .returned (some (.int 1)), hrun, hended, rfl, ⟨_, rfl⟩, hW, hframe⟩
  jvm_step X.here [X.here.top, hx, hb, hdg, hmeth', hr, ret, narrow_b1]
  (try refine ⟨rfl, ?_⟩); (try refine ⟨rfl, ?_⟩)
  first | (intro acts; rw [hret _ acts rfl rfl rfl]) | rw [hret _ _ rfl rfl rfl]
  exact Steps.refl _
/-- what holds at the law's entry: the machine, the code, the tables' words (any of lw_tbl by 'hts w (by decide +kernel)'), the script of L ints xs at the cell b, what the Statement gives of the start (any of its parts by flat_of_before) -/
def lw_At (p : Program) (s : State) (m : MethodId) (meth : Method) (c : Code) (b L : Nat) (xs : Nat → Int32) : Prop :=
  p.tables.exec = Jvm.exec ∧ c.code = code ∧ meth.sig.returnType = ret ∧ c.maxLocals = 4 ∧ s.vm.findClass R_law = some m.cls ∧ (∀ w ∈ lw_tbl, w.before #[Value.ref b] s = true) ∧ va_X b L xs s s.heap ∧ b < s.heap.size ∧ meth.locks = false ∧ (Jvm.Cond.and given_1 narrow_1).before #[Value.ref b] s = true
set_option maxRecDepth 20000 in
theorem law_K {s : State} {args : Array Value} (hts : ∀ w ∈ lw_tbl, w.before args s = true) : ∃ (D : va_G) (t : Nat → ClassId), va_K D cl1 (tys1 t) s := by
  have hb : ∀ w ∈ big, w.before args s = true := fun w h => hts w (big_tbl w h)
  obtain ⟨c0, i0, k0⟩ := u_known hb lay_X12 (hb (Cond.instantiable RX12 120) (wc_40 16 rfl))
  obtain ⟨c1, i1, k1⟩ := u_known hb lay_X11 (hb (Cond.instantiable RX11 18) (wc_8 38 rfl))
  obtain ⟨c2, i2, k2⟩ := u_known hb lay_X6 (hb (Cond.instantiable RX6 2) (wc_5 26 rfl))
  obtain ⟨c3, i3, k3⟩ := u_known hb lay_X2 (hb (Cond.instantiable RX2 15) (wc_7 26 rfl))
  obtain ⟨c4, i4, k4⟩ := u_known hb lay_X1 (hb (Cond.instantiable RX1 15) (wc_11 39 rfl))
  obtain ⟨c5, i5, k5⟩ := u_known hb lay_X4 (hb (Cond.instantiable RX4 14) (wc_6 29 rfl))
  obtain ⟨c6, i6, k6⟩ := u_known hb lay_X9 (hb (Cond.instantiable RX9 2) (wc_7 14 rfl))
  obtain ⟨c7, i7, k7⟩ := u_known hb lay_Jx4a65c (hb (Cond.instantiable RJx4a65c 3) (wc_7 21 rfl))
  obtain ⟨c8, i8, k8⟩ := u_known hb lay_X0 (hb (Cond.instantiable RX0 21) (wc_21 14 rfl))
  obtain ⟨c9, i9, k9⟩ := u_known hb lay_X3 (hb (Cond.instantiable RX3 4) (wc_32 22 rfl))
  obtain ⟨c10, i10, k10⟩ := u_known hb lay_X5 (hb (Cond.instantiable RX5 15) (wc_23 25 rfl))
  obtain ⟨c11, i11, k11⟩ := u_known hb lay_X7 (hb (Cond.instantiable RX7 5) (wc_38 4 rfl))
  obtain ⟨c12, i12, k12⟩ := u_known hb lay_X8 (hb (Cond.instantiable RX8 4) (wc_38 9 rfl))
  obtain ⟨c13, i13, k13⟩ := u_known hb lay_X10 (hb (Cond.instantiable RX10 13) (wc_27 12 rfl))
  obtain ⟨a0, x0, y0, f0, g0, e0⟩ := Cond.arrayClass_spec (hts (Cond.arrayClass .byte) (tb_1 (List.mem_of_getElem? (i := 53) rfl)))
  obtain ⟨a1, x1, y1, f1, g1, e1⟩ := Cond.arrayClass_spec (hts (Cond.arrayClass .int) (tb_1 (List.mem_of_getElem? (i := 146) rfl)))
  obtain ⟨a2, x2, y2, f2, g2, e2⟩ := Cond.arrayClass_spec (hts (Cond.arrayClass .long) (tb_2 (List.mem_of_getElem? (i := 8) rfl)))
  obtain ⟨a3, x3, y3, f3, g3, e3⟩ := Cond.arrayClass_spec (hts (Cond.arrayClass .boolean) (tb_9 (List.mem_of_getElem? (i := 54) rfl)))
  obtain ⟨y4, a4, x4, f4, -, g4, e4, n4⟩ := Cond.arrayOver_spec (hts (Cond.arrayOver (.object "ShareHouse$Change")) (tb_1 (List.mem_of_getElem? (i := 156) rfl)))
  obtain ⟨y5, a5, x5, f5, -, g5, e5, n5⟩ := Cond.arrayOver_spec (hts (Cond.arrayOver (.object "ShareHouse$Conn")) (tb_1 (List.mem_of_getElem? (i := 55) rfl)))
  obtain ⟨y6, a6, x6, f6, -, g6, e6, n6⟩ := Cond.arrayOver_spec (hts (Cond.arrayOver (.object "ShareHouse$Node")) (tb_1 (List.mem_of_getElem? (i := 63) rfl)))
  obtain ⟨y7, a7, x7, f7, -, g7, e7, n7⟩ := Cond.arrayOver_spec (hts (Cond.arrayOver (.object "java/lang/Object")) (tb_3 (List.mem_of_getElem? (i := 128) rfl)))
  refine ⟨(fun n => match n with | 0 => c0 | 1 => c1 | 2 => c2 | 3 => c3 | 4 => c4 | 5 => c5 | 6 => c6 | 7 => c7 | 8 => c8 | 9 => c9 | 10 => c10 | 11 => c11 | 12 => c12 | _ => c13, fun n => match n with | 0 => i0 | 1 => i1 | 2 => i2 | 3 => i3 | 4 => i4 | 5 => i5 | 6 => i6 | 7 => i7 | 8 => i8 | 9 => i9 | 10 => i10 | 11 => i11 | 12 => i12 | _ => i13), fun n => match n with | 0 => a0 | 1 => a1 | 2 => a2 | 3 => a3 | 4 => a4 | 5 => a5 | 6 => a6 | _ => a7, ?_, ?_⟩
  · intro n q hq
    match n, hq with
    | 0, h => cases h; exact k0
    | 1, h => cases h; exact k1
    | 2, h => cases h; exact k2
    | 3, h => cases h; exact k3
    | 4, h => cases h; exact k4
    | 5, h => cases h; exact k5
    | 6, h => cases h; exact k6
    | 7, h => cases h; exact k7
    | 8, h => cases h; exact k8
    | 9, h => cases h; exact k9
    | 10, h => cases h; exact k10
    | 11, h => cases h; exact k11
    | 12, h => cases h; exact k12
    | 13, h => cases h; exact k13
    | n + 14, h => simp at h
  · intro n q hq
    match n, hq with
    | 0, h => cases h; exact ⟨fun n z => ⟨fun k h => (by cases h), x0, g0, y0, e0⟩, f0⟩
    | 1, h => cases h; exact ⟨fun n z => ⟨fun k h => (by cases h), x1, g1, y1, e1⟩, f1⟩
    | 2, h => cases h; exact ⟨fun n z => ⟨fun k h => (by cases h), x2, g2, y2, e2⟩, f2⟩
    | 3, h => cases h; exact ⟨fun n z => ⟨fun k h => (by cases h), x3, g3, y3, e3⟩, f3⟩
    | 4, h => cases h; exact ⟨fun n z => ⟨fun k h => (by cases h), x4, g4, y4, e4⟩, x4, y4, g4, e4, f4, n4⟩
    | 5, h => cases h; exact ⟨fun n z => ⟨fun k h => (by cases h), x5, g5, y5, e5⟩, x5, y5, g5, e5, f5, n5⟩
    | 6, h => cases h; exact ⟨fun n z => ⟨fun k h => (by cases h), x6, g6, y6, e6⟩, x6, y6, g6, e6, f6, n6⟩
    | 7, h => cases h; exact ⟨fun n z => ⟨fun k h => (by cases h), x7, g7, y7, e7⟩, x7, y7, g7, e7, f7, n7⟩
    | n + 8, h => simp at h
theorem law_N {s : State} {args : Array Value} (hts : ∀ w ∈ lw_tbl, w.before args s = true) : NWS s := by
  refine ⟨fun q hq => ?_, fun q hq => ?_, fun C hC => ?_⟩
  · simp only [nestL, List.mem_cons, List.not_mem_nil, or_false] at hq
    rcases hq with rfl | rfl | rfl | rfl | rfl | rfl | rfl | rfl | rfl
    · exact va_tabs rfl rfl (hts _ (tb_1 (List.mem_of_getElem? (i := 37) rfl)))
    · exact va_tabs rfl rfl (hts _ (tb_1 (List.mem_of_getElem? (i := 184) rfl)))
    · exact va_tabs rfl rfl (hts _ (tb_1 (List.mem_of_getElem? (i := 189) rfl)))
    · exact va_tabs rfl rfl (hts _ (tb_2 (List.mem_of_getElem? (i := 10) rfl)))
    · exact va_tabs rfl rfl (hts _ (tb_3 (List.mem_of_getElem? (i := 75) rfl)))
    · exact va_tabs rfl rfl (hts _ (tb_3 (List.mem_of_getElem? (i := 205) rfl)))
    · exact va_tabs rfl rfl (hts _ (tb_5 (List.mem_of_getElem? (i := 91) rfl)))
    · exact va_tabs rfl rfl (hts _ (tb_6 (List.mem_of_getElem? (i := 155) rfl)))
    · exact va_tabs rfl rfl (hts _ (tb_6 (List.mem_of_getElem? (i := 165) rfl)))
  · simp only [castL, List.mem_cons, List.not_mem_nil, or_false] at hq
    rcases hq with rfl | rfl | rfl | rfl | rfl | rfl | rfl | rfl | rfl | rfl | rfl | rfl | rfl | rfl | rfl | rfl | rfl | rfl | rfl | rfl
    · exact va_tabs rfl rfl (hts _ (tb_2 (List.mem_of_getElem? (i := 164) rfl)))
    · exact va_tabs rfl rfl (hts _ (tb_11 (List.mem_of_getElem? (i := 105) rfl)))
    · exact va_tabs rfl rfl (hts _ (tb_11 (List.mem_of_getElem? (i := 106) rfl)))
    · exact va_tabs rfl rfl (hts _ (tb_11 (List.mem_of_getElem? (i := 107) rfl)))
    · exact va_tabs rfl rfl (hts _ (tb_11 (List.mem_of_getElem? (i := 108) rfl)))
    · exact va_tabs rfl rfl (hts _ (tb_11 (List.mem_of_getElem? (i := 109) rfl)))
    · exact va_tabs rfl rfl (hts _ (tb_11 (List.mem_of_getElem? (i := 113) rfl)))
    · exact va_tabs rfl rfl (hts _ (tb_11 (List.mem_of_getElem? (i := 114) rfl)))
    · exact va_tabs rfl rfl (hts _ (tb_11 (List.mem_of_getElem? (i := 115) rfl)))
    · exact va_tabs rfl rfl (hts _ (tb_11 (List.mem_of_getElem? (i := 116) rfl)))
    · exact va_tabs rfl rfl (hts _ (tb_11 (List.mem_of_getElem? (i := 117) rfl)))
    · exact va_tabs rfl rfl (hts _ (tb_11 (List.mem_of_getElem? (i := 118) rfl)))
    · exact va_tabs rfl rfl (hts _ (tb_11 (List.mem_of_getElem? (i := 119) rfl)))
    · exact va_tabs rfl rfl (hts _ (tb_11 (List.mem_of_getElem? (i := 120) rfl)))
    · exact va_tabs rfl rfl (hts _ (tb_11 (List.mem_of_getElem? (i := 121) rfl)))
    · exact va_tabs rfl rfl (hts _ (tb_11 (List.mem_of_getElem? (i := 122) rfl)))
    · exact va_tabs rfl rfl (hts _ (tb_11 (List.mem_of_getElem? (i := 123) rfl)))
    · exact va_tabs rfl rfl (hts _ (tb_11 (List.mem_of_getElem? (i := 124) rfl)))
    · exact va_tabs rfl rfl (hts _ (tb_11 (List.mem_of_getElem? (i := 125) rfl)))
    · exact va_tabs rfl rfl (hts _ (tb_11 (List.mem_of_getElem? (i := 126) rfl)))
  · simp only [overL, List.mem_cons, List.not_mem_nil, or_false] at hC
    rcases hC with rfl | rfl | rfl | rfl
    · exact va_AO.of (hts _ (tb_1 (List.mem_of_getElem? (i := 55) rfl)))
    · exact va_AO.of (hts _ (tb_1 (List.mem_of_getElem? (i := 63) rfl)))
    · exact va_AO.of (hts _ (tb_1 (List.mem_of_getElem? (i := 156) rfl)))
    · exact va_AO.of (hts _ (tb_3 (List.mem_of_getElem? (i := 128) rfl)))
set_option maxRecDepth 100000 in
set_option maxHeartbeats 4000000 in
theorem law_E {s : State} {args : Array Value} (hts : ∀ w ∈ lw_tbl, w.before args s = true) (hfl : ∀ w ∈ flatC (Jvm.Cond.and given_1 narrow_1), w.before args s = true) : ∃ G : GE, EZ G (lA s) s s.heap := by
  obtain ⟨d, ed, td⟩ := va_Tof (args := args) (A := lA s) (N := 0) (f := fun _ => .null) (tm := .static "java/util/ArrayList" "DEFAULTCAPACITY_EMPTY_ELEMENTDATA" "[Ljava/lang/Object;") (ty := .object "java/lang/Object") (by decide) (hfl _ (by decide +kernel)) (va_eqt (z := 0) (hfl _ (by decide +kernel))) (fun j h => absurd h (Nat.not_lt_zero j)) (fun a h => Nat.not_le.mpr h)
  obtain ⟨bo, ebo, tbo⟩ := va_Tof (args := args) (A := lA s) (N := 19) (f := fun i => .int (bodyF i)) (tm := .static "ShareHouse" "BODY" "[I") (ty := .int) (by decide) (hfl _ (by decide +kernel)) (va_eqt (z := 19) (hfl _ (by decide +kernel))) (fun j h => by rcases (show j = 0 ∨ j = 1 ∨ j = 2 ∨ j = 3 ∨ j = 4 ∨ j = 5 ∨ j = 6 ∨ j = 7 ∨ j = 8 ∨ j = 9 ∨ j = 10 ∨ j = 11 ∨ j = 12 ∨ j = 13 ∨ j = 14 ∨ j = 15 ∨ j = 16 ∨ j = 17 ∨ j = 18 by omega) with rfl | rfl | rfl | rfl | rfl | rfl | rfl | rfl | rfl | rfl | rfl | rfl | rfl | rfl | rfl | rfl | rfl | rfl | rfl <;> exact va_eqt (hfl _ (by decide +kernel))) (fun a h => Nat.not_le.mpr h)
  obtain ⟨fi, efi, tfi⟩ := va_Tof (args := args) (A := lA s) (N := 19) (f := fun i => .int (fileF i)) (tm := .static "ShareHouse" "FILE_AT" "[I") (ty := .int) (by decide) (hfl _ (by decide +kernel)) (va_eqt (z := 19) (hfl _ (by decide +kernel))) (fun j h => by rcases (show j = 0 ∨ j = 1 ∨ j = 2 ∨ j = 3 ∨ j = 4 ∨ j = 5 ∨ j = 6 ∨ j = 7 ∨ j = 8 ∨ j = 9 ∨ j = 10 ∨ j = 11 ∨ j = 12 ∨ j = 13 ∨ j = 14 ∨ j = 15 ∨ j = 16 ∨ j = 17 ∨ j = 18 by omega) with rfl | rfl | rfl | rfl | rfl | rfl | rfl | rfl | rfl | rfl | rfl | rfl | rfl | rfl | rfl | rfl | rfl | rfl | rfl <;> exact va_eqt (hfl _ (by decide +kernel))) (fun a h => Nat.not_le.mpr h)
  obtain ⟨dt, edt, tdt⟩ := va_Tof (args := args) (A := lA s) (N := 2) (f := fun _ => .int 46) (tm := .static "ShareHouse" "DOTS" "[B") (ty := .byte) (by decide) (hfl _ (by decide +kernel)) (va_eqt (z := 2) (hfl _ (by decide +kernel))) (fun j h => by rcases (show j = 0 ∨ j = 1 by omega) with rfl | rfl <;> exact va_eqt (hfl _ (by decide +kernel))) (fun a h => Nat.not_le.mpr h)
  have hex : (Cond.exactly (.string "ShareHouse$Wish" 64) "java/lang/String").before args s = true := hfl _ (by decide +kernel)
  obtain ⟨st, c9, cA, kA, est, -⟩ := Cond.exactly_spec (args := args) (first := s) (o := none) (s := s) (idx := []) (t := (.string "ShareHouse$Wish" 64)) (cls := "java/lang/String") hex
  obtain ⟨vl, evl, tvl⟩ := va_Tof (args := args) (A := lA s) (N := 9) (f := fun i => .int (nmsF i)) (tm := (.field (.string "ShareHouse$Wish" 64) "java/lang/String" "value" "[B")) (ty := .byte) (by decide) (hfl _ (by decide +kernel)) (va_eqt (z := 9) (hfl _ (by decide +kernel))) (fun j h => by rcases (show j = 0 ∨ j = 1 ∨ j = 2 ∨ j = 3 ∨ j = 4 ∨ j = 5 ∨ j = 6 ∨ j = 7 ∨ j = 8 by omega) with rfl | rfl | rfl | rfl | rfl | rfl | rfl | rfl | rfl <;> exact va_eqt (hfl _ (by decide +kernel))) (fun a h => Nat.not_le.mpr h)
  obtain ⟨mi, hmi⟩ := va_Mi.of (args := args) (s := s) (C := "[Ljava/lang/Object;") (hfl _ (by decide +kernel))
  refine ⟨(d, bo, fi, dt, mi, st, vl), ⟨va_Zof (hts _ (tb_1 (List.mem_of_getElem? (i := 170) rfl))) (hts _ (tb_1 (List.mem_of_getElem? (i := 7) rfl))) ed (fun a h => Nat.not_le.mpr h), td⟩, ⟨va_Zof (hts _ (tb_5 (List.mem_of_getElem? (i := 47) rfl))) (hts _ (tb_1 (List.mem_of_getElem? (i := 1) rfl))) ebo (fun a h => Nat.not_le.mpr h), tbo⟩, ⟨va_Zof (hts _ (tb_5 (List.mem_of_getElem? (i := 49) rfl))) (hts _ (tb_1 (List.mem_of_getElem? (i := 1) rfl))) efi (fun a h => Nat.not_le.mpr h), tfi⟩, ⟨va_Zof (hts _ (tb_6 (List.mem_of_getElem? (i := 150) rfl))) (hts _ (tb_1 (List.mem_of_getElem? (i := 1) rfl))) edt (fun a h => Nat.not_le.mpr h), tdt⟩, ⟨hmi, va_Dc.of (hts _ (tb_11 (List.mem_of_getElem? (i := 112) rfl))), va_any rfl (hts _ (tb_11 (List.mem_of_getElem? (i := 111) rfl))), va_any rfl (hts _ (tb_3 (List.mem_of_getElem? (i := 107) rfl))), va_any rfl (hts _ (tb_3 (List.mem_of_getElem? (i := 123) rfl)))⟩, va_Oof hex est (fun a h => Nat.not_le.mpr h), vk_OFof est (va_eqt (z := 0) (hfl _ (by decide +kernel))) (fun a h => Nat.not_le.mpr h), vk_OFof est evl (fun a h => Nat.not_le.mpr h), tvl, vk_R.of (hts _ (tb_5 (List.mem_of_getElem? (i := 170) rfl))) est, va_Zof (hts _ (tb_5 (List.mem_of_getElem? (i := 184) rfl))) (hts _ (tb_1 (List.mem_of_getElem? (i := 20) rfl))) (va_eqt (z := 1) (hfl _ (by decide +kernel))) (fun a h => Nat.not_le.mpr h)⟩

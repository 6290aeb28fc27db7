def R_law : String := "ShareHouseLaw"
def lw_P (b : Addr) (xs : List Int32) (args : Array Value) (s : State) : Prop := args = #[.ref b] ∧ s.IntsAt b xs ∧ xs.length ≤ 6 ∧ (Jvm.Cond.and given_1 narrow_1).before args s = true
def lw_Q (_ : Array Value) (s : State) (o : Outcome) (t : State) : Prop := o = .returned (some (.int 1)) ∧ Framed s o t [] 600000 7302250
def lw_Z (below : List Frame) (a : Array Value) (s : State) : State → Prop := fun t => ∃ o, t.status = .running ∧ Ended t below o ∧ lw_Q a s o t
/-- the law's own end, with 1 on the stack, nothing written that was there before, its room as the claim has it -/
theorem lw_ret {p : Program} {l : Launch} {e : Env} {s : State} {m : MethodId} {below : List Frame} {meth : Method} {c : Code} {b : Nat} (hx : p.tables.exec = Jvm.exec) (hb : c.code = code) (hr : meth.sig.returnType = ret) (hlocks : meth.locks = false) {pc : Nat} {H : Heap} {ls : Array Slot} (hdg : decode code pc = .ok (.ireturn, 1)) : W p l e room_1 s m #[Value.ref b] below meth c H [] 600000 7302250 (lw_Z below #[Value.ref b] s) (F0 m pc ls [.int 1]) := by
  intro T hT X
  obtain ⟨fs, hret, hrun, hended, hW, hframe⟩ := X.leave (v := some (.int 1)) (hlocks := hlocks) (fun h => by rw [hr] at h; cases h)
  have hmeth' : T.vm.method? m = some meth := X.method'
  refine ⟨T.setFrames fs, ?_, .returned (some (.int 1)), hrun, hended, rfl, ⟨_, rfl⟩, hW, hframe⟩
  jvm_step X.here [X.here.top, hx, hb, hdg, hmeth', hr, ret, narrow_b1]
  (try refine ⟨rfl, ?_⟩); (try refine ⟨rfl, ?_⟩)
  first | (intro acts; rw [hret _ acts rfl rfl rfl]) | rw [hret _ _ rfl rfl rfl]
  exact Steps.refl _
/-- what holds at the law's entry: the machine, the code, the tables' words (any of lw_tbl by 'hts w (by decide +kernel)'), the script of L ints xs at the cell b, what the Statement gives of the start (any of its parts by flat_of_before) -/
def lw_At (p : Program) (s : State) (m : MethodId) (meth : Method) (c : Code) (b L : Nat) (xs : Nat → Int32) : Prop :=
  p.tables.exec = Jvm.exec ∧ c.code = code ∧ meth.sig.returnType = ret ∧ c.maxLocals = 4 ∧ s.vm.findClass R_law = some m.cls ∧ (∀ w ∈ lw_tbl, w.before #[Value.ref b] s = true) ∧ va_X b L xs s s.heap ∧ b < s.heap.size ∧ meth.locks = false ∧ (Jvm.Cond.and given_1 narrow_1).before #[Value.ref b] s = true
set_option maxRecDepth 20000 in
theorem law_K {s : State} {args : Array Value} (hts : ∀ w ∈ lw_tbl, w.before args s = true) : ∃ (D : va_G) (t : Nat → ClassId), va_K D cl1 (tys1 t) s := by
  have hb : ∀ w ∈ big, w.before args s = true := fun w h => hts w (big_tbl w h)
  obtain ⟨c0, i0, k0⟩ := u_known hb lay_X12 (hb (Cond.instantiable RX12 120) (wb 357 rfl))
  obtain ⟨c1, i1, k1⟩ := u_known hb lay_X11 (hb (Cond.instantiable RX11 18) (wb 100 rfl))
  obtain ⟨c2, i2, k2⟩ := u_known hb lay_X6 (hb (Cond.instantiable RX6 2) (wb 17 rfl))
  obtain ⟨c3, i3, k3⟩ := u_known hb lay_X2 (hb (Cond.instantiable RX2 15) (wb 54 rfl))
  obtain ⟨c4, i4, k4⟩ := u_known hb lay_X1 (hb (Cond.instantiable RX1 15) (wb 158 rfl))
  obtain ⟨c5, i5, k5⟩ := u_known hb lay_X4 (hb (Cond.instantiable RX4 14) (wb 32 rfl))
  obtain ⟨c6, i6, k6⟩ := u_known hb lay_X9 (hb (Cond.instantiable RX9 2) (wb 42 rfl))
  obtain ⟨c7, i7, k7⟩ := u_known hb lay_Jx4a65c (hb (Cond.instantiable RJx4a65c 3) (wb 49 rfl))
  obtain ⟨a0, x0, y0, f0, g0, e0⟩ := Cond.arrayClass_spec (hb (Cond.arrayClass .byte) (wb 12 rfl))
  obtain ⟨a1, x1, y1, f1, g1, e1⟩ := Cond.arrayClass_spec (hb (Cond.arrayClass .int) (wb 39 rfl))
  obtain ⟨a2, x2, y2, f2, g2, e2⟩ := Cond.arrayClass_spec (hb (Cond.arrayClass .long) (wb 138 rfl))
  obtain ⟨a3, x3, y3, f3, g3, e3⟩ := Cond.arrayClass_spec (hb (Cond.arrayClass .boolean) (wb 505 rfl))
  obtain ⟨y4, a4, x4, f4, -, g4, e4, n4⟩ := Cond.arrayOver_spec (hts (Cond.arrayOver (.object "ShareHouse$Change")) (tb_1 (List.mem_of_getElem? (i := 156) rfl)))
  obtain ⟨y5, a5, x5, f5, -, g5, e5, n5⟩ := Cond.arrayOver_spec (hts (Cond.arrayOver (.object "ShareHouse$Conn")) (tb_1 (List.mem_of_getElem? (i := 55) rfl)))
  obtain ⟨y6, a6, x6, f6, -, g6, e6, n6⟩ := Cond.arrayOver_spec (hts (Cond.arrayOver (.object "ShareHouse$Node")) (tb_1 (List.mem_of_getElem? (i := 63) rfl)))
  refine ⟨(fun n => match n with | 0 => c0 | 1 => c1 | 2 => c2 | 3 => c3 | 4 => c4 | 5 => c5 | 6 => c6 | _ => c7, fun n => match n with | 0 => i0 | 1 => i1 | 2 => i2 | 3 => i3 | 4 => i4 | 5 => i5 | 6 => i6 | _ => i7), fun n => match n with | 0 => a0 | 1 => a1 | 2 => a2 | 3 => a3 | 4 => a4 | 5 => a5 | _ => a6, ?_, ?_⟩
  · intro n q hq
    match n, hq with
    | 0, h => cases h; exact k0
    | 1, h => cases h; exact k1
    | 2, h => cases h; exact k2
    | 3, h => cases h; exact k3
    | 4, h => cases h; exact k4
    | 5, h => cases h; exact k5
    | 6, h => cases h; exact k6
    | 7, h => cases h; exact k7
    | n + 8, h => simp at h
  · intro n q hq
    match n, hq with
    | 0, h => cases h; exact ⟨fun n z => ⟨fun k h => (by cases h), x0, g0, y0, e0⟩, f0⟩
    | 1, h => cases h; exact ⟨fun n z => ⟨fun k h => (by cases h), x1, g1, y1, e1⟩, f1⟩
    | 2, h => cases h; exact ⟨fun n z => ⟨fun k h => (by cases h), x2, g2, y2, e2⟩, f2⟩
    | 3, h => cases h; exact ⟨fun n z => ⟨fun k h => (by cases h), x3, g3, y3, e3⟩, f3⟩
    | 4, h => cases h; exact ⟨fun n z => ⟨fun k h => (by cases h), x4, g4, y4, e4⟩, x4, y4, g4, e4, f4, n4⟩
    | 5, h => cases h; exact ⟨fun n z => ⟨fun k h => (by cases h), x5, g5, y5, e5⟩, x5, y5, g5, e5, f5, n5⟩
    | 6, h => cases h; exact ⟨fun n z => ⟨fun k h => (by cases h), x6, g6, y6, e6⟩, x6, y6, g6, e6, f6, n6⟩
    | n + 7, h => simp at h
abbrev lA (s : State) : Nat → Prop := fun q => s.heap.size ≤ q
section H30
variable {p : Program} {l : Launch} {e : Env} {R : Room} {s : State} {m : MethodId} {args : Array Value} {below : List Frame} {meth : Method} {c : Code} {H : Heap} {locs : List Loc} {cells slots : Nat} {Q : State → Prop} {cc : ByteArray} {pc : Nat} {ls : Array Slot} {rest : List Value} {D : va_G} {t : Nat → ClassId} {A : Nat → Prop} {H0 : Heap} {ws : va_W} {own : String} {nL : Nat}
variable {C : String} {y : MethodName} {bytes : ByteArray} {maxL n index : Nat} {ret : Option FieldType} {rm : Room} {As st0 : List Value} {b q0 ci N : Nat} {fs : List Value} {T : u_T} {ty : Nat → FieldType}
theorem r_cAI {v : Int32} {wc X : va_W} (hF : FX p m c cc nL s args own D t) (hm : MV own index C y bytes maxL ret n) (hC : CI ci C T N ty) (hM : AI l D t y bytes maxL ret rm wc H.size (.ref b :: As) v) (hdg : decode cc pc = .ok (.invokevirtual index, 3)) (hrc : rm.cells = 0) (hrs : rm.slots = 0) (hR : rm.frames + 1 ≤ R.frames ∧ 8 + (maxL + 11) + rm.locals ≤ R.locals) (hn : As.length = n) (hls : ls.size = nL) (hW : (rest.map fun v => v.category).sum ≤ 8) (hP : va_P D cl1 (wc ++ X) H) (hD : va_D A (wc ++ X)) (hS : va_S A H0 H locs) (hA : ∀ q, H0.size ≤ q → A q) (he : wc[q0]? = some (b, .inr (ci, fs))) (hf : cells ≤ R.cells ∧ slots ≤ R.slots) (hst : st0 = As.reverse ++ .ref b :: rest)
    (kk : ∀ (H1 : Heap) (locs1 : List Loc), va_P D cl1 X H1 → va_S A H0 H1 locs1 → W p l e R s m args below meth c H1 locs1 cells slots Q (F0 m (pc + 3) ls (.int v :: rest))) : W p l e R s m args below meth c H locs cells slots Q (F0 m pc ls st0) := by
  refine va_calli (r_runV hF hm hC hM hdg hrc hrs hR hn hls hW (P_left hP) (D_left hD) he hf hst) hS (fun q _ h => a_in (D_left hD) hS hA q h) (a_in (D_left hD) hS hA) (fun r u t1 H1 locs1 ht _ hw _ _ hk1 hS1 => ?_)
  subst hw
  exact kk H1 locs1 (P_rest hP hD hk1).1 hS1
theorem r_sld {b L : Nat} {xs : Nat → Int32} {i v : Int32} (hF : FX p m c cc nL s args own D t) (hX : va_X b L xs s s.heap) (hbl : b < s.heap.size) (hS : va_S (lA s) s.heap H locs) (hin : vp_in i L) (hv : xs i.toNatClampNeg = v) (hdg : decode cc pc = .ok (.iaload, 1)) (kk : W p l e R s m args below meth c H locs cells slots Q (F0 m (pc + 1) ls (.int v :: rest))) : W p l e R s m args below meth c H locs cells slots Q (F0 m pc ls (.int i :: .ref b :: rest)) :=
  va_sld hF.1.1 hF.1.2.1 hX hbl (Nat.not_le.mpr hbl) hS hin hdg (by rw [hv]; exact kk)
theorem r_slen {b L : Nat} {xs : Nat → Int32} (hF : FX p m c cc nL s args own D t) (hX : va_X b L xs s s.heap) (hbl : b < s.heap.size) (hS : va_S (lA s) s.heap H locs) (hdg : decode cc pc = .ok (.arraylength, 1)) (kk : W p l e R s m args below meth c H locs cells slots Q (F0 m (pc + 1) ls (.int (nI L) :: rest))) : W p l e R s m args below meth c H locs cells slots Q (F0 m pc ls (.ref b :: rest)) :=
  va_slen hF.1.1 hF.1.2.1 hX hbl (Nat.not_le.mpr hbl) hS hdg kk
end H30
set_option maxRecDepth 100000 in
set_option maxHeartbeats 4000000 in
theorem law_end {p : Program} {l : Launch} {e : Env} {s : State} {m : MethodId} {below : List Frame} {meth : Method} {c : Code} {H : Heap} {locs : List Loc} {cells slots : Nat} {ls : Array Slot} {D : va_G} {t : Nat → ClassId} {b : Nat} (hF : FX p m c code 4 s #[Value.ref b] RL D t) (hr : meth.sig.returnType = ret) (hlk : meth.locks = false) (hS : va_S (lA s) s.heap H locs) (hc : cells ≤ 600000) (hs : slots ≤ 7302250) : W p l e room_1 s m #[Value.ref b] below meth c H locs cells slots (lw_Z below #[Value.ref b] s) (F0 m 455 ls []) := by
  have hx := hF.1.1
  have hb := hF.1.2.1
  refine lv_iconst (v := 1) hx hb dL_law_455 (by decide) ?_
  refine va_forget (fun q hq => hS.2.2 q hq) ?_
  refine W.widen (k := 600000) (n := 7302250) hc hs ?_
  exact lw_ret hx hb hr hlk dL_law_456
set_option maxRecDepth 100000 in
set_option maxHeartbeats 4000000 in
theorem law_tail {p : Program} {l : Launch} {e : Env} {s : State} {m : MethodId} {below : List Frame} {meth : Method} {c : Code} {H : Heap} {locs : List Loc} {cells slots : Nat} {ls : Array Slot} {D : va_G} {t : Nat → ClassId} {b : Nat} {xx mm : Nat} {xs : Nat → Int32} (hF : FX p m c code 4 s #[Value.ref b] RL D t) (hr : meth.sig.returnType = ret) (hlk : meth.locks = false) (hX : va_X b 6 xs s s.heap) (hbl : b < s.heap.size) (hl : lv_has ls 4 [(3, .int 0), (2, .ref mm), (1, .ref xx), (0, .ref b)]) (hS : va_S (lA s) s.heap H locs) (hc : cells ≤ 600000) (hs : slots ≤ 7302250) : W p l e room_1 s m #[Value.ref b] below meth c H locs cells slots (lw_Z below #[Value.ref b] s) (F0 m 449 ls []) := by
  have hx := hF.1.1
  have hb := hF.1.2.1
  refine lv_iinc (lv' := [(3, .int 6), (2, .ref mm), (1, .ref xx), (0, .ref b)]) (k := 0) (v := 6) hx hb dL_law_449 hl rfl (by decide) (by decide) rfl (fun ls hl => ?_)
  refine lv_goto (tgt := 18) hx hb dL_law_452 rfl ?_
  refine lv_iload_n hx hb dL_law_18 rfl (lv_at hl 0 rfl) ?_
  refine lv_aload_n hx hb dL_law_19 rfl (lv_at hl 3 rfl) ?_
  refine r_slen hF hX hbl hS dL_law_20 ?_
  refine lv_bipush (v := 6) hx hb dL_law_21 (by decide) ?_
  refine lv_isub hx hb dL_law_23 ?_
  refine lv_icmp_gt (tgt := 455) hx hb dL_law_24 rfl (fun _ => ?_) (fun h => absurd (by decide) h)
  exact law_end hF hr hlk hS hc hs
set_option maxRecDepth 100000 in
set_option maxHeartbeats 4000000 in
theorem law_feed {p : Program} {l : Launch} {e : Env} {s : State} {m : MethodId} {below : List Frame} {meth : Method} {c : Code} {H : Heap} {locs : List Loc} {cells slots : Nat} {ls : Array Slot} {D : va_G} {t : Nat → ClassId} {b : Nat} {xx mm : Nat} {xs : Nat → Int32} (hF : FX p m c code 4 s #[Value.ref b] RL D t) (hr : meth.sig.returnType = ret) (hlk : meth.locks = false) (hX : va_X b 6 xs s s.heap) (hbl : b < s.heap.size) (a : Nat → Nat) (fc fl fd fw : Nat → Option Nat) (fr : Nat → Int32) (T : va_W) (Lm : Nat → Nat) (sr : Nat → Int32) (dd : Nat) (hcn : connsIn t T fc 6) (hnl : nodesIn t T fl 80) (hnd : nodesIn t T fd 80) (hfr : ∀ i, i < 4 → fr i = -1) (hsr : ∀ i, i < 4 → sr i = -1) (hl : lv_has ls 4 [(3, .int 0), (2, .ref mm), (1, .ref xx), (0, .ref b)]) (hP : va_P D cl1 ((hW t dd xx a fc fl fd fw fr T) ++ (mW t mm Lm sr)) H) (hD : va_D (lA s) ((hW t dd xx a fc fl fd fw fr T) ++ (mW t mm Lm sr))) (hS : va_S (lA s) s.heap H locs) (hc : cells ≤ 600000) (hs : slots ≤ 7302250) : W p l e room_1 s m #[Value.ref b] below meth c H locs cells slots (lw_Z below #[Value.ref b] s) (F0 m 100 ls []) := by
  have hx := hF.1.1
  have hb := hF.1.2.1
  have hA : ∀ q, s.heap.size ≤ q → lA s q := fun q h => h
  refine lv_aload_n hx hb dL_law_100 rfl (lv_at hl 2 rfl) ?_
  refine lv_aload_n hx hb dL_law_101 rfl (lv_at hl 3 rfl) ?_
  refine lv_iload_n hx hb dL_law_102 rfl (lv_at hl 0 rfl) ?_
  refine lv_iconst (v := 1) hx hb dL_law_103 (by decide) ?_
  refine lv_iadd hx hb dL_law_104 ?_
  refine r_sld (v := xs 1) hF hX hbl hS (by unfold vp_in; decide) rfl dL_law_105 ?_
  refine lv_aload_n hx hb dL_law_106 rfl (lv_at hl 3 rfl) ?_
  refine lv_iload_n hx hb dL_law_107 rfl (lv_at hl 0 rfl) ?_
  refine lv_iconst (v := 2) hx hb dL_law_108 (by decide) ?_
  refine lv_iadd hx hb dL_law_109 ?_
  refine r_sld (v := xs 2) hF hX hbl hS (by unfold vp_in; decide) rfl dL_law_110 ?_
  refine lv_aload_n hx hb dL_law_111 rfl (lv_at hl 3 rfl) ?_
  refine lv_iload_n hx hb dL_law_112 rfl (lv_at hl 0 rfl) ?_
  refine lv_iconst (v := 3) hx hb dL_law_113 (by decide) ?_
  refine lv_iadd hx hb dL_law_114 ?_
  refine r_sld (v := xs 3) hF hX hbl hS (by unfold vp_in; decide) rfl dL_law_115 ?_
  refine lv_aload_n hx hb dL_law_116 rfl (lv_at hl 3 rfl) ?_
  refine lv_iload_n hx hb dL_law_117 rfl (lv_at hl 0 rfl) ?_
  refine lv_iconst (v := 4) hx hb dL_law_118 (by decide) ?_
  refine lv_iadd hx hb dL_law_119 ?_
  refine r_sld (v := xs 4) hF hX hbl hS (by unfold vp_in; decide) rfl dL_law_120 ?_
  refine lv_aload_n hx hb dL_law_121 rfl (lv_at hl 3 rfl) ?_
  refine lv_iload_n hx hb dL_law_122 rfl (lv_at hl 0 rfl) ?_
  refine lv_iconst (v := 5) hx hb dL_law_123 (by decide) ?_
  refine lv_iadd hx hb dL_law_124 ?_
  refine r_sld (v := xs 5) hF hX hbl hS (by unfold vp_in; decide) rfl dL_law_125 ?_
  refine r_cAI (v := 20) (wc := (hW t dd xx a fc fl fd fw fr T)) (X := (mW t mm Lm sr)) (As := [.int (xs 1), .int (xs 2), .int (xs 3), .int (xs 4), .int (xs 5)]) (rest := []) hF mv_L_13 ci_X11 (c_X11_feed l D t dd xx a fc fl fd fw fr T (xs 1) (xs 2) (xs 3) (xs 4) (xs 5) _) dL_law_126 rfl rfl (Nat.le_of_ble_eq_true rfl |> fun h => ⟨h, Nat.le_of_ble_eq_true rfl⟩) rfl hl.1 (Nat.le_of_ble_eq_true rfl) hP hD hS hA (q0 := 23) rfl ⟨hc, hs⟩ rfl (fun H locs hP hS => ?_)
  have hD := D_right hD
  have hP : va_P D cl1 ((mW t mm Lm sr) ++ ([] : va_W)) H := by rw [List.append_nil]; exact hP
  have hD : va_D (lA s) ((mW t mm Lm sr) ++ ([] : va_W)) := by rw [List.append_nil]; exact hD
  refine lv_aload_n hx hb dL_law_129 rfl (lv_at hl 1 rfl) ?_
  refine lv_aload_n hx hb dL_law_130 rfl (lv_at hl 3 rfl) ?_
  refine lv_iload_n hx hb dL_law_131 rfl (lv_at hl 0 rfl) ?_
  refine lv_iconst (v := 1) hx hb dL_law_132 (by decide) ?_
  refine lv_iadd hx hb dL_law_133 ?_
  refine r_sld (v := xs 1) hF hX hbl hS (by unfold vp_in; decide) rfl dL_law_134 ?_
  refine lv_aload_n hx hb dL_law_135 rfl (lv_at hl 3 rfl) ?_
  refine lv_iload_n hx hb dL_law_136 rfl (lv_at hl 0 rfl) ?_
  refine lv_iconst (v := 2) hx hb dL_law_137 (by decide) ?_
  refine lv_iadd hx hb dL_law_138 ?_
  refine r_sld (v := xs 2) hF hX hbl hS (by unfold vp_in; decide) rfl dL_law_139 ?_
  refine lv_aload_n hx hb dL_law_140 rfl (lv_at hl 3 rfl) ?_
  refine lv_iload_n hx hb dL_law_141 rfl (lv_at hl 0 rfl) ?_
  refine lv_iconst (v := 3) hx hb dL_law_142 (by decide) ?_
  refine lv_iadd hx hb dL_law_143 ?_
  refine r_sld (v := xs 3) hF hX hbl hS (by unfold vp_in; decide) rfl dL_law_144 ?_
  refine lv_aload_n hx hb dL_law_145 rfl (lv_at hl 3 rfl) ?_
  refine lv_iload_n hx hb dL_law_146 rfl (lv_at hl 0 rfl) ?_
  refine lv_iconst (v := 4) hx hb dL_law_147 (by decide) ?_
  refine lv_iadd hx hb dL_law_148 ?_
  refine r_sld (v := xs 4) hF hX hbl hS (by unfold vp_in; decide) rfl dL_law_149 ?_
  refine lv_aload_n hx hb dL_law_150 rfl (lv_at hl 3 rfl) ?_
  refine lv_iload_n hx hb dL_law_151 rfl (lv_at hl 0 rfl) ?_
  refine lv_iconst (v := 5) hx hb dL_law_152 (by decide) ?_
  refine lv_iadd hx hb dL_law_153 ?_
  refine r_sld (v := xs 5) hF hX hbl hS (by unfold vp_in; decide) rfl dL_law_154 ?_
  refine r_cAI (v := 20) (wc := (mW t mm Lm sr)) (X := []) (As := [.int (xs 1), .int (xs 2), .int (xs 3), .int (xs 4), .int (xs 5)]) (rest := [.int 20]) hF mv_L_17 ci_X12 (c_X12_feed l D t mm Lm sr (xs 1) (xs 2) (xs 3) (xs 4) (xs 5) _) dL_law_155 rfl rfl (Nat.le_of_ble_eq_true rfl |> fun h => ⟨h, Nat.le_of_ble_eq_true rfl⟩) rfl hl.1 (Nat.le_of_ble_eq_true rfl) hP hD hS hA (q0 := 0) rfl ⟨hc, hs⟩ rfl (fun H locs hP hS => ?_)
  refine lv_icmp_eq (tgt := 449) hx hb dL_law_158 rfl (fun _ => ?_) (fun h => absurd rfl h)
  exact law_tail hF hr hlk hX hbl hl hS hc hs
set_option maxRecDepth 100000 in
set_option maxHeartbeats 4000000 in
theorem law_cut {p : Program} {l : Launch} {e : Env} {s : State} {m : MethodId} {below : List Frame} {meth : Method} {c : Code} {H : Heap} {locs : List Loc} {cells slots : Nat} {ls : Array Slot} {D : va_G} {t : Nat → ClassId} {b : Nat} {xx mm : Nat} {xs : Nat → Int32} (hF : FX p m c code 4 s #[Value.ref b] RL D t) (hr : meth.sig.returnType = ret) (hlk : meth.locks = false) (hX : va_X b 6 xs s s.heap) (hbl : b < s.heap.size) (a : Nat → Nat) (fc fl fd fw : Nat → Option Nat) (fr : Nat → Int32) (T : va_W) (Lm : Nat → Nat) (sr : Nat → Int32) (dd : Nat) (hcn : connsIn t T fc 6) (hnl : nodesIn t T fl 80) (hnd : nodesIn t T fd 80) (hfr : ∀ i, i < 4 → fr i = -1) (hsr : ∀ i, i < 4 → sr i = -1) (hl : lv_has ls 4 [(3, .int 0), (2, .ref mm), (1, .ref xx), (0, .ref b)]) (hP : va_P D cl1 ((hW t dd xx a fc fl fd fw fr T) ++ (mW t mm Lm sr)) H) (hD : va_D (lA s) ((hW t dd xx a fc fl fd fw fr T) ++ (mW t mm Lm sr))) (hS : va_S (lA s) s.heap H locs) (hc : cells ≤ 600000) (hs : slots ≤ 7302250) : W p l e room_1 s m #[Value.ref b] below meth c H locs cells slots (lw_Z below #[Value.ref b] s) (F0 m 163 ls []) := by
  have hx := hF.1.1
  have hb := hF.1.2.1
  have hA : ∀ q, s.heap.size ≤ q → lA s q := fun q h => h
  refine lv_aload_n hx hb dL_law_163 rfl (lv_at hl 2 rfl) ?_
  refine lv_aload_n hx hb dL_law_164 rfl (lv_at hl 3 rfl) ?_
  refine lv_iload_n hx hb dL_law_165 rfl (lv_at hl 0 rfl) ?_
  refine lv_iconst (v := 1) hx hb dL_law_166 (by decide) ?_
  refine lv_iadd hx hb dL_law_167 ?_
  refine r_sld (v := xs 1) hF hX hbl hS (by unfold vp_in; decide) rfl dL_law_168 ?_
  refine r_cAI (v := (tapeA (xs 1))) (wc := (hW t dd xx a fc fl fd fw fr T)) (X := (mW t mm Lm sr)) (As := [.int (xs 1)]) (rest := []) hF mv_L_18 ci_X11 (c_X11_cut l D t dd xx a fc fl fd fw fr T (xs 1) _) dL_law_169 rfl rfl (Nat.le_of_ble_eq_true rfl |> fun h => ⟨h, Nat.le_of_ble_eq_true rfl⟩) rfl hl.1 (Nat.le_of_ble_eq_true rfl) hP hD hS hA (q0 := 23) rfl ⟨hc, hs⟩ rfl (fun H locs hP hS => ?_)
  have hD := D_right hD
  have hP : va_P D cl1 ((mW t mm Lm sr) ++ ([] : va_W)) H := by rw [List.append_nil]; exact hP
  have hD : va_D (lA s) ((mW t mm Lm sr) ++ ([] : va_W)) := by rw [List.append_nil]; exact hD
  refine lv_aload_n hx hb dL_law_172 rfl (lv_at hl 1 rfl) ?_
  refine lv_aload_n hx hb dL_law_173 rfl (lv_at hl 3 rfl) ?_
  refine lv_iload_n hx hb dL_law_174 rfl (lv_at hl 0 rfl) ?_
  refine lv_iconst (v := 1) hx hb dL_law_175 (by decide) ?_
  refine lv_iadd hx hb dL_law_176 ?_
  refine r_sld (v := xs 1) hF hX hbl hS (by unfold vp_in; decide) rfl dL_law_177 ?_
  refine r_cAI (v := (tapeA (xs 1))) (wc := (mW t mm Lm sr)) (X := []) (As := [.int (xs 1)]) (rest := [.int (tapeA (xs 1))]) hF mv_L_22 ci_X12 (c_X12_cut l D t mm Lm sr (xs 1) _) dL_law_178 rfl rfl (Nat.le_of_ble_eq_true rfl |> fun h => ⟨h, Nat.le_of_ble_eq_true rfl⟩) rfl hl.1 (Nat.le_of_ble_eq_true rfl) hP hD hS hA (q0 := 0) rfl ⟨hc, hs⟩ rfl (fun H locs hP hS => ?_)
  refine lv_icmp_eq (tgt := 449) hx hb dL_law_181 rfl (fun _ => ?_) (fun h => absurd rfl h)
  exact law_tail hF hr hlk hX hbl hl hS hc hs
set_option maxRecDepth 100000 in
set_option maxHeartbeats 4000000 in
theorem law_share {p : Program} {l : Launch} {e : Env} {s : State} {m : MethodId} {below : List Frame} {meth : Method} {c : Code} {H : Heap} {locs : List Loc} {cells slots : Nat} {ls : Array Slot} {D : va_G} {t : Nat → ClassId} {b : Nat} {xx mm : Nat} {xs : Nat → Int32} (hF : FX p m c code 4 s #[Value.ref b] RL D t) (hr : meth.sig.returnType = ret) (hlk : meth.locks = false) (hX : va_X b 6 xs s s.heap) (hbl : b < s.heap.size) (a : Nat → Nat) (fc fl fd fw : Nat → Option Nat) (fr : Nat → Int32) (T : va_W) (Lm : Nat → Nat) (sr : Nat → Int32) (dd : Nat) (hcn : connsIn t T fc 6) (hnl : nodesIn t T fl 80) (hnd : nodesIn t T fd 80) (hfr : ∀ i, i < 4 → fr i = -1) (hsr : ∀ i, i < 4 → sr i = -1) (hl : lv_has ls 4 [(3, .int 0), (2, .ref mm), (1, .ref xx), (0, .ref b)]) (hP : va_P D cl1 ((hW t dd xx a fc fl fd fw fr T) ++ (mW t mm Lm sr)) H) (hD : va_D (lA s) ((hW t dd xx a fc fl fd fw fr T) ++ (mW t mm Lm sr))) (hS : va_S (lA s) s.heap H locs) (hc : cells ≤ 600000) (hs : slots ≤ 7302250) : W p l e room_1 s m #[Value.ref b] below meth c H locs cells slots (lw_Z below #[Value.ref b] s) (F0 m 186 ls []) := by
  have hx := hF.1.1
  have hb := hF.1.2.1
  have hA : ∀ q, s.heap.size ≤ q → lA s q := fun q h => h
  refine lv_aload_n hx hb dL_law_186 rfl (lv_at hl 2 rfl) ?_
  refine lv_aload_n hx hb dL_law_187 rfl (lv_at hl 3 rfl) ?_
  refine lv_iload_n hx hb dL_law_188 rfl (lv_at hl 0 rfl) ?_
  refine lv_iconst (v := 1) hx hb dL_law_189 (by decide) ?_
  refine lv_iadd hx hb dL_law_190 ?_
  refine r_sld (v := xs 1) hF hX hbl hS (by unfold vp_in; decide) rfl dL_law_191 ?_
  refine r_cAI (v := 0) (wc := (hW t dd xx a fc fl fd fw fr T)) (X := (mW t mm Lm sr)) (As := [.int (xs 1)]) (rest := []) hF mv_L_23 ci_X11 (c_X11_share l D t dd xx a fc fl fd fw fr T hfr (xs 1) _) dL_law_192 rfl rfl (Nat.le_of_ble_eq_true rfl |> fun h => ⟨h, Nat.le_of_ble_eq_true rfl⟩) rfl hl.1 (Nat.le_of_ble_eq_true rfl) hP hD hS hA (q0 := 23) rfl ⟨hc, hs⟩ rfl (fun H locs hP hS => ?_)
  have hD := D_right hD
  have hP : va_P D cl1 ((mW t mm Lm sr) ++ ([] : va_W)) H := by rw [List.append_nil]; exact hP
  have hD : va_D (lA s) ((mW t mm Lm sr) ++ ([] : va_W)) := by rw [List.append_nil]; exact hD
  refine lv_aload_n hx hb dL_law_195 rfl (lv_at hl 1 rfl) ?_
  refine lv_aload_n hx hb dL_law_196 rfl (lv_at hl 3 rfl) ?_
  refine lv_iload_n hx hb dL_law_197 rfl (lv_at hl 0 rfl) ?_
  refine lv_iconst (v := 1) hx hb dL_law_198 (by decide) ?_
  refine lv_iadd hx hb dL_law_199 ?_
  refine r_sld (v := xs 1) hF hX hbl hS (by unfold vp_in; decide) rfl dL_law_200 ?_
  refine r_cAI (v := 0) (wc := (mW t mm Lm sr)) (X := []) (As := [.int (xs 1)]) (rest := [.int 0]) hF mv_L_27 ci_X12 (c_X12_share l D t mm Lm sr hsr (xs 1) _) dL_law_201 rfl rfl (Nat.le_of_ble_eq_true rfl |> fun h => ⟨h, Nat.le_of_ble_eq_true rfl⟩) rfl hl.1 (Nat.le_of_ble_eq_true rfl) hP hD hS hA (q0 := 0) rfl ⟨hc, hs⟩ rfl (fun H locs hP hS => ?_)
  refine lv_icmp_eq (tgt := 449) hx hb dL_law_204 rfl (fun _ => ?_) (fun h => absurd rfl h)
  exact law_tail hF hr hlk hX hbl hl hS hc hs
set_option maxRecDepth 100000 in
set_option maxHeartbeats 4000000 in
theorem law_connect {p : Program} {l : Launch} {e : Env} {s : State} {m : MethodId} {below : List Frame} {meth : Method} {c : Code} {H : Heap} {locs : List Loc} {cells slots : Nat} {ls : Array Slot} {D : va_G} {t : Nat → ClassId} {b : Nat} {xx mm : Nat} {xs : Nat → Int32} (hF : FX p m c code 4 s #[Value.ref b] RL D t) (hr : meth.sig.returnType = ret) (hlk : meth.locks = false) (hX : va_X b 6 xs s s.heap) (hbl : b < s.heap.size) (a : Nat → Nat) (fc fl fd fw : Nat → Option Nat) (fr : Nat → Int32) (T : va_W) (Lm : Nat → Nat) (sr : Nat → Int32) (dd : Nat) (hcn : connsIn t T fc 6) (hnl : nodesIn t T fl 80) (hnd : nodesIn t T fd 80) (hfr : ∀ i, i < 4 → fr i = -1) (hsr : ∀ i, i < 4 → sr i = -1) (hl : lv_has ls 4 [(3, .int 0), (2, .ref mm), (1, .ref xx), (0, .ref b)]) (hP : va_P D cl1 ((hW t dd xx a fc fl fd fw fr T) ++ (mW t mm Lm sr)) H) (hD : va_D (lA s) ((hW t dd xx a fc fl fd fw fr T) ++ (mW t mm Lm sr))) (hS : va_S (lA s) s.heap H locs) (hc : cells ≤ 600000) (hs : slots ≤ 7302250) : W p l e room_1 s m #[Value.ref b] below meth c H locs cells slots (lw_Z below #[Value.ref b] s) (F0 m 209 ls []) := by
  have hx := hF.1.1
  have hb := hF.1.2.1
  have hA : ∀ q, s.heap.size ≤ q → lA s q := fun q h => h
  refine lv_aload_n hx hb dL_law_209 rfl (lv_at hl 2 rfl) ?_
  refine lv_aload_n hx hb dL_law_210 rfl (lv_at hl 3 rfl) ?_
  refine lv_iload_n hx hb dL_law_211 rfl (lv_at hl 0 rfl) ?_
  refine lv_iconst (v := 1) hx hb dL_law_212 (by decide) ?_
  refine lv_iadd hx hb dL_law_213 ?_
  refine r_sld (v := xs 1) hF hX hbl hS (by unfold vp_in; decide) rfl dL_law_214 ?_
  refine r_cAI (v := (lineA (xs 1) 1 0)) (wc := (hW t dd xx a fc fl fd fw fr T)) (X := (mW t mm Lm sr)) (As := [.int (xs 1)]) (rest := []) hF mv_L_28 ci_X11 (c_X11_connect l D t dd xx a fc fl fd fw fr T hcn (xs 1) _) dL_law_215 rfl rfl (Nat.le_of_ble_eq_true rfl |> fun h => ⟨h, Nat.le_of_ble_eq_true rfl⟩) rfl hl.1 (Nat.le_of_ble_eq_true rfl) hP hD hS hA (q0 := 23) rfl ⟨hc, hs⟩ rfl (fun H locs hP hS => ?_)
  have hD := D_right hD
  have hP : va_P D cl1 ((mW t mm Lm sr) ++ ([] : va_W)) H := by rw [List.append_nil]; exact hP
  have hD : va_D (lA s) ((mW t mm Lm sr) ++ ([] : va_W)) := by rw [List.append_nil]; exact hD
  refine lv_aload_n hx hb dL_law_218 rfl (lv_at hl 1 rfl) ?_
  refine lv_aload_n hx hb dL_law_219 rfl (lv_at hl 3 rfl) ?_
  refine lv_iload_n hx hb dL_law_220 rfl (lv_at hl 0 rfl) ?_
  refine lv_iconst (v := 1) hx hb dL_law_221 (by decide) ?_
  refine lv_iadd hx hb dL_law_222 ?_
  refine r_sld (v := xs 1) hF hX hbl hS (by unfold vp_in; decide) rfl dL_law_223 ?_
  refine r_cAI (v := (lineA (xs 1) 1 0)) (wc := (mW t mm Lm sr)) (X := []) (As := [.int (xs 1)]) (rest := [.int (lineA (xs 1) 1 0)]) hF mv_L_31 ci_X12 (c_X12_connect l D t mm Lm sr (xs 1) _) dL_law_224 rfl rfl (Nat.le_of_ble_eq_true rfl |> fun h => ⟨h, Nat.le_of_ble_eq_true rfl⟩) rfl hl.1 (Nat.le_of_ble_eq_true rfl) hP hD hS hA (q0 := 0) rfl ⟨hc, hs⟩ rfl (fun H locs hP hS => ?_)
  refine lv_icmp_eq (tgt := 449) hx hb dL_law_227 rfl (fun _ => ?_) (fun h => absurd rfl h)
  exact law_tail hF hr hlk hX hbl hl hS hc hs
set_option maxRecDepth 100000 in
set_option maxHeartbeats 4000000 in
theorem law_hang {p : Program} {l : Launch} {e : Env} {s : State} {m : MethodId} {below : List Frame} {meth : Method} {c : Code} {H : Heap} {locs : List Loc} {cells slots : Nat} {ls : Array Slot} {D : va_G} {t : Nat → ClassId} {b : Nat} {xx mm : Nat} {xs : Nat → Int32} (hF : FX p m c code 4 s #[Value.ref b] RL D t) (hr : meth.sig.returnType = ret) (hlk : meth.locks = false) (hX : va_X b 6 xs s s.heap) (hbl : b < s.heap.size) (a : Nat → Nat) (fc fl fd fw : Nat → Option Nat) (fr : Nat → Int32) (T : va_W) (Lm : Nat → Nat) (sr : Nat → Int32) (dd : Nat) (hcn : connsIn t T fc 6) (hnl : nodesIn t T fl 80) (hnd : nodesIn t T fd 80) (hfr : ∀ i, i < 4 → fr i = -1) (hsr : ∀ i, i < 4 → sr i = -1) (hl : lv_has ls 4 [(3, .int 0), (2, .ref mm), (1, .ref xx), (0, .ref b)]) (hP : va_P D cl1 ((hW t dd xx a fc fl fd fw fr T) ++ (mW t mm Lm sr)) H) (hD : va_D (lA s) ((hW t dd xx a fc fl fd fw fr T) ++ (mW t mm Lm sr))) (hS : va_S (lA s) s.heap H locs) (hc : cells ≤ 600000) (hs : slots ≤ 7302250) : W p l e room_1 s m #[Value.ref b] below meth c H locs cells slots (lw_Z below #[Value.ref b] s) (F0 m 232 ls []) := by
  have hx := hF.1.1
  have hb := hF.1.2.1
  have hA : ∀ q, s.heap.size ≤ q → lA s q := fun q h => h
  refine lv_aload_n hx hb dL_law_232 rfl (lv_at hl 2 rfl) ?_
  refine lv_aload_n hx hb dL_law_233 rfl (lv_at hl 3 rfl) ?_
  refine lv_iload_n hx hb dL_law_234 rfl (lv_at hl 0 rfl) ?_
  refine lv_iconst (v := 1) hx hb dL_law_235 (by decide) ?_
  refine lv_iadd hx hb dL_law_236 ?_
  refine r_sld (v := xs 1) hF hX hbl hS (by unfold vp_in; decide) rfl dL_law_237 ?_
  refine r_cAI (v := 0) (wc := (hW t dd xx a fc fl fd fw fr T)) (X := (mW t mm Lm sr)) (As := [.int (xs 1)]) (rest := []) hF mv_L_32 ci_X11 (c_X11_hang l D t dd xx a fc fl fd fw fr T hcn (xs 1) _) dL_law_238 rfl rfl (Nat.le_of_ble_eq_true rfl |> fun h => ⟨h, Nat.le_of_ble_eq_true rfl⟩) rfl hl.1 (Nat.le_of_ble_eq_true rfl) hP hD hS hA (q0 := 23) rfl ⟨hc, hs⟩ rfl (fun H locs hP hS => ?_)
  have hD := D_right hD
  have hP : va_P D cl1 ((mW t mm Lm sr) ++ ([] : va_W)) H := by rw [List.append_nil]; exact hP
  have hD : va_D (lA s) ((mW t mm Lm sr) ++ ([] : va_W)) := by rw [List.append_nil]; exact hD
  refine lv_aload_n hx hb dL_law_241 rfl (lv_at hl 1 rfl) ?_
  refine lv_aload_n hx hb dL_law_242 rfl (lv_at hl 3 rfl) ?_
  refine lv_iload_n hx hb dL_law_243 rfl (lv_at hl 0 rfl) ?_
  refine lv_iconst (v := 1) hx hb dL_law_244 (by decide) ?_
  refine lv_iadd hx hb dL_law_245 ?_
  refine r_sld (v := xs 1) hF hX hbl hS (by unfold vp_in; decide) rfl dL_law_246 ?_
  refine r_cAI (v := 0) (wc := (mW t mm Lm sr)) (X := []) (As := [.int (xs 1)]) (rest := [.int 0]) hF mv_L_35 ci_X12 (c_X12_hang l D t mm Lm sr (xs 1) _) dL_law_247 rfl rfl (Nat.le_of_ble_eq_true rfl |> fun h => ⟨h, Nat.le_of_ble_eq_true rfl⟩) rfl hl.1 (Nat.le_of_ble_eq_true rfl) hP hD hS hA (q0 := 0) rfl ⟨hc, hs⟩ rfl (fun H locs hP hS => ?_)
  refine lv_icmp_eq (tgt := 449) hx hb dL_law_250 rfl (fun _ => ?_) (fun h => absurd rfl h)
  exact law_tail hF hr hlk hX hbl hl hS hc hs
set_option maxRecDepth 100000 in
set_option maxHeartbeats 4000000 in
theorem law_come {p : Program} {l : Launch} {e : Env} {s : State} {m : MethodId} {below : List Frame} {meth : Method} {c : Code} {H : Heap} {locs : List Loc} {cells slots : Nat} {ls : Array Slot} {D : va_G} {t : Nat → ClassId} {b : Nat} {xx mm : Nat} {xs : Nat → Int32} (hF : FX p m c code 4 s #[Value.ref b] RL D t) (hr : meth.sig.returnType = ret) (hlk : meth.locks = false) (hX : va_X b 6 xs s s.heap) (hbl : b < s.heap.size) (a : Nat → Nat) (fc fl fd fw : Nat → Option Nat) (fr : Nat → Int32) (T : va_W) (Lm : Nat → Nat) (sr : Nat → Int32) (dd : Nat) (hcn : connsIn t T fc 6) (hnl : nodesIn t T fl 80) (hnd : nodesIn t T fd 80) (hfr : ∀ i, i < 4 → fr i = -1) (hsr : ∀ i, i < 4 → sr i = -1) (hl : lv_has ls 4 [(3, .int 0), (2, .ref mm), (1, .ref xx), (0, .ref b)]) (hP : va_P D cl1 ((hW t dd xx a fc fl fd fw fr T) ++ (mW t mm Lm sr)) H) (hD : va_D (lA s) ((hW t dd xx a fc fl fd fw fr T) ++ (mW t mm Lm sr))) (hS : va_S (lA s) s.heap H locs) (hc : cells ≤ 600000) (hs : slots ≤ 7302250) : W p l e room_1 s m #[Value.ref b] below meth c H locs cells slots (lw_Z below #[Value.ref b] s) (F0 m 255 ls []) := by
  have hx := hF.1.1
  have hb := hF.1.2.1
  have hA : ∀ q, s.heap.size ≤ q → lA s q := fun q h => h
  refine lv_aload_n hx hb dL_law_255 rfl (lv_at hl 2 rfl) ?_
  refine lv_aload_n hx hb dL_law_256 rfl (lv_at hl 3 rfl) ?_
  refine lv_iload_n hx hb dL_law_257 rfl (lv_at hl 0 rfl) ?_
  refine lv_iconst (v := 1) hx hb dL_law_258 (by decide) ?_
  refine lv_iadd hx hb dL_law_259 ?_
  refine r_sld (v := xs 1) hF hX hbl hS (by unfold vp_in; decide) rfl dL_law_260 ?_
  refine r_cAI (v := (-1)) (wc := (hW t dd xx a fc fl fd fw fr T)) (X := (mW t mm Lm sr)) (As := [.int (xs 1)]) (rest := []) hF mv_L_36 ci_X11 (c_X11_come l D t dd xx a fc fl fd fw fr T hcn (xs 1) _) dL_law_261 rfl rfl (Nat.le_of_ble_eq_true rfl |> fun h => ⟨h, Nat.le_of_ble_eq_true rfl⟩) rfl hl.1 (Nat.le_of_ble_eq_true rfl) hP hD hS hA (q0 := 23) rfl ⟨hc, hs⟩ rfl (fun H locs hP hS => ?_)
  have hD := D_right hD
  have hP : va_P D cl1 ((mW t mm Lm sr) ++ ([] : va_W)) H := by rw [List.append_nil]; exact hP
  have hD : va_D (lA s) ((mW t mm Lm sr) ++ ([] : va_W)) := by rw [List.append_nil]; exact hD
  refine lv_aload_n hx hb dL_law_264 rfl (lv_at hl 1 rfl) ?_
  refine lv_aload_n hx hb dL_law_265 rfl (lv_at hl 3 rfl) ?_
  refine lv_iload_n hx hb dL_law_266 rfl (lv_at hl 0 rfl) ?_
  refine lv_iconst (v := 1) hx hb dL_law_267 (by decide) ?_
  refine lv_iadd hx hb dL_law_268 ?_
  refine r_sld (v := xs 1) hF hX hbl hS (by unfold vp_in; decide) rfl dL_law_269 ?_
  refine r_cAI (v := (-1)) (wc := (mW t mm Lm sr)) (X := []) (As := [.int (xs 1)]) (rest := [.int (-1)]) hF mv_L_39 ci_X12 (c_X12_come_ l D t mm Lm sr (xs 1) _) dL_law_270 rfl rfl (Nat.le_of_ble_eq_true rfl |> fun h => ⟨h, Nat.le_of_ble_eq_true rfl⟩) rfl hl.1 (Nat.le_of_ble_eq_true rfl) hP hD hS hA (q0 := 0) rfl ⟨hc, hs⟩ rfl (fun H locs hP hS => ?_)
  refine lv_icmp_eq (tgt := 449) hx hb dL_law_273 rfl (fun _ => ?_) (fun h => absurd rfl h)
  exact law_tail hF hr hlk hX hbl hl hS hc hs
set_option maxRecDepth 100000 in
set_option maxHeartbeats 4000000 in
theorem law_isOpen {p : Program} {l : Launch} {e : Env} {s : State} {m : MethodId} {below : List Frame} {meth : Method} {c : Code} {H : Heap} {locs : List Loc} {cells slots : Nat} {ls : Array Slot} {D : va_G} {t : Nat → ClassId} {b : Nat} {xx mm : Nat} {xs : Nat → Int32} (hF : FX p m c code 4 s #[Value.ref b] RL D t) (hr : meth.sig.returnType = ret) (hlk : meth.locks = false) (hX : va_X b 6 xs s s.heap) (hbl : b < s.heap.size) (a : Nat → Nat) (fc fl fd fw : Nat → Option Nat) (fr : Nat → Int32) (T : va_W) (Lm : Nat → Nat) (sr : Nat → Int32) (dd : Nat) (hcn : connsIn t T fc 6) (hnl : nodesIn t T fl 80) (hnd : nodesIn t T fd 80) (hfr : ∀ i, i < 4 → fr i = -1) (hsr : ∀ i, i < 4 → sr i = -1) (hl : lv_has ls 4 [(3, .int 0), (2, .ref mm), (1, .ref xx), (0, .ref b)]) (hP : va_P D cl1 ((hW t dd xx a fc fl fd fw fr T) ++ (mW t mm Lm sr)) H) (hD : va_D (lA s) ((hW t dd xx a fc fl fd fw fr T) ++ (mW t mm Lm sr))) (hS : va_S (lA s) s.heap H locs) (hc : cells ≤ 600000) (hs : slots ≤ 7302250) : W p l e room_1 s m #[Value.ref b] below meth c H locs cells slots (lw_Z below #[Value.ref b] s) (F0 m 278 ls []) := by
  have hx := hF.1.1
  have hb := hF.1.2.1
  have hA : ∀ q, s.heap.size ≤ q → lA s q := fun q h => h
  refine lv_aload_n hx hb dL_law_278 rfl (lv_at hl 2 rfl) ?_
  refine lv_aload_n hx hb dL_law_279 rfl (lv_at hl 3 rfl) ?_
  refine lv_iload_n hx hb dL_law_280 rfl (lv_at hl 0 rfl) ?_
  refine lv_iconst (v := 1) hx hb dL_law_281 (by decide) ?_
  refine lv_iadd hx hb dL_law_282 ?_
  refine r_sld (v := xs 1) hF hX hbl hS (by unfold vp_in; decide) rfl dL_law_283 ?_
  refine r_cAI (v := 0) (wc := (hW t dd xx a fc fl fd fw fr T)) (X := (mW t mm Lm sr)) (As := [.int (xs 1)]) (rest := []) hF mv_L_40 ci_X11 (c_X11_isOpen l D t dd xx a fc fl fd fw fr T hcn (xs 1) _) dL_law_284 rfl rfl (Nat.le_of_ble_eq_true rfl |> fun h => ⟨h, Nat.le_of_ble_eq_true rfl⟩) rfl hl.1 (Nat.le_of_ble_eq_true rfl) hP hD hS hA (q0 := 23) rfl ⟨hc, hs⟩ rfl (fun H locs hP hS => ?_)
  have hD := D_right hD
  have hP : va_P D cl1 ((mW t mm Lm sr) ++ ([] : va_W)) H := by rw [List.append_nil]; exact hP
  have hD : va_D (lA s) ((mW t mm Lm sr) ++ ([] : va_W)) := by rw [List.append_nil]; exact hD
  refine lv_aload_n hx hb dL_law_287 rfl (lv_at hl 1 rfl) ?_
  refine lv_aload_n hx hb dL_law_288 rfl (lv_at hl 3 rfl) ?_
  refine lv_iload_n hx hb dL_law_289 rfl (lv_at hl 0 rfl) ?_
  refine lv_iconst (v := 1) hx hb dL_law_290 (by decide) ?_
  refine lv_iadd hx hb dL_law_291 ?_
  refine r_sld (v := xs 1) hF hX hbl hS (by unfold vp_in; decide) rfl dL_law_292 ?_
  refine r_cAI (v := 0) (wc := (mW t mm Lm sr)) (X := []) (As := [.int (xs 1)]) (rest := [.int 0]) hF mv_L_43 ci_X12 (c_X12_isOpen l D t mm Lm sr (xs 1) _) dL_law_293 rfl rfl (Nat.le_of_ble_eq_true rfl |> fun h => ⟨h, Nat.le_of_ble_eq_true rfl⟩) rfl hl.1 (Nat.le_of_ble_eq_true rfl) hP hD hS hA (q0 := 0) rfl ⟨hc, hs⟩ rfl (fun H locs hP hS => ?_)
  refine lv_icmp_eq (tgt := 449) hx hb dL_law_296 rfl (fun _ => ?_) (fun h => absurd rfl h)
  exact law_tail hF hr hlk hX hbl hl hS hc hs
set_option maxRecDepth 100000 in
set_option maxHeartbeats 4000000 in
theorem law_tick {p : Program} {l : Launch} {e : Env} {s : State} {m : MethodId} {below : List Frame} {meth : Method} {c : Code} {H : Heap} {locs : List Loc} {cells slots : Nat} {ls : Array Slot} {D : va_G} {t : Nat → ClassId} {b : Nat} {xx mm : Nat} {xs : Nat → Int32} (hF : FX p m c code 4 s #[Value.ref b] RL D t) (hr : meth.sig.returnType = ret) (hlk : meth.locks = false) (hX : va_X b 6 xs s s.heap) (hbl : b < s.heap.size) (a : Nat → Nat) (fc fl fd fw : Nat → Option Nat) (fr : Nat → Int32) (T : va_W) (Lm : Nat → Nat) (sr : Nat → Int32) (dd : Nat) (hcn : connsIn t T fc 6) (hnl : nodesIn t T fl 80) (hnd : nodesIn t T fd 80) (hfr : ∀ i, i < 4 → fr i = -1) (hsr : ∀ i, i < 4 → sr i = -1) (hl : lv_has ls 4 [(3, .int 0), (2, .ref mm), (1, .ref xx), (0, .ref b)]) (hP : va_P D cl1 ((hW t dd xx a fc fl fd fw fr T) ++ (mW t mm Lm sr)) H) (hD : va_D (lA s) ((hW t dd xx a fc fl fd fw fr T) ++ (mW t mm Lm sr))) (hS : va_S (lA s) s.heap H locs) (hc : cells ≤ 600000) (hs : slots ≤ 7302250) : W p l e room_1 s m #[Value.ref b] below meth c H locs cells slots (lw_Z below #[Value.ref b] s) (F0 m 301 ls []) := by
  have hx := hF.1.1
  have hb := hF.1.2.1
  have hA : ∀ q, s.heap.size ≤ q → lA s q := fun q h => h
  refine lv_aload_n hx hb dL_law_301 rfl (lv_at hl 2 rfl) ?_
  refine lv_aload_n hx hb dL_law_302 rfl (lv_at hl 3 rfl) ?_
  refine lv_iload_n hx hb dL_law_303 rfl (lv_at hl 0 rfl) ?_
  refine lv_iconst (v := 1) hx hb dL_law_304 (by decide) ?_
  refine lv_iadd hx hb dL_law_305 ?_
  refine r_sld (v := xs 1) hF hX hbl hS (by unfold vp_in; decide) rfl dL_law_306 ?_
  refine r_cAI (v := (tickA (xs 1))) (wc := (hW t dd xx a fc fl fd fw fr T)) (X := (mW t mm Lm sr)) (As := [.int (xs 1)]) (rest := []) hF mv_L_44 ci_X11 (c_X11_tick l D t dd xx a fc fl fd fw fr T (xs 1) _) dL_law_307 rfl rfl (Nat.le_of_ble_eq_true rfl |> fun h => ⟨h, Nat.le_of_ble_eq_true rfl⟩) rfl hl.1 (Nat.le_of_ble_eq_true rfl) hP hD hS hA (q0 := 23) rfl ⟨hc, hs⟩ rfl (fun H locs hP hS => ?_)
  have hD := D_right hD
  have hP : va_P D cl1 ((mW t mm Lm sr) ++ ([] : va_W)) H := by rw [List.append_nil]; exact hP
  have hD : va_D (lA s) ((mW t mm Lm sr) ++ ([] : va_W)) := by rw [List.append_nil]; exact hD
  refine lv_aload_n hx hb dL_law_310 rfl (lv_at hl 1 rfl) ?_
  refine lv_aload_n hx hb dL_law_311 rfl (lv_at hl 3 rfl) ?_
  refine lv_iload_n hx hb dL_law_312 rfl (lv_at hl 0 rfl) ?_
  refine lv_iconst (v := 1) hx hb dL_law_313 (by decide) ?_
  refine lv_iadd hx hb dL_law_314 ?_
  refine r_sld (v := xs 1) hF hX hbl hS (by unfold vp_in; decide) rfl dL_law_315 ?_
  refine r_cAI (v := (tickA (xs 1))) (wc := (mW t mm Lm sr)) (X := []) (As := [.int (xs 1)]) (rest := [.int (tickA (xs 1))]) hF mv_L_47 ci_X12 (c_X12_tick l D t mm Lm sr (xs 1) _) dL_law_316 rfl rfl (Nat.le_of_ble_eq_true rfl |> fun h => ⟨h, Nat.le_of_ble_eq_true rfl⟩) rfl hl.1 (Nat.le_of_ble_eq_true rfl) hP hD hS hA (q0 := 0) rfl ⟨hc, hs⟩ rfl (fun H locs hP hS => ?_)
  refine lv_icmp_eq (tgt := 449) hx hb dL_law_319 rfl (fun _ => ?_) (fun h => absurd rfl h)
  exact law_tail hF hr hlk hX hbl hl hS hc hs
set_option maxRecDepth 100000 in
set_option maxHeartbeats 4000000 in
theorem law_crash {p : Program} {l : Launch} {e : Env} {s : State} {m : MethodId} {below : List Frame} {meth : Method} {c : Code} {H : Heap} {locs : List Loc} {cells slots : Nat} {ls : Array Slot} {D : va_G} {t : Nat → ClassId} {b : Nat} {xx mm : Nat} {xs : Nat → Int32} (hF : FX p m c code 4 s #[Value.ref b] RL D t) (hr : meth.sig.returnType = ret) (hlk : meth.locks = false) (hX : va_X b 6 xs s s.heap) (hbl : b < s.heap.size) (a : Nat → Nat) (fc fl fd fw : Nat → Option Nat) (fr : Nat → Int32) (T : va_W) (Lm : Nat → Nat) (sr : Nat → Int32) (dd : Nat) (hcn : connsIn t T fc 6) (hnl : nodesIn t T fl 80) (hnd : nodesIn t T fd 80) (hfr : ∀ i, i < 4 → fr i = -1) (hsr : ∀ i, i < 4 → sr i = -1) (hl : lv_has ls 4 [(3, .int 0), (2, .ref mm), (1, .ref xx), (0, .ref b)]) (hP : va_P D cl1 ((hW t dd xx a fc fl fd fw fr T) ++ (mW t mm Lm sr)) H) (hD : va_D (lA s) ((hW t dd xx a fc fl fd fw fr T) ++ (mW t mm Lm sr))) (hS : va_S (lA s) s.heap H locs) (hc : cells ≤ 600000) (hs : slots ≤ 7302250) : W p l e room_1 s m #[Value.ref b] below meth c H locs cells slots (lw_Z below #[Value.ref b] s) (F0 m 324 ls []) := by
  have hx := hF.1.1
  have hb := hF.1.2.1
  have hA : ∀ q, s.heap.size ≤ q → lA s q := fun q h => h
  refine lv_aload_n hx hb dL_law_324 rfl (lv_at hl 2 rfl) ?_
  refine lv_aload_n hx hb dL_law_325 rfl (lv_at hl 3 rfl) ?_
  refine lv_iload_n hx hb dL_law_326 rfl (lv_at hl 0 rfl) ?_
  refine lv_iconst (v := 1) hx hb dL_law_327 (by decide) ?_
  refine lv_iadd hx hb dL_law_328 ?_
  refine r_sld (v := xs 1) hF hX hbl hS (by unfold vp_in; decide) rfl dL_law_329 ?_
  refine r_cAI (v := (tapeA (xs 1))) (wc := (hW t dd xx a fc fl fd fw fr T)) (X := (mW t mm Lm sr)) (As := [.int (xs 1)]) (rest := []) hF mv_L_48 ci_X11 (c_X11_crash l D t dd xx a fc fl fd fw fr T hcn hnl hnd (xs 1) _) dL_law_330 rfl rfl (Nat.le_of_ble_eq_true rfl |> fun h => ⟨h, Nat.le_of_ble_eq_true rfl⟩) rfl hl.1 (Nat.le_of_ble_eq_true rfl) hP hD hS hA (q0 := 23) rfl ⟨hc, hs⟩ rfl (fun H locs hP hS => ?_)
  have hD := D_right hD
  have hP : va_P D cl1 ((mW t mm Lm sr) ++ ([] : va_W)) H := by rw [List.append_nil]; exact hP
  have hD : va_D (lA s) ((mW t mm Lm sr) ++ ([] : va_W)) := by rw [List.append_nil]; exact hD
  refine lv_aload_n hx hb dL_law_333 rfl (lv_at hl 1 rfl) ?_
  refine lv_aload_n hx hb dL_law_334 rfl (lv_at hl 3 rfl) ?_
  refine lv_iload_n hx hb dL_law_335 rfl (lv_at hl 0 rfl) ?_
  refine lv_iconst (v := 1) hx hb dL_law_336 (by decide) ?_
  refine lv_iadd hx hb dL_law_337 ?_
  refine r_sld (v := xs 1) hF hX hbl hS (by unfold vp_in; decide) rfl dL_law_338 ?_
  refine r_cAI (v := (tapeA (xs 1))) (wc := (mW t mm Lm sr)) (X := []) (As := [.int (xs 1)]) (rest := [.int (tapeA (xs 1))]) hF mv_L_51 ci_X12 (c_X12_crash l D t mm Lm sr (xs 1) _) dL_law_339 rfl rfl (Nat.le_of_ble_eq_true rfl |> fun h => ⟨h, Nat.le_of_ble_eq_true rfl⟩) rfl hl.1 (Nat.le_of_ble_eq_true rfl) hP hD hS hA (q0 := 0) rfl ⟨hc, hs⟩ rfl (fun H locs hP hS => ?_)
  refine lv_icmp_eq (tgt := 449) hx hb dL_law_342 rfl (fun _ => ?_) (fun h => absurd rfl h)
  exact law_tail hF hr hlk hX hbl hl hS hc hs
set_option maxRecDepth 100000 in
set_option maxHeartbeats 4000000 in
theorem law_outs {p : Program} {l : Launch} {e : Env} {s : State} {m : MethodId} {below : List Frame} {meth : Method} {c : Code} {H : Heap} {locs : List Loc} {cells slots : Nat} {ls : Array Slot} {D : va_G} {t : Nat → ClassId} {b : Nat} {xx mm : Nat} {xs : Nat → Int32} (hF : FX p m c code 4 s #[Value.ref b] RL D t) (hr : meth.sig.returnType = ret) (hlk : meth.locks = false) (hX : va_X b 6 xs s s.heap) (hbl : b < s.heap.size) (a : Nat → Nat) (fc fl fd fw : Nat → Option Nat) (fr : Nat → Int32) (T : va_W) (Lm : Nat → Nat) (sr : Nat → Int32) (dd : Nat) (hcn : connsIn t T fc 6) (hnl : nodesIn t T fl 80) (hnd : nodesIn t T fd 80) (hfr : ∀ i, i < 4 → fr i = -1) (hsr : ∀ i, i < 4 → sr i = -1) (hl : lv_has ls 4 [(3, .int 0), (2, .ref mm), (1, .ref xx), (0, .ref b)]) (hP : va_P D cl1 ((hW t dd xx a fc fl fd fw fr T) ++ (mW t mm Lm sr)) H) (hD : va_D (lA s) ((hW t dd xx a fc fl fd fw fr T) ++ (mW t mm Lm sr))) (hS : va_S (lA s) s.heap H locs) (hc : cells ≤ 600000) (hs : slots ≤ 7302250) : W p l e room_1 s m #[Value.ref b] below meth c H locs cells slots (lw_Z below #[Value.ref b] s) (F0 m 347 ls []) := by
  have hx := hF.1.1
  have hb := hF.1.2.1
  have hA : ∀ q, s.heap.size ≤ q → lA s q := fun q h => h
  refine lv_aload_n hx hb dL_law_347 rfl (lv_at hl 2 rfl) ?_
  refine lv_aload_n hx hb dL_law_348 rfl (lv_at hl 3 rfl) ?_
  refine lv_iload_n hx hb dL_law_349 rfl (lv_at hl 0 rfl) ?_
  refine lv_iconst (v := 1) hx hb dL_law_350 (by decide) ?_
  refine lv_iadd hx hb dL_law_351 ?_
  refine r_sld (v := xs 1) hF hX hbl hS (by unfold vp_in; decide) rfl dL_law_352 ?_
  refine r_cAI (v := (lineA (xs 1) 0 (-1))) (wc := (hW t dd xx a fc fl fd fw fr T)) (X := (mW t mm Lm sr)) (As := [.int (xs 1)]) (rest := []) hF mv_L_52 ci_X11 (c_X11_outs l D t dd xx a fc fl fd fw fr T hcn (xs 1) _) dL_law_353 rfl rfl (Nat.le_of_ble_eq_true rfl |> fun h => ⟨h, Nat.le_of_ble_eq_true rfl⟩) rfl hl.1 (Nat.le_of_ble_eq_true rfl) hP hD hS hA (q0 := 23) rfl ⟨hc, hs⟩ rfl (fun H locs hP hS => ?_)
  have hD := D_right hD
  have hP : va_P D cl1 ((mW t mm Lm sr) ++ ([] : va_W)) H := by rw [List.append_nil]; exact hP
  have hD : va_D (lA s) ((mW t mm Lm sr) ++ ([] : va_W)) := by rw [List.append_nil]; exact hD
  refine lv_aload_n hx hb dL_law_356 rfl (lv_at hl 1 rfl) ?_
  refine lv_aload_n hx hb dL_law_357 rfl (lv_at hl 3 rfl) ?_
  refine lv_iload_n hx hb dL_law_358 rfl (lv_at hl 0 rfl) ?_
  refine lv_iconst (v := 1) hx hb dL_law_359 (by decide) ?_
  refine lv_iadd hx hb dL_law_360 ?_
  refine r_sld (v := xs 1) hF hX hbl hS (by unfold vp_in; decide) rfl dL_law_361 ?_
  refine r_cAI (v := (lineA (xs 1) 0 (-1))) (wc := (mW t mm Lm sr)) (X := []) (As := [.int (xs 1)]) (rest := [.int (lineA (xs 1) 0 (-1))]) hF mv_L_55 ci_X12 (c_X12_outs l D t mm Lm sr (xs 1) _) dL_law_362 rfl rfl (Nat.le_of_ble_eq_true rfl |> fun h => ⟨h, Nat.le_of_ble_eq_true rfl⟩) rfl hl.1 (Nat.le_of_ble_eq_true rfl) hP hD hS hA (q0 := 0) rfl ⟨hc, hs⟩ rfl (fun H locs hP hS => ?_)
  refine lv_icmp_eq (tgt := 449) hx hb dL_law_365 rfl (fun _ => ?_) (fun h => absurd rfl h)
  exact law_tail hF hr hlk hX hbl hl hS hc hs
set_option maxRecDepth 100000 in
set_option maxHeartbeats 4000000 in
theorem law_out {p : Program} {l : Launch} {e : Env} {s : State} {m : MethodId} {below : List Frame} {meth : Method} {c : Code} {H : Heap} {locs : List Loc} {cells slots : Nat} {ls : Array Slot} {D : va_G} {t : Nat → ClassId} {b : Nat} {xx mm : Nat} {xs : Nat → Int32} (hF : FX p m c code 4 s #[Value.ref b] RL D t) (hr : meth.sig.returnType = ret) (hlk : meth.locks = false) (hX : va_X b 6 xs s s.heap) (hbl : b < s.heap.size) (a : Nat → Nat) (fc fl fd fw : Nat → Option Nat) (fr : Nat → Int32) (T : va_W) (Lm : Nat → Nat) (sr : Nat → Int32) (dd : Nat) (hcn : connsIn t T fc 6) (hnl : nodesIn t T fl 80) (hnd : nodesIn t T fd 80) (hfr : ∀ i, i < 4 → fr i = -1) (hsr : ∀ i, i < 4 → sr i = -1) (hl : lv_has ls 4 [(3, .int 0), (2, .ref mm), (1, .ref xx), (0, .ref b)]) (hP : va_P D cl1 ((hW t dd xx a fc fl fd fw fr T) ++ (mW t mm Lm sr)) H) (hD : va_D (lA s) ((hW t dd xx a fc fl fd fw fr T) ++ (mW t mm Lm sr))) (hS : va_S (lA s) s.heap H locs) (hc : cells ≤ 600000) (hs : slots ≤ 7302250) : W p l e room_1 s m #[Value.ref b] below meth c H locs cells slots (lw_Z below #[Value.ref b] s) (F0 m 370 ls []) := by
  have hx := hF.1.1
  have hb := hF.1.2.1
  have hA : ∀ q, s.heap.size ≤ q → lA s q := fun q h => h
  refine lv_aload_n hx hb dL_law_370 rfl (lv_at hl 2 rfl) ?_
  refine lv_aload_n hx hb dL_law_371 rfl (lv_at hl 3 rfl) ?_
  refine lv_iload_n hx hb dL_law_372 rfl (lv_at hl 0 rfl) ?_
  refine lv_iconst (v := 1) hx hb dL_law_373 (by decide) ?_
  refine lv_iadd hx hb dL_law_374 ?_
  refine r_sld (v := xs 1) hF hX hbl hS (by unfold vp_in; decide) rfl dL_law_375 ?_
  refine lv_aload_n hx hb dL_law_376 rfl (lv_at hl 3 rfl) ?_
  refine lv_iload_n hx hb dL_law_377 rfl (lv_at hl 0 rfl) ?_
  refine lv_iconst (v := 2) hx hb dL_law_378 (by decide) ?_
  refine lv_iadd hx hb dL_law_379 ?_
  refine r_sld (v := xs 2) hF hX hbl hS (by unfold vp_in; decide) rfl dL_law_380 ?_
  refine r_cAI (v := (-1)) (wc := (hW t dd xx a fc fl fd fw fr T)) (X := (mW t mm Lm sr)) (As := [.int (xs 1), .int (xs 2)]) (rest := []) hF mv_L_56 ci_X11 (c_X11_out l D t dd xx a fc fl fd fw fr T hcn (xs 1) (xs 2) _) dL_law_381 rfl rfl (Nat.le_of_ble_eq_true rfl |> fun h => ⟨h, Nat.le_of_ble_eq_true rfl⟩) rfl hl.1 (Nat.le_of_ble_eq_true rfl) hP hD hS hA (q0 := 23) rfl ⟨hc, hs⟩ rfl (fun H locs hP hS => ?_)
  have hD := D_right hD
  have hP : va_P D cl1 ((mW t mm Lm sr) ++ ([] : va_W)) H := by rw [List.append_nil]; exact hP
  have hD : va_D (lA s) ((mW t mm Lm sr) ++ ([] : va_W)) := by rw [List.append_nil]; exact hD
  refine lv_aload_n hx hb dL_law_384 rfl (lv_at hl 1 rfl) ?_
  refine lv_aload_n hx hb dL_law_385 rfl (lv_at hl 3 rfl) ?_
  refine lv_iload_n hx hb dL_law_386 rfl (lv_at hl 0 rfl) ?_
  refine lv_iconst (v := 1) hx hb dL_law_387 (by decide) ?_
  refine lv_iadd hx hb dL_law_388 ?_
  refine r_sld (v := xs 1) hF hX hbl hS (by unfold vp_in; decide) rfl dL_law_389 ?_
  refine lv_aload_n hx hb dL_law_390 rfl (lv_at hl 3 rfl) ?_
  refine lv_iload_n hx hb dL_law_391 rfl (lv_at hl 0 rfl) ?_
  refine lv_iconst (v := 2) hx hb dL_law_392 (by decide) ?_
  refine lv_iadd hx hb dL_law_393 ?_
  refine r_sld (v := xs 2) hF hX hbl hS (by unfold vp_in; decide) rfl dL_law_394 ?_
  refine r_cAI (v := (-1)) (wc := (mW t mm Lm sr)) (X := []) (As := [.int (xs 1), .int (xs 2)]) (rest := [.int (-1)]) hF mv_L_60 ci_X12 (c_X12_out l D t mm Lm sr (xs 1) (xs 2) _) dL_law_395 rfl rfl (Nat.le_of_ble_eq_true rfl |> fun h => ⟨h, Nat.le_of_ble_eq_true rfl⟩) rfl hl.1 (Nat.le_of_ble_eq_true rfl) hP hD hS hA (q0 := 0) rfl ⟨hc, hs⟩ rfl (fun H locs hP hS => ?_)
  refine lv_icmp_eq (tgt := 449) hx hb dL_law_398 rfl (fun _ => ?_) (fun h => absurd rfl h)
  exact law_tail hF hr hlk hX hbl hl hS hc hs
set_option maxRecDepth 100000 in
set_option maxHeartbeats 4000000 in
theorem law_drop {p : Program} {l : Launch} {e : Env} {s : State} {m : MethodId} {below : List Frame} {meth : Method} {c : Code} {H : Heap} {locs : List Loc} {cells slots : Nat} {ls : Array Slot} {D : va_G} {t : Nat → ClassId} {b : Nat} {xx mm : Nat} {xs : Nat → Int32} (hF : FX p m c code 4 s #[Value.ref b] RL D t) (hr : meth.sig.returnType = ret) (hlk : meth.locks = false) (hX : va_X b 6 xs s s.heap) (hbl : b < s.heap.size) (a : Nat → Nat) (fc fl fd fw : Nat → Option Nat) (fr : Nat → Int32) (T : va_W) (Lm : Nat → Nat) (sr : Nat → Int32) (dd : Nat) (hcn : connsIn t T fc 6) (hnl : nodesIn t T fl 80) (hnd : nodesIn t T fd 80) (hfr : ∀ i, i < 4 → fr i = -1) (hsr : ∀ i, i < 4 → sr i = -1) (hl : lv_has ls 4 [(3, .int 0), (2, .ref mm), (1, .ref xx), (0, .ref b)]) (hP : va_P D cl1 ((hW t dd xx a fc fl fd fw fr T) ++ (mW t mm Lm sr)) H) (hD : va_D (lA s) ((hW t dd xx a fc fl fd fw fr T) ++ (mW t mm Lm sr))) (hS : va_S (lA s) s.heap H locs) (hc : cells ≤ 600000) (hs : slots ≤ 7302250) : W p l e room_1 s m #[Value.ref b] below meth c H locs cells slots (lw_Z below #[Value.ref b] s) (F0 m 403 ls []) := by
  have hx := hF.1.1
  have hb := hF.1.2.1
  have hA : ∀ q, s.heap.size ≤ q → lA s q := fun q h => h
  refine lv_aload_n hx hb dL_law_403 rfl (lv_at hl 2 rfl) ?_
  refine lv_aload_n hx hb dL_law_404 rfl (lv_at hl 3 rfl) ?_
  refine lv_iload_n hx hb dL_law_405 rfl (lv_at hl 0 rfl) ?_
  refine lv_iconst (v := 1) hx hb dL_law_406 (by decide) ?_
  refine lv_iadd hx hb dL_law_407 ?_
  refine r_sld (v := xs 1) hF hX hbl hS (by unfold vp_in; decide) rfl dL_law_408 ?_
  refine r_cAI (v := (lineA (xs 1) 0 (-1))) (wc := (hW t dd xx a fc fl fd fw fr T)) (X := (mW t mm Lm sr)) (As := [.int (xs 1)]) (rest := []) hF mv_L_61 ci_X11 (c_X11_drop l D t dd xx a fc fl fd fw fr T hcn (xs 1) _) dL_law_409 rfl rfl (Nat.le_of_ble_eq_true rfl |> fun h => ⟨h, Nat.le_of_ble_eq_true rfl⟩) rfl hl.1 (Nat.le_of_ble_eq_true rfl) hP hD hS hA (q0 := 23) rfl ⟨hc, hs⟩ rfl (fun H locs hP hS => ?_)
  have hD := D_right hD
  have hP : va_P D cl1 ((mW t mm Lm sr) ++ ([] : va_W)) H := by rw [List.append_nil]; exact hP
  have hD : va_D (lA s) ((mW t mm Lm sr) ++ ([] : va_W)) := by rw [List.append_nil]; exact hD
  refine lv_aload_n hx hb dL_law_412 rfl (lv_at hl 1 rfl) ?_
  refine lv_aload_n hx hb dL_law_413 rfl (lv_at hl 3 rfl) ?_
  refine lv_iload_n hx hb dL_law_414 rfl (lv_at hl 0 rfl) ?_
  refine lv_iconst (v := 1) hx hb dL_law_415 (by decide) ?_
  refine lv_iadd hx hb dL_law_416 ?_
  refine r_sld (v := xs 1) hF hX hbl hS (by unfold vp_in; decide) rfl dL_law_417 ?_
  refine r_cAI (v := (lineA (xs 1) 0 (-1))) (wc := (mW t mm Lm sr)) (X := []) (As := [.int (xs 1)]) (rest := [.int (lineA (xs 1) 0 (-1))]) hF mv_L_64 ci_X12 (c_X12_drop l D t mm Lm sr (xs 1) _) dL_law_418 rfl rfl (Nat.le_of_ble_eq_true rfl |> fun h => ⟨h, Nat.le_of_ble_eq_true rfl⟩) rfl hl.1 (Nat.le_of_ble_eq_true rfl) hP hD hS hA (q0 := 0) rfl ⟨hc, hs⟩ rfl (fun H locs hP hS => ?_)
  refine lv_icmp_eq (tgt := 449) hx hb dL_law_421 rfl (fun _ => ?_) (fun h => absurd rfl h)
  exact law_tail hF hr hlk hX hbl hl hS hc hs
set_option maxRecDepth 100000 in
set_option maxHeartbeats 4000000 in
theorem law_told {p : Program} {l : Launch} {e : Env} {s : State} {m : MethodId} {below : List Frame} {meth : Method} {c : Code} {H : Heap} {locs : List Loc} {cells slots : Nat} {ls : Array Slot} {D : va_G} {t : Nat → ClassId} {b : Nat} {xx mm : Nat} {xs : Nat → Int32} (hF : FX p m c code 4 s #[Value.ref b] RL D t) (hr : meth.sig.returnType = ret) (hlk : meth.locks = false) (hX : va_X b 6 xs s s.heap) (hbl : b < s.heap.size) (a : Nat → Nat) (fc fl fd fw : Nat → Option Nat) (fr : Nat → Int32) (T : va_W) (Lm : Nat → Nat) (sr : Nat → Int32) (dd : Nat) (hcn : connsIn t T fc 6) (hnl : nodesIn t T fl 80) (hnd : nodesIn t T fd 80) (hfr : ∀ i, i < 4 → fr i = -1) (hsr : ∀ i, i < 4 → sr i = -1) (hl : lv_has ls 4 [(3, .int 0), (2, .ref mm), (1, .ref xx), (0, .ref b)]) (hP : va_P D cl1 ((hW t dd xx a fc fl fd fw fr T) ++ (mW t mm Lm sr)) H) (hD : va_D (lA s) ((hW t dd xx a fc fl fd fw fr T) ++ (mW t mm Lm sr))) (hS : va_S (lA s) s.heap H locs) (hc : cells ≤ 600000) (hs : slots ≤ 7302250) : W p l e room_1 s m #[Value.ref b] below meth c H locs cells slots (lw_Z below #[Value.ref b] s) (F0 m 426 ls []) := by
  have hx := hF.1.1
  have hb := hF.1.2.1
  have hA : ∀ q, s.heap.size ≤ q → lA s q := fun q h => h
  refine lv_aload_n hx hb dL_law_426 rfl (lv_at hl 2 rfl) ?_
  refine lv_aload_n hx hb dL_law_427 rfl (lv_at hl 3 rfl) ?_
  refine lv_iload_n hx hb dL_law_428 rfl (lv_at hl 0 rfl) ?_
  refine lv_iconst (v := 1) hx hb dL_law_429 (by decide) ?_
  refine lv_iadd hx hb dL_law_430 ?_
  refine r_sld (v := xs 1) hF hX hbl hS (by unfold vp_in; decide) rfl dL_law_431 ?_
  refine r_cAI (v := (toldA (xs 1))) (wc := (hW t dd xx a fc fl fd fw fr T)) (X := (mW t mm Lm sr)) (As := [.int (xs 1)]) (rest := []) hF mv_L_65 ci_X11 (c_X11_told l D t dd xx a fc fl fd fw fr T (xs 1) _) dL_law_432 rfl rfl (Nat.le_of_ble_eq_true rfl |> fun h => ⟨h, Nat.le_of_ble_eq_true rfl⟩) rfl hl.1 (Nat.le_of_ble_eq_true rfl) hP hD hS hA (q0 := 23) rfl ⟨hc, hs⟩ rfl (fun H locs hP hS => ?_)
  have hD := D_right hD
  have hP : va_P D cl1 ((mW t mm Lm sr) ++ ([] : va_W)) H := by rw [List.append_nil]; exact hP
  have hD : va_D (lA s) ((mW t mm Lm sr) ++ ([] : va_W)) := by rw [List.append_nil]; exact hD
  refine lv_aload_n hx hb dL_law_435 rfl (lv_at hl 1 rfl) ?_
  refine lv_aload_n hx hb dL_law_436 rfl (lv_at hl 3 rfl) ?_
  refine lv_iload_n hx hb dL_law_437 rfl (lv_at hl 0 rfl) ?_
  refine lv_iconst (v := 1) hx hb dL_law_438 (by decide) ?_
  refine lv_iadd hx hb dL_law_439 ?_
  refine r_sld (v := xs 1) hF hX hbl hS (by unfold vp_in; decide) rfl dL_law_440 ?_
  refine r_cAI (v := (toldA (xs 1))) (wc := (mW t mm Lm sr)) (X := []) (As := [.int (xs 1)]) (rest := [.int (toldA (xs 1))]) hF mv_L_68 ci_X12 (c_X12_told l D t mm Lm sr (xs 1) _) dL_law_441 rfl rfl (Nat.le_of_ble_eq_true rfl |> fun h => ⟨h, Nat.le_of_ble_eq_true rfl⟩) rfl hl.1 (Nat.le_of_ble_eq_true rfl) hP hD hS hA (q0 := 0) rfl ⟨hc, hs⟩ rfl (fun H locs hP hS => ?_)
  refine lv_icmp_eq (tgt := 449) hx hb dL_law_444 rfl (fun _ => ?_) (fun h => absurd rfl h)
  exact law_tail hF hr hlk hX hbl hl hS hc hs
set_option maxRecDepth 100000 in
set_option maxHeartbeats 4000000 in
theorem whole_start {p : Program} {e : Env} {s : State} {m : MethodId} {below : List Frame} {meth : Method} {c : Code} (l : Launch) {b L : Nat} {xs : Nat → Int32} (hL : L ≤ 6) (C0 : lw_At p s m meth c b L xs) : W p l e room_1 s m #[Value.ref b] below meth c s.heap [] 0 0 (lw_Z below #[Value.ref b] s) (entryFrame m ([Value.ref b] : List Value).toArray 4) := by
  obtain ⟨hx, hb, hr, hml, hown, hts, hX, hbl, hlk, hgv⟩ := C0
  obtain ⟨D, t, hK⟩ := law_K hts
  have hF : FX p m c code 4 s #[Value.ref b] RL D t := ⟨⟨hx, hb, hml, hown, fun w h => hts w (big_tbl w h)⟩, hK⟩
  have hfl := flat_of_before _ hgv
  have hA : ∀ q, s.heap.size ≤ q → lA s q := fun q h => h
  obtain ⟨d, hd, -⟩ := va_Tof (A := lA s) (N := 0) (f := fun _ => .null) (tm := .static "java/util/ArrayList" "DEFAULTCAPACITY_EMPTY_ELEMENTDATA" "[Ljava/lang/Object;") (ty := .object "java/lang/Object") (by decide) (hfl _ (by decide +kernel)) (va_eqt (z := 0) (hfl _ (by decide +kernel))) (fun j h => absurd h (Nat.not_lt_zero _)) (fun a h => Nat.not_le.mpr h)
  have hZ : va_Z "java/util/ArrayList" "DEFAULTCAPACITY_EMPTY_ELEMENTDATA" "[Ljava/lang/Object;" (.ref d) (lA s) s s.heap := va_Zof (hts _ (tb_1 (List.mem_of_getElem? (i := 170) rfl))) (hts _ (big_tbl _ (wb 48 rfl))) hd (fun a h => Nat.not_le.mpr h)
  have eN : va_AO "ShareHouse$Node" s := va_AO.of (hts _ (tb_1 (List.mem_of_getElem? (i := 63) rfl)))
  have eC : va_AO "ShareHouse$Conn" s := va_AO.of (hts _ (tb_1 (List.mem_of_getElem? (i := 55) rfl)))
  have eH : va_AO "ShareHouse$Change" s := va_AO.of (hts _ (tb_1 (List.mem_of_getElem? (i := 156) rfl)))
  have nR : va_Nw nestR s := va_tabs rfl rfl (hts _ (tb_1 (List.mem_of_getElem? (i := 37) rfl) : nestR ∈ lw_tbl))
  have nC : va_Nw nestC s := va_tabs rfl rfl (hts _ (tb_1 (List.mem_of_getElem? (i := 184) rfl) : nestC ∈ lw_tbl))
  have nH : va_Nw nestH s := va_tabs rfl rfl (hts _ (tb_2 (List.mem_of_getElem? (i := 10) rfl) : nestH ∈ lw_tbl))
  have nK : va_Nw nestK s := va_tabs rfl rfl (hts _ (tb_1 (List.mem_of_getElem? (i := 189) rfl) : nestK ∈ lw_tbl))
  have hl := lv_entry [.ref b] (n := 4) (Nat.le_of_ble_eq_true rfl)
  rw [lg_entry_eq]
  generalize (lg_sl ([.ref b]) ++ List.replicate (4 - (lg_sl ([.ref b])).length) Slot.unset).toArray = ls at hl ⊢
  have hl : lv_has ls 4 [(0, .ref b)] := hl
  have hS : va_S (lA s) s.heap s.heap [] := va_S.rf
  have hP : va_P D cl1 [] s.heap := fun k q h => by simp at h
  have hD : va_D (lA s) [] := ⟨fun i j a b h => by simp at h, fun k q h => by simp at h⟩
  refine r_new (fs := [.null, .null, .null, .null, .null, .null, .int 0, .long 0, .null, .null, .null, .null, .null, .null, .null, .null, .null, .null]) hF ci_X11 dL_law_0 (wb 99 rfl) (wb 100 rfl) (wb 73 rfl) hP hD hS hA def_X11 (by decide) (by decide) (fun xx H hP hD hS => ?_)
  refine lv_dup hx hb dL_law_3 rfl ?_
  refine r_cWI (wc := [(xx, .inr (1, [.null, .null, .null, .null, .null, .null, .int 0, .long 0, .null, .null, .null, .null, .null, .null, .null, .null, .null, .null]))]) (X := ([] : va_W)) (As := []) (rest := [.ref xx]) hF mi_L_9 (c_X11_init l D t d xx _) (fun _ U _ _ h => ?_) (fun U hU hW => ?_) dL_law_4 rfl rfl ⟨Nat.le_of_ble_eq_true rfl, Nat.le_of_ble_eq_true rfl⟩ rfl hl.1 (Nat.le_of_ble_eq_true rfl) hP hD hS hA ⟨Nat.le_of_ble_eq_true rfl, Nat.le_of_ble_eq_true rfl⟩ rfl (fun w1 H locs hI hP hD hS => ?_)
  · obtain ⟨h1, h2, h3, h4, h5, h6, h7, h8⟩ := h
    exact ⟨va_AO.moved (Vm.Alike.refl U.vm) h1, va_AO.moved (Vm.Alike.refl U.vm) h2, va_AO.moved (Vm.Alike.refl U.vm) h3, nw_call rfl h4, nw_call rfl h5, nw_call rfl h6, nw_call rfl h7, va_Z.moved (Vm.Alike.refl U.vm) h8⟩
  · exact ⟨va_AO.moved hW.alike eN, va_AO.moved hW.alike eC, va_AO.moved hW.alike eH, va_Nw.warmM hW nR, va_Nw.warmM hW nC, va_Nw.warmM hW nH, va_Nw.warmM hW nK, by rw [hU]; exact ((hZ.kept (fun a h1 h2 => hS.2.1 a h1 h2)).moved hW.alike).narrow (a_in (D_left (w1 := [(xx, .inr (1, [.null, .null, .null, .null, .null, .null, .int 0, .long 0, .null, .null, .null, .null, .null, .null, .null, .null, .null, .null]))]) hD) hS hA)⟩
  obtain ⟨a, fc, fl, fd, fw, fr, T, rfl, hcn, hnl, hnd, hfr⟩ := hI
  refine lv_astore_n (lv' := [(1, .ref xx), (0, .ref b)]) hx hb dL_law_7 rfl hl (by decide) rfl (fun ls hl => ?_)
  refine r_new (fs := mD) hF ci_X12 dL_law_8 (wb 356 rfl) (wb 357 rfl) (wb 98 rfl) hP hD hS hA mD_ok (Nat.le_of_ble_eq_true rfl) (Nat.le_of_ble_eq_true rfl) (fun mm H hP hD hS => ?_)
  refine lv_dup hx hb dL_law_11 rfl ?_
  refine r_cWI (wc := [(mm, .inr (0, mD))]) (X := (hW t d xx a fc fl fd fw fr T) ++ ([] : va_W)) (As := []) (rest := [.ref mm]) hF mi_L_12 (c_X12_init l D t mm _) (fun _ _ _ _ h => h) (fun _ _ _ => trivial) dL_law_12 rfl rfl ⟨Nat.le_of_ble_eq_true rfl, Nat.le_of_ble_eq_true rfl⟩ rfl hl.1 (Nat.le_of_ble_eq_true rfl) hP hD hS hA ⟨Nat.le_of_ble_eq_true rfl, Nat.le_of_ble_eq_true rfl⟩ rfl (fun w1 H locs hI hP hD hS => ?_)
  obtain ⟨Lm, sr, hsr, rfl⟩ := hI
  rw [List.append_nil] at hP hD
  have hP := P_perm List.perm_append_comm hP
  have hD := D_perm List.perm_append_comm hD
  refine lv_astore_n (lv' := [(2, .ref mm), (1, .ref xx), (0, .ref b)]) hx hb dL_law_15 rfl hl (by decide) rfl (fun ls hl => ?_)
  refine lv_iconst (v := 0) hx hb dL_law_16 (by decide) ?_
  refine lv_istore_n (lv' := [(3, .int 0), (2, .ref mm), (1, .ref xx), (0, .ref b)]) hx hb dL_law_17 rfl hl (by decide) rfl (fun ls hl => ?_)
  have hl : lv_has ls 4 [(3, .int 0), (2, .ref mm), (1, .ref xx), (0, .ref b)] := lv_sub hl [0, 1, 2, 3] rfl
  refine W.widen (k := 1000) (n := 1100000) (Nat.le_of_ble_eq_true rfl) (Nat.le_of_ble_eq_true rfl) ?_
  refine lv_iload_n hx hb dL_law_18 rfl (lv_at hl 0 rfl) ?_
  refine lv_aload_n hx hb dL_law_19 rfl (lv_at hl 3 rfl) ?_
  refine r_slen hF hX hbl hS dL_law_20 ?_
  refine lv_bipush (v := 6) hx hb dL_law_21 (by decide) ?_
  refine lv_isub hx hb dL_law_23 ?_
  rcases Nat.lt_or_ge L 6 with hlt | hge
  · refine lv_icmp_gt (tgt := 455) hx hb dL_law_24 rfl (fun _ => ?_) (fun h => absurd (by rw [show (6 : Int32) = nI 6 from rfl]; exact pk_sneg (by decide) hlt) h)
    exact law_end hF hr hlk hS (by decide) (by decide)
  · have hL6 : L = 6 := by omega
    subst hL6
    refine lv_icmp_gt (tgt := 455) hx hb dL_law_24 rfl (fun h => absurd h (by decide)) (fun _ => ?_)
    refine lv_aload_n hx hb dL_law_27 rfl (lv_at hl 3 rfl) ?_
    refine lv_iload_n hx hb dL_law_28 rfl (lv_at hl 0 rfl) ?_
    refine r_sld (v := xs 0) hF hX hbl hS (by unfold vp_in; decide) rfl dL_law_29 ?_
    refine lv_bipush (v := 15) hx hb dL_law_30 (by decide) ?_
    refine lv_iand hx hb dL_law_32 ?_
    obtain ⟨j, hj, hxj⟩ := pk_andE (xs 0) (m := 15) 4 (by decide)
    rw [hxj]
    rcases (show j = 0 ∨ j = 1 ∨ j = 2 ∨ j = 3 ∨ j = 4 ∨ j = 5 ∨ j = 6 ∨ j = 7 ∨ j = 8 ∨ j = 9 ∨ j = 10 ∨ j = 11 ∨ j = 12 ∨ j = 13 ∨ j = 14 ∨ j = 15 by omega) with z | z | z | z | z | z | z | z | z | z | z | z | z | z | z | z
    · subst z
      refine lv_tableIn (off := 67) (tgt := 100) hx hb dL_law_33 (by decide) (by decide) rfl rfl ?_
      exact law_feed hF hr hlk hX hbl a fc fl fd fw fr T Lm sr d hcn hnl hnd hfr hsr hl hP hD hS (by decide) (by decide)
    · subst z
      refine lv_tableIn (off := 130) (tgt := 163) hx hb dL_law_33 (by decide) (by decide) rfl rfl ?_
      exact law_cut hF hr hlk hX hbl a fc fl fd fw fr T Lm sr d hcn hnl hnd hfr hsr hl hP hD hS (by decide) (by decide)
    · subst z
      refine lv_tableIn (off := 153) (tgt := 186) hx hb dL_law_33 (by decide) (by decide) rfl rfl ?_
      exact law_share hF hr hlk hX hbl a fc fl fd fw fr T Lm sr d hcn hnl hnd hfr hsr hl hP hD hS (by decide) (by decide)
    · subst z
      refine lv_tableIn (off := 176) (tgt := 209) hx hb dL_law_33 (by decide) (by decide) rfl rfl ?_
      exact law_connect hF hr hlk hX hbl a fc fl fd fw fr T Lm sr d hcn hnl hnd hfr hsr hl hP hD hS (by decide) (by decide)
    · subst z
      refine lv_tableIn (off := 199) (tgt := 232) hx hb dL_law_33 (by decide) (by decide) rfl rfl ?_
      exact law_hang hF hr hlk hX hbl a fc fl fd fw fr T Lm sr d hcn hnl hnd hfr hsr hl hP hD hS (by decide) (by decide)
    · subst z
      refine lv_tableIn (off := 222) (tgt := 255) hx hb dL_law_33 (by decide) (by decide) rfl rfl ?_
      exact law_come hF hr hlk hX hbl a fc fl fd fw fr T Lm sr d hcn hnl hnd hfr hsr hl hP hD hS (by decide) (by decide)
    · subst z
      refine lv_tableIn (off := 245) (tgt := 278) hx hb dL_law_33 (by decide) (by decide) rfl rfl ?_
      exact law_isOpen hF hr hlk hX hbl a fc fl fd fw fr T Lm sr d hcn hnl hnd hfr hsr hl hP hD hS (by decide) (by decide)
    · subst z
      refine lv_tableIn (off := 268) (tgt := 301) hx hb dL_law_33 (by decide) (by decide) rfl rfl ?_
      exact law_tick hF hr hlk hX hbl a fc fl fd fw fr T Lm sr d hcn hnl hnd hfr hsr hl hP hD hS (by decide) (by decide)
    · subst z
      refine lv_tableIn (off := 291) (tgt := 324) hx hb dL_law_33 (by decide) (by decide) rfl rfl ?_
      exact law_crash hF hr hlk hX hbl a fc fl fd fw fr T Lm sr d hcn hnl hnd hfr hsr hl hP hD hS (by decide) (by decide)
    · subst z
      refine lv_tableIn (off := 314) (tgt := 347) hx hb dL_law_33 (by decide) (by decide) rfl rfl ?_
      exact law_outs hF hr hlk hX hbl a fc fl fd fw fr T Lm sr d hcn hnl hnd hfr hsr hl hP hD hS (by decide) (by decide)
    · subst z
      refine lv_tableIn (off := 337) (tgt := 370) hx hb dL_law_33 (by decide) (by decide) rfl rfl ?_
      exact law_out hF hr hlk hX hbl a fc fl fd fw fr T Lm sr d hcn hnl hnd hfr hsr hl hP hD hS (by decide) (by decide)
    · subst z
      refine lv_tableIn (off := 370) (tgt := 403) hx hb dL_law_33 (by decide) (by decide) rfl rfl ?_
      exact law_drop hF hr hlk hX hbl a fc fl fd fw fr T Lm sr d hcn hnl hnd hfr hsr hl hP hD hS (by decide) (by decide)
    · subst z
      refine lv_tableIn (off := 393) (tgt := 426) hx hb dL_law_33 (by decide) (by decide) rfl rfl ?_
      exact law_told hF hr hlk hX hbl a fc fl fd fw fr T Lm sr d hcn hnl hnd hfr hsr hl hP hD hS (by decide) (by decide)
    · subst z
      refine lv_tableOut (tgt := 449) hx hb dL_law_33 (by decide) rfl ?_
      exact law_tail hF hr hlk hX hbl hl hS (by decide) (by decide)
    · subst z
      refine lv_tableOut (tgt := 449) hx hb dL_law_33 (by decide) rfl ?_
      exact law_tail hF hr hlk hX hbl hl hS (by decide) (by decide)
    · subst z
      refine lv_tableOut (tgt := 449) hx hb dL_law_33 (by decide) rfl ?_
      exact law_tail hF hr hlk hX hbl hl hS (by decide) (by decide)

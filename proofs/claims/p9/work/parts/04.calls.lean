/-! calls: with the words of 'big'; those that keep the world -/
section H4
variable {p : Program} {l : Launch} {e : Env} {R : Room} {s : State} {m : MethodId} {args : Array Value} {below : List Frame} {meth : Method} {c : Code} {H : Heap} {locs : List Loc} {cells slots : Nat} {Q : State → Prop} {cc : ByteArray} {pc : Nat} {ls : Array Slot} {rest : List Value} {D : va_G} {t : Nat → ClassId} {A : Nat → Prop} {H0 : Heap} {ws : va_W} {own : String} {nL : Nat}
variable {C : String} {y : MethodName} {bytes : ByteArray} {maxL n index : Nat} {ret : Option FieldType} {rm : Room} {wc : va_W} {Qc : Array Value → State → Outcome → State → Prop} {mc ms : Nat} {free : Addr → Prop} {As st0 : List Value} {b q0 ci N : Nat} {fs : List Value} {T : u_T} {ty : Nat → FieldType}
theorem r_runV (hF : FX p m c cc nL s args own D t) (hm : MV own index C y bytes maxL ret n) (hC : CI ci C T N ty) (hM : Met l y (Cond.code y bytes maxL ret :: big) rm (PC D t wc H.size (.ref b :: As)) Qc mc ms free) (hdg : decode cc pc = .ok (.invokevirtual index, 3)) (hrc : rm.cells = mc) (hrs : rm.slots = ms) (hR : rm.frames + 1 ≤ R.frames ∧ 8 + (maxL + 11) + rm.locals ≤ R.locals) (hn : As.length = n) (hls : ls.size = nL) (hW : (rest.map fun v => v.category).sum ≤ 8) (hP : va_P D cl1 wc H) (hD : va_D A wc) (he : wc[q0]? = some (b, .inr (ci, fs))) (hf : cells + mc ≤ R.cells ∧ slots + ms ≤ R.slots) (hst : st0 = As.reverse ++ .ref b :: rest) :
    va_Run p l e R s m args below meth c H locs cells slots mc ms (F0 m pc ls st0) rest (Qc (Value.ref b :: As).toArray) free := by
  obtain ⟨⟨w1, w2, w3, w4, w5⟩, hd⟩ := hm
  refine va_runV hF.1 hM (cwV n hF.1.2.2.2.2 (gw ?_) rfl hrc hrs hd hR) ⟨PC_blind, va_recv hF.2.1 hP hC.1 he, PC_at hP hD hF.2⟩ rfl hn hls hst (lv_room hW) hdg hf
  intro w h
  simp only [wsV, List.cons_append, List.nil_append, List.mem_cons] at h
  rcases h with rfl | rfl | rfl | rfl | rfl | h
  · exact w1
  · exact w2
  · exact w3
  · exact w4
  · exact w5
  · exact h
theorem r_runS (hF : FX p m c cc nL s args own D t) (hm : MS own index y bytes maxL ret n) (hM : Met l y (Cond.code y bytes maxL ret :: big) rm (PC D t wc H.size As) Qc mc ms free) (hdg : decode cc pc = .ok (.invokestatic index, 3)) (hrc : rm.cells = mc) (hrs : rm.slots = ms) (hR : rm.frames + 1 ≤ R.frames ∧ 8 + (maxL + 11) + rm.locals ≤ R.locals) (hn : As.length = n) (hls : ls.size = nL) (hW : (rest.map fun v => v.category).sum ≤ 8) (hP : va_P D cl1 wc H) (hD : va_D A wc) (hf : cells + mc ≤ R.cells ∧ slots + ms ≤ R.slots) (hst : st0 = As.reverse ++ rest) :
    va_Run p l e R s m args below meth c H locs cells slots mc ms (F0 m pc ls st0) rest (Qc As.toArray) free := by
  obtain ⟨⟨w1, w2, w3, w5⟩, hd⟩ := hm
  refine va_runS hF.1 hM (va_cwS n hF.1.2.2.2.2 (gw ?_) rfl hrc hrs hd hR) ⟨PC_blind, PC_at hP hD hF.2⟩ rfl hn hls hst (lv_room hW) hdg hf
  intro w h
  simp only [va_wsS, List.cons_append, List.nil_append, List.mem_cons] at h
  rcases h with rfl | rfl | rfl | rfl | h
  · exact w1
  · exact w2
  · exact w3
  · exact w5
  · exact h
theorem r_runI (hF : FX p m c cc nL s args own D t) (hm : MI own index y bytes maxL n) (hM : Met l y (Cond.code y bytes maxL none :: big) rm (PC D t wc H.size (.ref b :: As)) Qc mc ms free) (hdg : decode cc pc = .ok (.invokespecial index, 3)) (hrc : rm.cells = mc) (hrs : rm.slots = ms) (hR : rm.frames + 1 ≤ R.frames ∧ 8 + (maxL + 11) + rm.locals ≤ R.locals) (hn : As.length = n) (hls : ls.size = nL) (hW : (rest.map fun v => v.category).sum ≤ 8) (hP : va_P D cl1 wc H) (hD : va_D A wc) (hf : cells + mc ≤ R.cells ∧ slots + ms ≤ R.slots) (hst : st0 = As.reverse ++ .ref b :: rest) :
    va_Run p l e R s m args below meth c H locs cells slots mc ms (F0 m pc ls st0) rest (Qc (Value.ref b :: As).toArray) free := by
  obtain ⟨⟨w1, w2, w3, w5⟩, hy1, hd⟩ := hm
  refine va_runI hF.1 hM (cwI n hF.1.2.2.2.2 (gw ?_) rfl hrc hrs (hF.1.2.2.2.2 _ w3) (hF.1.2.2.2.2 _ w1) (hF.1.2.2.2.2 _ w2) hy1 hd hR) ⟨PC_blind, PC_at hP hD hF.2⟩ rfl hn hls hst (lv_room hW) hdg hf
  intro w h
  rcases List.mem_cons.mp h with rfl | h
  · exact w5
  · exact h
theorem r_runN {host : String} (hF : FX p m c cc nL s args own D t) (hN : va_Nw (.methodLinkNest own index y host) s) (hm : (Cond.instanceMethod y ∈ big ∧ Cond.initialized y.cls ∈ big ∧ Cond.code y bytes maxL none ∈ big) ∧ y.name = "<init>" ∧ y.cls ≠ "java/lang/invoke/MethodHandle" ∧ y.cls ≠ "java/lang/invoke/VarHandle" ∧ (parseMethodDescriptor y.desc).map (fun d => d.parameters.length) = some n) (hM : Met l y (Cond.code y bytes maxL none :: big) rm (PC D t wc H.size (.ref b :: As)) Qc mc ms free) (hdg : decode cc pc = .ok (.invokespecial index, 3)) (hrc : rm.cells = mc) (hrs : rm.slots = ms) (hR : rm.frames + 1 ≤ R.frames ∧ 8 + (maxL + 11) + rm.locals ≤ R.locals) (hn : As.length = n) (hls : ls.size = nL) (hW : (rest.map fun v => v.category).sum ≤ 8) (hP : va_P D cl1 wc H) (hD : va_D A wc) (hf : cells + mc ≤ R.cells ∧ slots + ms ≤ R.slots) (hst : st0 = As.reverse ++ .ref b :: rest) :
    va_Run p l e R s m args below meth c H locs cells slots mc ms (F0 m pc ls st0) rest (Qc (Value.ref b :: As).toArray) free := by
  obtain ⟨⟨w2, w3, w5⟩, hy1, hd⟩ := hm
  refine va_runIN hF.1 hM ⟨va_cnB n hF.1.2.2.2.2 (gw ?_) rfl hrc hrs hN (hF.1.2.2.2.2 _ w3) hd hR, hy1, hF.1.2.2.2.2 _ w2⟩ ⟨PC_blind, PC_at hP hD hF.2⟩ rfl hn hls hst (lv_room hW) hdg hf
  intro w h
  rcases List.mem_cons.mp h with rfl | h
  · exact w5
  · exact h
theorem a_in (hD : va_D A ws) (hS : va_S A H0 H locs) (hA : ∀ q, H0.size ≤ q → A q) : ∀ q, va_A ws H.size q → A q := fun q h => by
  rcases h with ⟨k, e, h⟩ | h
  · exact hD.2 k _ h
  · exact hA q (Nat.le_trans hS.1 h)
/-- contracts that keep the world: the answer is v; nothing -/
abbrev KI (l : Launch) (D : va_G) (t : Nat → ClassId) (y : MethodName) (bytes : ByteArray) (maxL : Nat) (ret : Option FieldType) (rm : Room) (ws : va_W) (sz : Nat) (av : List Value) (v : Int32) : Prop := Met l y (Cond.code y bytes maxL ret :: big) rm (PC D t ws sz av) (va_Qi (fun r (_ : Unit) => r = v) (fun _ u => va_P D cl1 ws u.heap) (va_A ws sz)) 0 0 (va_A ws sz)
abbrev KV (l : Launch) (D : va_G) (t : Nat → ClassId) (y : MethodName) (bytes : ByteArray) (maxL : Nat) (rm : Room) (ws : va_W) (sz : Nat) (av : List Value) : Prop := Met l y (Cond.code y bytes maxL none :: big) rm (PC D t ws sz av) (va_Qv (fun (_ : Unit) => True) (fun _ u => va_P D cl1 ws u.heap) (va_A ws sz)) 0 0 (va_A ws sz)
/-- a contract of the answer alone -/
abbrev AI (l : Launch) (D : va_G) (t : Nat → ClassId) (y : MethodName) (bytes : ByteArray) (maxL : Nat) (ret : Option FieldType) (rm : Room) (ws : va_W) (sz : Nat) (av : List Value) (v : Int32) : Prop := Met l y (Cond.code y bytes maxL ret :: big) rm (PC D t ws sz av) (va_Qi (fun r (_ : Unit) => r = v) (fun _ _ => True) (va_A ws sz)) 0 0 (va_A ws sz)
theorem r_cKI {v : Int32} (hF : FX p m c cc nL s args own D t) (hm : MV own index C y bytes maxL ret n) (hC : CI ci C T N ty) (hM : ∀ sz, KI l D t y bytes maxL ret rm ws sz (.ref b :: As) v) (hdg : decode cc pc = .ok (.invokevirtual index, 3)) (hrc : rm.cells = 0) (hrs : rm.slots = 0) (hR : rm.frames + 1 ≤ R.frames ∧ 8 + (maxL + 11) + rm.locals ≤ R.locals) (hn : As.length = n) (hls : ls.size = nL) (hW : (rest.map fun v => v.category).sum ≤ 8) (hP : va_P D cl1 ws H) (hD : va_D A ws) (hS : va_S A H0 H locs) (hA : ∀ q, H0.size ≤ q → A q) (he : ws[q0]? = some (b, .inr (ci, fs))) (hf : cells ≤ R.cells ∧ slots ≤ R.slots) (hst : st0 = As.reverse ++ .ref b :: rest)
    (kk : ∀ (H1 : Heap) (locs1 : List Loc), va_P D cl1 ws H1 → va_S A H0 H1 locs1 → W p l e R s m args below meth c H1 locs1 cells slots Q (F0 m (pc + 3) ls (.int v :: rest))) : W p l e R s m args below meth c H locs cells slots Q (F0 m pc ls st0) := by
  refine va_calli (r_runV hF hm hC (hM H.size) hdg hrc hrs hR hn hls hW hP hD he hf hst) hS (fun q _ h => a_in hD hS hA q h) (a_in hD hS hA) (fun r u t1 H1 locs1 ht _ hw hB _ _ hS1 => ?_)
  subst hw
  have hB : va_P D cl1 ws t1.heap := hB
  rw [ht] at hB
  exact kk H1 locs1 hB hS1
theorem r_cKIs {v : Int32} (hF : FX p m c cc nL s args own D t) (hm : MS own index y bytes maxL ret n) (hM : ∀ sz, KI l D t y bytes maxL ret rm ws sz As v) (hdg : decode cc pc = .ok (.invokestatic index, 3)) (hrc : rm.cells = 0) (hrs : rm.slots = 0) (hR : rm.frames + 1 ≤ R.frames ∧ 8 + (maxL + 11) + rm.locals ≤ R.locals) (hn : As.length = n) (hls : ls.size = nL) (hW : (rest.map fun v => v.category).sum ≤ 8) (hP : va_P D cl1 ws H) (hD : va_D A ws) (hS : va_S A H0 H locs) (hA : ∀ q, H0.size ≤ q → A q) (hf : cells ≤ R.cells ∧ slots ≤ R.slots) (hst : st0 = As.reverse ++ rest)
    (kk : ∀ (H1 : Heap) (locs1 : List Loc), va_P D cl1 ws H1 → va_S A H0 H1 locs1 → W p l e R s m args below meth c H1 locs1 cells slots Q (F0 m (pc + 3) ls (.int v :: rest))) : W p l e R s m args below meth c H locs cells slots Q (F0 m pc ls st0) := by
  refine va_calli (r_runS hF hm (hM H.size) hdg hrc hrs hR hn hls hW hP hD hf hst) hS (fun q _ h => a_in hD hS hA q h) (a_in hD hS hA) (fun r u t1 H1 locs1 ht _ hw hB _ _ hS1 => ?_)
  subst hw
  have hB : va_P D cl1 ws t1.heap := hB
  rw [ht] at hB
  exact kk H1 locs1 hB hS1
theorem r_cKV (hF : FX p m c cc nL s args own D t) (hm : MV own index C y bytes maxL none n) (hC : CI ci C T N ty) (hM : ∀ sz, KV l D t y bytes maxL rm ws sz (.ref b :: As)) (hdg : decode cc pc = .ok (.invokevirtual index, 3)) (hrc : rm.cells = 0) (hrs : rm.slots = 0) (hR : rm.frames + 1 ≤ R.frames ∧ 8 + (maxL + 11) + rm.locals ≤ R.locals) (hn : As.length = n) (hls : ls.size = nL) (hW : (rest.map fun v => v.category).sum ≤ 8) (hP : va_P D cl1 ws H) (hD : va_D A ws) (hS : va_S A H0 H locs) (hA : ∀ q, H0.size ≤ q → A q) (he : ws[q0]? = some (b, .inr (ci, fs))) (hf : cells ≤ R.cells ∧ slots ≤ R.slots) (hst : st0 = As.reverse ++ .ref b :: rest)
    (kk : ∀ (H1 : Heap) (locs1 : List Loc), va_P D cl1 ws H1 → va_S A H0 H1 locs1 → W p l e R s m args below meth c H1 locs1 cells slots Q (F0 m (pc + 3) ls rest)) : W p l e R s m args below meth c H locs cells slots Q (F0 m pc ls st0) := by
  refine va_callv (r_runV hF hm hC (hM H.size) hdg hrc hrs hR hn hls hW hP hD he hf hst) hS (fun q _ h => a_in hD hS hA q h) (a_in hD hS hA) (fun u t1 H1 locs1 ht _ _ hB _ _ hS1 => ?_)
  have hB : va_P D cl1 ws t1.heap := hB
  rw [ht] at hB
  exact kk H1 locs1 hB hS1
/-- returns -/
theorem r_retK {v : Int32} {ty : FieldType} (hF : FX p m c cc nL s args own D t) (hr : meth.sig.returnType = some ty) (hlk : meth.locks = false) (hn : narrow ty (.int v) = .int v) (hdg : decode cc pc = .ok (.ireturn, 1)) (hP : va_P D cl1 ws H) (hS : va_S A s.heap H locs) {v' : Int32} (hv : v = v') : W p l e R s m args below meth c H locs cells slots (MQ below (va_Qi (fun r (_ : Unit) => r = v') (fun _ u => va_P D cl1 ws u.heap) A) args s cells slots A) (F0 m pc ls [.int v]) :=
  W.zret hF.1.1 hF.1.2.1 hr hn (fun t1 ht _ => ⟨⟨v, (), rfl, hv, by show va_P D cl1 ws t1.heap; rw [ht]; exact hP⟩, hS.F ht⟩) hS.2.2 hdg hlk
theorem r_retA {v : Int32} {ty : FieldType} (hF : FX p m c cc nL s args own D t) (hr : meth.sig.returnType = some ty) (hlk : meth.locks = false) (hn : narrow ty (.int v) = .int v) (hdg : decode cc pc = .ok (.ireturn, 1)) (hS : va_S A s.heap H locs) {v' : Int32} (hv : v = v') : W p l e R s m args below meth c H locs cells slots (MQ below (va_Qi (fun r (_ : Unit) => r = v') (fun _ _ => True) A) args s cells slots A) (F0 m pc ls [.int v]) :=
  W.zret hF.1.1 hF.1.2.1 hr hn (fun t1 ht _ => ⟨⟨v, (), rfl, hv, trivial⟩, hS.F ht⟩) hS.2.2 hdg hlk
theorem r_retV (hF : FX p m c cc nL s args own D t) (hr : meth.sig.returnType = none) (hlk : meth.locks = false) (hdg : decode cc pc = .ok (.return_, 1)) (hP : va_P D cl1 ws H) (hS : va_S A s.heap H locs) : W p l e R s m args below meth c H locs cells slots (MQ below (va_Qv (fun (_ : Unit) => True) (fun _ u => va_P D cl1 ws u.heap) A) args s cells slots A) (F0 m pc ls []) :=
  W.vret hF.1.1 hF.1.2.1 hr (fun t1 ht _ => ⟨⟨(), rfl, trivial, by show va_P D cl1 ws t1.heap; rw [ht]; exact hP⟩, hS.F ht⟩) hS.2.2 hdg hlk
/-- a loop that keeps the world: a number of rounds, the locals by the round -/
theorem r_loop {L0 : Nat → List (Nat × Value)} (N : Nat) (hl : lv_has ls nL (L0 0)) (hP : va_P D cl1 ws H) (hS : va_S A H0 H locs)
    (step : ∀ i, i < N → ∀ (ls : Array Slot) (H : Heap) (locs : List Loc), lv_has ls nL (L0 i) → va_P D cl1 ws H → va_S A H0 H locs → (∀ (ls : Array Slot) (H : Heap) (locs : List Loc), lv_has ls nL (L0 (i + 1)) → va_P D cl1 ws H → va_S A H0 H locs → W p l e R s m args below meth c H locs cells slots Q (F0 m pc ls [])) → W p l e R s m args below meth c H locs cells slots Q (F0 m pc ls []))
    (exit : ∀ (ls : Array Slot) (H : Heap) (locs : List Loc), lv_has ls nL (L0 N) → va_P D cl1 ws H → va_S A H0 H locs → W p l e R s m args below meth c H locs cells slots Q (F0 m pc ls [])) : W p l e R s m args below meth c H locs cells slots Q (F0 m pc ls []) := by
  have key : ∀ n i, i + n = N → ∀ (ls : Array Slot) (H : Heap) (locs : List Loc), lv_has ls nL (L0 i) → va_P D cl1 ws H → va_S A H0 H locs → W p l e R s m args below meth c H locs cells slots Q (F0 m pc ls []) := by
    intro n
    induction n with
    | zero =>
      intro i hi
      have : i = N := by omega
      subst this
      exact exit
    | succ n ih =>
      intro i hi ls H locs h1 h2 h3
      exact step i (by omega) ls H locs h1 h2 h3 (ih (i + 1) (by omega))
  exact key N 0 (by omega) ls H locs hl hP hS
end H4

/-! calls that give a reference and keep the world; copies that change nothing; a void call of which nothing is kept -/
abbrev KQ (l : Launch) (D : va_G) (t : Nat → ClassId) (y : MethodName) (bytes : ByteArray) (maxL : Nat) (ret : Option FieldType) (rm : Room) (ws : va_W) (sz : Nat) (av : List Value) (v : Option Nat) : Prop := Met l y (Cond.code y bytes maxL ret :: big) rm (PC D t ws sz av) (va_Qq (fun r (_ : Unit) => r = v) (fun _ u => va_P D cl1 ws u.heap) (va_A ws sz)) 0 0 (va_A ws sz)
abbrev AV (l : Launch) (D : va_G) (t : Nat → ClassId) (y : MethodName) (bytes : ByteArray) (maxL : Nat) (rm : Room) (ws : va_W) (sz : Nat) (av : List Value) : Prop := Met l y (Cond.code y bytes maxL none :: big) rm (PC D t ws sz av) (va_Qv (fun (_ : Unit) => True) (fun _ _ => True) (va_A ws sz)) 0 0 (va_A ws sz)
section H22
variable {p : Program} {l : Launch} {e : Env} {R : Room} {s : State} {m : MethodId} {args : Array Value} {below : List Frame} {meth : Method} {c : Code} {H : Heap} {locs : List Loc} {cells slots : Nat} {Q : State → Prop} {cc : ByteArray} {pc : Nat} {ls : Array Slot} {rest : List Value} {D : va_G} {t : Nat → ClassId} {A : Nat → Prop} {H0 : Heap} {ws : va_W} {own : String} {nL : Nat}
variable {C : String} {y : MethodName} {bytes : ByteArray} {maxL n index : Nat} {ret : Option FieldType} {rm : Room} {As st0 : List Value} {b q0 ci N : Nat} {fs : List Value} {T : u_T} {ty : Nat → FieldType}
theorem r_cKQ {v : Option Nat} (hF : FX p m c cc nL s args own D t) (hm : MV own index C y bytes maxL ret n) (hC : CI ci C T N ty) (hM : ∀ sz, KQ l D t y bytes maxL ret rm ws sz (.ref b :: As) v) (hdg : decode cc pc = .ok (.invokevirtual index, 3)) (hrc : rm.cells = 0) (hrs : rm.slots = 0) (hR : rm.frames + 1 ≤ R.frames ∧ 8 + (maxL + 11) + rm.locals ≤ R.locals) (hn : As.length = n) (hls : ls.size = nL) (hW : (rest.map fun v => v.category).sum ≤ 8) (hP : va_P D cl1 ws H) (hD : va_D A ws) (hS : va_S A H0 H locs) (hA : ∀ q, H0.size ≤ q → A q) (he : ws[q0]? = some (b, .inr (ci, fs))) (hf : cells ≤ R.cells ∧ slots ≤ R.slots) (hst : st0 = As.reverse ++ .ref b :: rest)
    (kk : ∀ (H1 : Heap) (locs1 : List Loc), va_P D cl1 ws H1 → va_S A H0 H1 locs1 → W p l e R s m args below meth c H1 locs1 cells slots Q (F0 m (pc + 3) ls (va_rf v :: rest))) : W p l e R s m args below meth c H locs cells slots Q (F0 m pc ls st0) := by
  refine va_callq (r_runV hF hm hC (hM H.size) hdg hrc hrs hR hn hls hW hP hD he hf hst) hS (fun q _ h => a_in hD hS hA q h) (a_in hD hS hA) (fun r u t1 H1 locs1 ht _ hw hB _ _ hS1 => ?_)
  subst hw
  have hB : va_P D cl1 ws t1.heap := hB
  rw [ht] at hB
  exact kk H1 locs1 hB hS1
theorem r_cAV (hF : FX p m c cc nL s args own D t) (hm : MV own index C y bytes maxL none n) (hC : CI ci C T N ty) (hM : ∀ sz, AV l D t y bytes maxL rm ws sz (.ref b :: As)) (hdg : decode cc pc = .ok (.invokevirtual index, 3)) (hrc : rm.cells = 0) (hrs : rm.slots = 0) (hR : rm.frames + 1 ≤ R.frames ∧ 8 + (maxL + 11) + rm.locals ≤ R.locals) (hn : As.length = n) (hls : ls.size = nL) (hW : (rest.map fun v => v.category).sum ≤ 8) (hP : va_P D cl1 ws H) (hD : va_D A ws) (hS : va_S A H0 H locs) (hA : ∀ q, H0.size ≤ q → A q) (he : ws[q0]? = some (b, .inr (ci, fs))) (hf : cells ≤ R.cells ∧ slots ≤ R.slots) (hst : st0 = As.reverse ++ .ref b :: rest)
    (kk : ∀ (H1 : Heap) (locs1 : List Loc), va_S A H0 H1 locs1 → W p l e R s m args below meth c H1 locs1 cells slots Q (F0 m (pc + 3) ls rest)) : W p l e R s m args below meth c H locs cells slots Q (F0 m pc ls st0) :=
  va_callv (r_runV hF hm hC (hM H.size) hdg hrc hrs hR hn hls hW hP hD he hf hst) hS (fun q _ h => a_in hD hS hA q h) (a_in hD hS hA) (fun u t1 H1 locs1 _ _ _ _ _ _ hS1 => kk H1 locs1 hS1)
theorem r_retQ {v : Option Nat} {C : String} (hF : FX p m c cc nL s args own D t) (hr : meth.sig.returnType = some (.object C)) (hlk : meth.locks = false) (hdg : decode cc pc = .ok (.areturn, 1)) (hP : va_P D cl1 ws H) (hS : va_S A s.heap H locs) : W p l e R s m args below meth c H locs cells slots (MQ below (va_Qq (fun r (_ : Unit) => r = v) (fun _ u => va_P D cl1 ws u.heap) A) args s cells slots A) (F0 m pc ls [va_rf v]) :=
  W.aret hF.1.1 hF.1.2.1 hr (Or.inl ⟨C, rfl⟩) (by cases v with
    | none => exact Or.inl rfl
    | some x => exact Or.inr ⟨x, rfl⟩) (fun t1 ht _ => ⟨⟨v, (), rfl, rfl, by show va_P D cl1 ws t1.heap; rw [ht]; exact hP⟩, hS.F ht⟩) hS.2.2 hdg hlk
theorem r_retAV (hF : FX p m c cc nL s args own D t) (hr : meth.sig.returnType = none) (hlk : meth.locks = false) (hdg : decode cc pc = .ok (.return_, 1)) (hS : va_S A s.heap H locs) : W p l e R s m args below meth c H locs cells slots (MQ below (va_Qv (fun (_ : Unit) => True) (fun _ _ => True) A) args s cells slots A) (F0 m pc ls []) :=
  W.vret hF.1.1 hF.1.2.1 hr (fun t1 ht _ => ⟨⟨(), rfl, trivial, trivial⟩, hS.F ht⟩) hS.2.2 hdg hlk
/-- bytes copied over bytes that are the same -/
theorem r_copy0 {q1 a a0 n0 n1 : Nat} {f g : Nat → Int32} {sp dp nn : Int32} (hF : FX p m c cc nL s args own D t) (hls : ls.size = nL) (w1 : Cond.methodLink own index arraycopyName ∈ big) (w2 : Cond.native arraycopyName ∈ big) (w3 : Cond.static arraycopyName ∈ big) (w4 : Cond.initialized "java/lang/System" ∈ big) (hdg : decode cc pc = .ok (.invokestatic index, 3)) (hP : va_P D cl1 ws H) (hD : va_D A ws) (hS : va_S A H0 H locs) (ha0 : ws[q0]? = some (a0, .inl (t 0, n0, .inl f))) (ha1 : ws[q1]? = some (a, .inl (t 0, n1, .inl g)))
    (h1 : ¬ sp < 0) (h2 : ¬ dp < 0) (h3 : ¬ nn < 0) (h4 : sp.toNatClampNeg + nn.toNatClampNeg ≤ n0) (h5 : dp.toNatClampNeg + nn.toNatClampNeg ≤ n1) (hfit : ∀ i, i < nn.toNatClampNeg → fits .byte (.int (f (sp.toNatClampNeg + i))) = true) (hsame : ∀ i, i < nn.toNatClampNeg → f (sp.toNatClampNeg + i) = g (dp.toNatClampNeg + i))
    (hframes : 1 ≤ R.frames) (hlocals : (rest.map fun v => v.category).sum + (nativeFrameWords "java/lang/System" "arraycopy" 5 + 11) ≤ R.locals)
    (kk : ∀ (H1 : Heap) (locs1 : List Loc), va_P D cl1 ws H1 → va_S A H0 H1 locs1 → W p l e R s m args below meth c H1 locs1 cells slots Q (F0 m (pc + 3) ls rest)) : W p l e R s m args below meth c H locs cells slots Q (F0 m pc ls (.int nn :: .int dp :: .ref a :: .int sp :: .ref a0 :: rest)) :=
  va_copyi hF.1.1 hF.1.2.1 (hF.1.2.2.1.trans hls.symm) hF.1.2.2.2.1 (hF.1.2.2.2.2 _ w1) (hF.1.2.2.2.2 _ w2) (hF.1.2.2.2.2 _ w3) (hF.1.2.2.2.2 _ w4) hF.2.1 hP hD hS q0 q1 0 0 ha0 ha1 rfl rfl rfl h1 h2 h3 h4 h5 hfit hframes hlocals hdg (fun H1 l1 p1 _ p3 => kk H1 l1 (by rw [cpy_id hsame, set_id ha1] at p1; exact p1) p3)
end H22
theorem set_ne' {ws : va_W} {i j : Nat} {x : Nat × va_E} (h : i ≠ j) : (ws.set i x)[j]? = ws[j]? := List.getElem?_set_ne h
theorem ne_kind {ws : va_W} {i j a b ci cj : Nat} {fs gs : List Value} (hi : ws[i]? = some (a, .inr (ci, fs))) (hj : ws[j]? = some (b, .inr (cj, gs))) (h : ci ≠ cj) : i ≠ j := by
  intro z
  subst z
  have := Option.some.inj (hi.symm.trans hj)
  have h2 := Sum.inr.inj (Prod.mk.inj this).2
  exact h (Prod.mk.inj h2).1
theorem ne_arr {ws : va_W} {i j a b ci : Nat} {fs : List Value} {x : ClassId × vp_A} (hi : ws[i]? = some (a, .inr (ci, fs))) (hj : ws[j]? = some (b, .inl x)) : i ≠ j := by
  intro z
  subst z
  have := Option.some.inj (hi.symm.trans hj)
  cases (Prod.mk.inj this).2

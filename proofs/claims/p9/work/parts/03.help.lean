/-! general rows: a context, fields, arrays, stores that change nothing, calls that keep the world -/
theorem set_id {α : Type} {l : List α} {i : Nat} {x : α} (h : l[i]? = some x) : l.set i x = l := by
  have hl := (List.getElem?_eq_some_iff.mp h).1
  apply List.ext_getElem?
  intro j
  by_cases hj : j = i
  · subst hj
    rw [List.getElem?_set_self hl, h]
  · rw [List.getElem?_set_ne (Ne.symm hj)]
theorem upd_id {f : Nat → Int32} {k : Nat} {x : Int32} (h : f k = x) : upd f k x = f := by
  funext j
  unfold upd
  by_cases hj : j = k
  · rw [if_pos hj, hj, h]
  · rw [if_neg hj]
theorem updL_id {f : Nat → Int64} {k : Nat} {x : Int64} (h : f k = x) : vp_updL f k x = f := by
  funext j
  unfold vp_updL
  by_cases hj : j = k
  · rw [if_pos hj, hj, h]
  · rw [if_neg hj]
theorem cpy_id {f g : Nat → Int32} {sp dp n : Nat} (h : ∀ i, i < n → f (sp + i) = g (dp + i)) : va_cpy f g sp dp n = g := by
  funext j
  unfold va_cpy
  by_cases hj : dp ≤ j ∧ j < dp + n
  · rw [if_pos hj, h (j - dp) (by omega)]
    congr 1
    omega
  · rw [if_neg hj]
abbrev tys1 (t : Nat → ClassId) : List (ClassId × FieldType) := [(t 0, .byte), (t 1, .int), (t 2, .long), (t 3, .boolean), (t 4, .object "ShareHouse$Change"), (t 5, .object "ShareHouse$Conn"), (t 6, .object "ShareHouse$Node"), (t 7, .object "java/lang/Object")]
def nestL : List (String × Nat × MethodName × String) := [("ShareHouse", 9, ⟨"ShareHouse$Row", "<init>", "()V"⟩, "ShareHouse"), ("ShareHouse", 77, ⟨"ShareHouse$Conn", "<init>", "()V"⟩, "ShareHouse"), ("ShareHouse$Conn", 11, ⟨"ShareHouse$Row", "<init>", "()V"⟩, "ShareHouse"), ("ShareHouse", 78, ⟨"ShareHouse$Change", "<init>", "()V"⟩, "ShareHouse"), ("ShareHouse$Lock", 24, ⟨"ShareHouse", "below", "(JJ)Z"⟩, "ShareHouse"), ("ShareHouse$Volume", 41, ⟨"ShareHouse", "upper", "(I)I"⟩, "ShareHouse"), ("ShareHouse", 633, ⟨"ShareHouse$Wish", "<init>", "()V"⟩, "ShareHouse"), ("ShareHouse$Open", 67, ⟨"ShareHouse", "upper", "(I)I"⟩, "ShareHouse"), ("ShareHouse$Node", 73, ⟨"ShareHouse", "upper", "(I)I"⟩, "ShareHouse")]
def castL : List (String × String) := [("[B", "java/lang/Cloneable"), ("ShareHouse$Asked", "ShareHouse$Asked"), ("ShareHouse$Session", "ShareHouse$Session"), ("ShareHouse$Lock", "ShareHouse$Lock"), ("ShareHouse$Open", "ShareHouse$Open"), ("ShareHouse$TreeLink", "ShareHouse$TreeLink"), ("ShareHouse", "java/lang/Object"), ("ShareHouse$Row", "java/lang/Object"), ("ShareHouse$Volume", "java/lang/Object"), ("ShareHouse$Node", "java/lang/Object"), ("ShareHouse$Conn", "java/lang/Object"), ("ShareHouse$Change", "java/lang/Object"), ("ShareHouseModel", "java/lang/Object"), ("ShareHouse$Open", "java/lang/Object"), ("ShareHouse$Asked", "java/lang/Object"), ("ShareHouse$Wish", "java/lang/Object"), ("ShareHouse$Lock", "java/lang/Object"), ("ShareHouse$Session", "java/lang/Object"), ("ShareHouse$TreeLink", "java/lang/Object"), ("java/lang/String", "java/lang/Object")]
def overL : List String := ["ShareHouse$Conn", "ShareHouse$Node", "ShareHouse$Change", "java/lang/Object"]
/-- words of the tables that hold at every state of the run: links to a nest mate's members, casts, arrays of a class -/
def NWS (U : State) : Prop := (∀ q ∈ nestL, va_Nw (.methodLinkNest q.1 q.2.1 q.2.2.1 q.2.2.2) U) ∧ (∀ q ∈ castL, va_Nw (.castable q.1 q.2) U) ∧ ∀ C ∈ overL, va_AO C U
theorem NWS.warm {s U : State} (hW : s.WarmedH U.vm) (h : NWS s) : NWS U := ⟨fun q hq => va_Nw.warmM hW (h.1 q hq), fun q hq => va_Nw.warmC hW (h.2.1 q hq), fun C hC => va_AO.moved hW.alike (h.2.2 C hC)⟩
theorem NWS.same {s U : State} (e : s.vm = U.vm) (h : NWS s) : NWS U := ⟨fun q hq => va_Nw.same rfl e (h.1 q hq), fun q hq => va_Nw.same rfl e (h.2.1 q hq), fun C hC => va_AO.moved (by rw [e]; exact Vm.Alike.refl _) (h.2.2 C hC)⟩
def FX (p : Program) (m : MethodId) (c : Code) (cc : ByteArray) (nL : Nat) (s : State) (args : Array Value) (own : String) (D : va_G) (t : Nat → ClassId) : Prop := (p.tables.exec = Jvm.exec ∧ c.code = cc ∧ c.maxLocals = nL ∧ s.vm.findClass own = some m.cls ∧ ∀ w ∈ big, w.before args s = true) ∧ (va_K D cl1 (tys1 t) s ∧ NWS s)
def CI (ci : Nat) (C : String) (T : u_T) (N : Nat) (ty : Nat → FieldType) : Prop := cl1[ci]? = some (C, T, N) ∧ (∀ w ∈ u_ws C T N, w ∈ big) ∧ (∀ k, k < N → parseFieldDescriptor (T k).2.2.1 = some (ty k)) ∧ ∀ a, a < N → ∀ b, b < N → a ≠ b → (T a).2.1 ≠ (T b).2.1
theorem ci_X12 : CI 0 RX12 TX12 120 tyX12 := ⟨rfl, lay_X12, tyX12_ok, nmX12⟩
theorem ci_X11 : CI 1 RX11 TX11 18 tyX11 := ⟨rfl, lay_X11, tyX11_ok, nmX11⟩
theorem ci_X6 : CI 2 RX6 TX6 2 tyX6 := ⟨rfl, lay_X6, tyX6_ok, nmX6⟩
theorem ci_X2 : CI 3 RX2 TX2 15 tyX2 := ⟨rfl, lay_X2, tyX2_ok, nmX2⟩
theorem ci_X1 : CI 4 RX1 TX1 15 tyX1 := ⟨rfl, lay_X1, tyX1_ok, nmX1⟩
theorem ci_X4 : CI 5 RX4 TX4 14 tyX4 := ⟨rfl, lay_X4, tyX4_ok, nmX4⟩
theorem ci_X9 : CI 6 RX9 TX9 2 tyX9 := ⟨rfl, lay_X9, tyX9_ok, nmX9⟩
theorem ci_Jx4a65c : CI 7 RJx4a65c TJx4a65c 3 tyJx4a65c := ⟨rfl, lay_Jx4a65c, tyJx4a65c_ok, nmJx4a65c⟩
theorem ci_X0 : CI 8 RX0 TX0 21 tyX0 := ⟨rfl, lay_X0, tyX0_ok, nmX0⟩
theorem ci_X3 : CI 9 RX3 TX3 4 tyX3 := ⟨rfl, lay_X3, tyX3_ok, nmX3⟩
theorem ci_X5 : CI 10 RX5 TX5 15 tyX5 := ⟨rfl, lay_X5, tyX5_ok, nmX5⟩
theorem ci_X7 : CI 11 RX7 TX7 5 tyX7 := ⟨rfl, lay_X7, tyX7_ok, nmX7⟩
theorem ci_X8 : CI 12 RX8 TX8 4 tyX8 := ⟨rfl, lay_X8, tyX8_ok, nmX8⟩
theorem ci_X10 : CI 13 RX10 TX10 13 tyX10 := ⟨rfl, lay_X10, tyX10_ok, nmX10⟩
def FL (own : String) (index : Nat) (T : u_T) (N k : Nat) : Prop := k < N ∧ Cond.fieldLink own index (T k).1 (T k).2.1 (T k).2.2.1 ∈ big
/-- a method's start: the world ws, the classes, the heap's size -/
def PC (D : va_G) (t : Nat → ClassId) (ws : va_W) (sz : Nat) (av : List Value) : Array Value → State → Prop := va_Pc av (fun U => U.heap.size = sz ∧ va_P D cl1 ws U.heap ∧ va_K D cl1 (tys1 t) U ∧ NWS U ∧ va_D (fun _ => True) ws)
theorem gw {ws : List Cond} (h : ∀ w ∈ ws, w ∈ big) : GoodIn big ws := fun w hw => ⟨h w hw, good_of_word (big_good w (h w hw))⟩
def MV (own : String) (index : Nat) (C : String) (y : MethodName) (bytes : ByteArray) (maxL : Nat) (ret : Option FieldType) (n : Nat) : Prop :=
  (Cond.methodLink own index y ∈ big ∧ Cond.instanceMethod y ∈ big ∧ Cond.selects C y y ∈ big ∧ Cond.initialized C ∈ big ∧ Cond.code y bytes maxL ret ∈ big) ∧ y.cls = C ∧ y.cls ≠ "java/lang/invoke/MethodHandle" ∧ y.cls ≠ "java/lang/invoke/VarHandle" ∧ (parseMethodDescriptor y.desc).map (fun d => d.parameters.length) = some n
def MS (own : String) (index : Nat) (y : MethodName) (bytes : ByteArray) (maxL : Nat) (ret : Option FieldType) (n : Nat) : Prop :=
  (Cond.methodLink own index y ∈ big ∧ Cond.static y ∈ big ∧ Cond.initialized y.cls ∈ big ∧ Cond.code y bytes maxL ret ∈ big) ∧ y.cls ≠ "java/lang/invoke/MethodHandle" ∧ y.cls ≠ "java/lang/invoke/VarHandle" ∧ (parseMethodDescriptor y.desc).map (fun d => d.parameters.length) = some n
def MI (own : String) (index : Nat) (y : MethodName) (bytes : ByteArray) (maxL : Nat) (n : Nat) : Prop :=
  (Cond.methodLink own index y ∈ big ∧ Cond.instanceMethod y ∈ big ∧ Cond.initialized y.cls ∈ big ∧ Cond.code y bytes maxL none ∈ big) ∧ y.name = "<init>" ∧ y.cls ≠ "java/lang/invoke/MethodHandle" ∧ y.cls ≠ "java/lang/invoke/VarHandle" ∧ (parseMethodDescriptor y.desc).map (fun d => d.parameters.length) = some n
section H3
variable {p : Program} {l : Launch} {e : Env} {R : Room} {s : State} {m : MethodId} {args : Array Value} {below : List Frame} {meth : Method} {c : Code} {H : Heap} {locs : List Loc} {cells slots : Nat} {Q : State → Prop} {cc : ByteArray} {pc : Nat} {ls : Array Slot} {rest : List Value} {D : va_G} {t : Nat → ClassId} {A : Nat → Prop} {H0 : Heap} {ws : va_W} {own : String} {nL : Nat}
theorem PC_blind {sz : Nat} {av : List Value} : FrameBlind (PC D t ws sz av) := fun a U g mk q => by
  obtain ⟨q0, q1, qP, qK, qN, qD⟩ := q
  exact ⟨q0, q1, qP, va_K.moved (u := U) (U := U.calling g mk a) (Vm.Alike.refl U.vm) qK, NWS.same (s := U) (U := U.calling g mk a) rfl qN, qD⟩
theorem PC_at {av : List Value} (hP : va_P D cl1 ws H) (hD : va_D A ws) (hK : va_K D cl1 (tys1 t) s ∧ NWS s) : ∀ U : State, U.heap = H → s.WarmedH U.vm → PC D t ws H.size av av.toArray U :=
  fun U hU hW => ⟨rfl, by rw [hU], by rw [hU]; exact hP, va_K.moved hW.alike hK.1, NWS.warm hW hK.2, hD.weaken (fun _ _ _ _ => trivial)⟩
/-- the walk of a method from its entry -/
theorem go {y : MethodName} {maxL : Nat} {ret : Option FieldType} {rm : Room} {sz : Nat} {av : List Value} {Qc : Array Value → State → Outcome → State → Prop} {mc ms : Nat} {free : Addr → Prop} (hy : plainName y.cls = true) (hav : (lg_sl av).length ≤ maxL)
    (body : ∀ (p : Program) (e : Env) (s : State) (m : MethodId) (below : List Frame) (meth : Method) (c : Code) (ls : Array Slot) (A : Nat → Prop), FX p m c cc maxL s av.toArray y.cls D t → meth.sig.returnType = ret → meth.locks = false → meth.name = y.name → sz = s.heap.size → (va_A ws sz = A) → va_P D cl1 ws s.heap → va_D A ws → va_S A s.heap s.heap [] → (∀ q, s.heap.size ≤ q → A q) → lv_has ls maxL (lv_args 0 av) →
      W p l e rm s m av.toArray below meth c s.heap [] 0 0 (MQ below Qc av.toArray s mc ms free) (F0 m 0 ls [])) : Met l y (Cond.code y cc maxL ret :: big) rm (PC D t ws sz av) Qc mc ms free := by
  refine Met.ofW (cc := cc) (maxL := maxL) (ret := ret) hy rfl ?_
  intro p e s m args below meth c s₁ B hml hv
  obtain ⟨rfl, hsz, hP, hK, hN, hD0⟩ := hv
  have hts := atoms_spec (ws := Cond.code y cc maxL ret :: big) B.pre
  have hown : s.vm.findClass y.cls = some m.cls := findClass_of_methodNamed B.named
  have hin : meth.name = y.name := (name_of_methodNamed B.named B.method).1
  rw [lg_entry_eq]
  have hl := lv_entry av (n := maxL) hav
  generalize (lg_sl av ++ List.replicate (maxL - (lg_sl av).length) Slot.unset).toArray = ls at hl ⊢
  exact body p e s m below meth c ls (va_A ws sz) ⟨⟨B.exec, B.bytes, hml, hown, fun w hw => hts w (List.mem_cons_of_mem _ hw)⟩, hK, hN⟩ B.returns B.notSynchronized hin hsz.symm rfl hP hD0.self va_S.rf (fun q h => Or.inr (by rw [← hsz]; exact h)) hl
theorem r_get {ci : Nat} {C : String} {T : u_T} {N : Nat} {ty : Nat → FieldType} {index k q0 a : Nat} {fs : List Value} {v : Value} (hF : FX p m c cc nL s args own D t) (hC : CI ci C T N ty) (hL : FL own index T N k) (hdg : decode cc pc = .ok (.getfield index, 3)) (hP : va_P D cl1 ws H) (he : ws[q0]? = some (a, .inr (ci, fs))) (hv : fs[k]? = some v)
    (kk : W p l e R s m args below meth c H locs cells slots Q (F0 m (pc + 3) ls (v :: rest))) : W p l e R s m args below meth c H locs cells slots Q (F0 m pc ls (.ref a :: rest)) :=
  va_get hF.1.1 hF.1.2.1 hF.1.2.2.2.2 hC.2.1 hF.1.2.2.2.1 hF.2.1 hP q0 he hC.1 k hL.1 (hF.1.2.2.2.2 _ hL.2) (fun _ h => h) hv hdg kk
theorem r_put {ci : Nat} {C : String} {T : u_T} {N : Nat} {ty : Nat → FieldType} {index k q0 a : Nat} {fs : List Value} {v : Value} (hF : FX p m c cc nL s args own D t) (hC : CI ci C T N ty) (hL : FL own index T N k) (hdg : decode cc pc = .ok (.putfield index, 3)) (hP : va_P D cl1 ws H) (hD : va_D A ws) (hS : va_S A H0 H locs) (he : ws[q0]? = some (a, .inr (ci, fs))) (hfin : (T k).2.2.2 = false) (hn : narrow (ty k) v = v) (hfit : fits (ty k) v = true) (hl : k < fs.length)
    (kk : ∀ (H1 : Heap) (locs1 : List Loc), va_P D cl1 (ws.set q0 (a, .inr (ci, fs.set k v))) H1 → va_D A (ws.set q0 (a, .inr (ci, fs.set k v))) → va_S A H0 H1 locs1 → W p l e R s m args below meth c H1 locs1 cells slots Q (F0 m (pc + 3) ls rest)) : W p l e R s m args below meth c H locs cells slots Q (F0 m pc ls (v :: .ref a :: rest)) :=
  va_put hF.1.1 hF.1.2.1 hF.1.2.2.2.2 hC.2.1 ty hC.2.2.1 hC.2.2.2 hF.1.2.2.2.1 hF.2.1 hP hD hS q0 he hC.1 k hL.1 (hF.1.2.2.2.2 _ hL.2) (fun _ h => h) hfin (hC.2.2.1 k hL.1) hn hfit hl hdg kk
theorem r_putF {ci : Nat} {T : u_T} {N : Nat} {ty : Nat → FieldType} {index k q0 a : Nat} {fs : List Value} {v : Value} (hF : FX p m c cc nL s args own D t) (hC : CI ci own T N ty) (hL : FL own index T N k) (hdg : decode cc pc = .ok (.putfield index, 3)) (hP : va_P D cl1 ws H) (hD : va_D A ws) (hS : va_S A H0 H locs) (he : ws[q0]? = some (a, .inr (ci, fs))) (hin : meth.name = "<init>") (hfin : (T k).2.2.2 = true) (hdc : (T k).1 = own) (hn : narrow (ty k) v = v) (hfit : fits (ty k) v = true) (hl : k < fs.length)
    (kk : ∀ (H1 : Heap) (locs1 : List Loc), va_P D cl1 (ws.set q0 (a, .inr (ci, fs.set k v))) H1 → va_D A (ws.set q0 (a, .inr (ci, fs.set k v))) → va_S A H0 H1 locs1 → W p l e R s m args below meth c H1 locs1 cells slots Q (F0 m (pc + 3) ls rest)) : W p l e R s m args below meth c H locs cells slots Q (F0 m pc ls (v :: .ref a :: rest)) :=
  va_putF hF.1.1 hF.1.2.1 hF.1.2.2.2.2 hC.2.1 ty hC.2.2.1 hC.2.2.2 hF.1.2.2.2.1 hF.2.1 hP hD hS q0 he hC.1 k hL.1 (hF.1.2.2.2.2 _ hL.2) (fun _ h => h) hfin hin hdc (hC.2.2.1 k hL.1) hn hfit hl hdg kk
/-- a field gets what it has -/
theorem r_put0 {ci : Nat} {C : String} {T : u_T} {N : Nat} {ty : Nat → FieldType} {index k q0 a : Nat} {fs : List Value} {v : Value} (hF : FX p m c cc nL s args own D t) (hC : CI ci C T N ty) (hL : FL own index T N k) (hdg : decode cc pc = .ok (.putfield index, 3)) (hP : va_P D cl1 ws H) (hD : va_D A ws) (hS : va_S A H0 H locs) (he : ws[q0]? = some (a, .inr (ci, fs))) (hv : fs[k]? = some v) (hfin : (T k).2.2.2 = false) (hn : narrow (ty k) v = v) (hfit : fits (ty k) v = true)
    (kk : ∀ (H1 : Heap) (locs1 : List Loc), va_P D cl1 ws H1 → va_S A H0 H1 locs1 → W p l e R s m args below meth c H1 locs1 cells slots Q (F0 m (pc + 3) ls rest)) : W p l e R s m args below meth c H locs cells slots Q (F0 m pc ls (v :: .ref a :: rest)) :=
  r_put hF hC hL hdg hP hD hS he hfin hn hfit (List.getElem?_eq_some_iff.mp hv).1 (fun H1 l1 h1 _ h3 => kk H1 l1 (by rw [set_id hv, set_id he] at h1; exact h1) h3)
theorem r_iald {q0 a n : Nat} {f : Nat → Int32} {i v : Int32} (hF : FX p m c cc nL s args own D t) (hdg : decode cc pc = .ok (.iaload, 1)) (hP : va_P D cl1 ws H) (he : ws[q0]? = some (a, .inl (t 1, n, .inl f))) (hin : vp_in i n) (hv : f i.toNatClampNeg = v) (kk : W p l e R s m args below meth c H locs cells slots Q (F0 m (pc + 1) ls (.int v :: rest))) : W p l e R s m args below meth c H locs cells slots Q (F0 m pc ls (.int i :: .ref a :: rest)) :=
  va_iald hF.1.1 hF.1.2.1 hF.2.1 hP q0 1 he rfl hin hdg (by rw [hv]; exact kk)
theorem r_bald {q0 a n : Nat} {f : Nat → Int32} {i v : Int32} (hF : FX p m c cc nL s args own D t) (hdg : decode cc pc = .ok (.baload, 1)) (hP : va_P D cl1 ws H) (he : ws[q0]? = some (a, .inl (t 0, n, .inl f))) (hin : vp_in i n) (hv : f i.toNatClampNeg = v) (kk : W p l e R s m args below meth c H locs cells slots Q (F0 m (pc + 1) ls (.int v :: rest))) : W p l e R s m args below meth c H locs cells slots Q (F0 m pc ls (.int i :: .ref a :: rest)) :=
  va_bald hF.1.1 hF.1.2.1 hF.2.1 hP q0 0 he rfl hin hdg (by rw [hv]; exact kk)
theorem r_zald {q0 a n : Nat} {f : Nat → Int32} {i v : Int32} (hF : FX p m c cc nL s args own D t) (hdg : decode cc pc = .ok (.baload, 1)) (hP : va_P D cl1 ws H) (he : ws[q0]? = some (a, .inl (t 3, n, .inl f))) (hin : vp_in i n) (hv : f i.toNatClampNeg = v) (kk : W p l e R s m args below meth c H locs cells slots Q (F0 m (pc + 1) ls (.int v :: rest))) : W p l e R s m args below meth c H locs cells slots Q (F0 m pc ls (.int i :: .ref a :: rest)) :=
  va_zald hF.1.1 hF.1.2.1 hF.2.1 hP q0 3 he rfl hin hdg (by rw [hv]; exact kk)
theorem r_lald {q0 a n : Nat} {f : Nat → Int64} {i : Int32} {v : Int64} (hF : FX p m c cc nL s args own D t) (hdg : decode cc pc = .ok (.laload, 1)) (hP : va_P D cl1 ws H) (he : ws[q0]? = some (a, .inl (t 2, n, .inr (.inl f)))) (hin : vp_in i n) (hv : f i.toNatClampNeg = v) (kk : W p l e R s m args below meth c H locs cells slots Q (F0 m (pc + 1) ls (.long v :: rest))) : W p l e R s m args below meth c H locs cells slots Q (F0 m pc ls (.int i :: .ref a :: rest)) :=
  va_lald hF.1.1 hF.1.2.1 hF.2.1 hP q0 2 he rfl hin hdg (by rw [hv]; exact kk)
theorem r_iast {q0 a n : Nat} {f : Nat → Int32} {i x : Int32} (hF : FX p m c cc nL s args own D t) (hdg : decode cc pc = .ok (.iastore, 1)) (hP : va_P D cl1 ws H) (hD : va_D A ws) (hS : va_S A H0 H locs) (he : ws[q0]? = some (a, .inl (t 1, n, .inl f))) (hin : vp_in i n) (kk : ∀ (H1 : Heap) (locs1 : List Loc), va_P D cl1 (ws.set q0 (a, .inl (t 1, n, .inl (upd f i.toNatClampNeg x)))) H1 → va_D A (ws.set q0 (a, .inl (t 1, n, .inl (upd f i.toNatClampNeg x)))) → va_S A H0 H1 locs1 → W p l e R s m args below meth c H1 locs1 cells slots Q (F0 m (pc + 1) ls rest)) : W p l e R s m args below meth c H locs cells slots Q (F0 m pc ls (.int x :: .int i :: .ref a :: rest)) :=
  va_iast hF.1.1 hF.1.2.1 hF.2.1 hP hD hS q0 1 he rfl hin hdg kk
theorem r_bast {q0 a n : Nat} {f : Nat → Int32} {i x : Int32} (hF : FX p m c cc nL s args own D t) (hdg : decode cc pc = .ok (.bastore, 1)) (hP : va_P D cl1 ws H) (hD : va_D A ws) (hS : va_S A H0 H locs) (he : ws[q0]? = some (a, .inl (t 0, n, .inl f))) (hin : vp_in i n) (kk : ∀ (H1 : Heap) (locs1 : List Loc), va_P D cl1 (ws.set q0 (a, .inl (t 0, n, .inl (upd f i.toNatClampNeg (vp_nar .byte x))))) H1 → va_D A (ws.set q0 (a, .inl (t 0, n, .inl (upd f i.toNatClampNeg (vp_nar .byte x))))) → va_S A H0 H1 locs1 → W p l e R s m args below meth c H1 locs1 cells slots Q (F0 m (pc + 1) ls rest)) : W p l e R s m args below meth c H locs cells slots Q (F0 m pc ls (.int x :: .int i :: .ref a :: rest)) :=
  va_bast hF.1.1 hF.1.2.1 hF.2.1 hP hD hS q0 0 he rfl hin hdg kk
theorem r_zast {q0 a n : Nat} {f : Nat → Int32} {i x : Int32} (hF : FX p m c cc nL s args own D t) (hdg : decode cc pc = .ok (.bastore, 1)) (hP : va_P D cl1 ws H) (hD : va_D A ws) (hS : va_S A H0 H locs) (he : ws[q0]? = some (a, .inl (t 3, n, .inl f))) (hin : vp_in i n) (kk : ∀ (H1 : Heap) (locs1 : List Loc), va_P D cl1 (ws.set q0 (a, .inl (t 3, n, .inl (upd f i.toNatClampNeg (vp_nar .boolean x))))) H1 → va_D A (ws.set q0 (a, .inl (t 3, n, .inl (upd f i.toNatClampNeg (vp_nar .boolean x))))) → va_S A H0 H1 locs1 → W p l e R s m args below meth c H1 locs1 cells slots Q (F0 m (pc + 1) ls rest)) : W p l e R s m args below meth c H locs cells slots Q (F0 m pc ls (.int x :: .int i :: .ref a :: rest)) :=
  va_zast hF.1.1 hF.1.2.1 hF.2.1 hP hD hS q0 3 he rfl hin hdg kk
theorem r_last {q0 a n : Nat} {f : Nat → Int64} {i : Int32} {x : Int64} (hF : FX p m c cc nL s args own D t) (hdg : decode cc pc = .ok (.lastore, 1)) (hP : va_P D cl1 ws H) (hD : va_D A ws) (hS : va_S A H0 H locs) (he : ws[q0]? = some (a, .inl (t 2, n, .inr (.inl f)))) (hin : vp_in i n) (kk : ∀ (H1 : Heap) (locs1 : List Loc), va_P D cl1 (ws.set q0 (a, .inl (t 2, n, .inr (.inl (vp_updL f i.toNatClampNeg x))))) H1 → va_D A (ws.set q0 (a, .inl (t 2, n, .inr (.inl (vp_updL f i.toNatClampNeg x))))) → va_S A H0 H1 locs1 → W p l e R s m args below meth c H1 locs1 cells slots Q (F0 m (pc + 1) ls rest)) : W p l e R s m args below meth c H locs cells slots Q (F0 m pc ls (.long x :: .int i :: .ref a :: rest)) :=
  va_last hF.1.1 hF.1.2.1 hF.2.1 hP hD hS q0 2 he rfl hin hdg kk
/-- stores that change nothing -/
theorem r_iast0 {q0 a n : Nat} {f : Nat → Int32} {i x : Int32} (hF : FX p m c cc nL s args own D t) (hdg : decode cc pc = .ok (.iastore, 1)) (hP : va_P D cl1 ws H) (hD : va_D A ws) (hS : va_S A H0 H locs) (he : ws[q0]? = some (a, .inl (t 1, n, .inl f))) (hin : vp_in i n) (hv : f i.toNatClampNeg = x) (kk : ∀ (H1 : Heap) (locs1 : List Loc), va_P D cl1 ws H1 → va_S A H0 H1 locs1 → W p l e R s m args below meth c H1 locs1 cells slots Q (F0 m (pc + 1) ls rest)) : W p l e R s m args below meth c H locs cells slots Q (F0 m pc ls (.int x :: .int i :: .ref a :: rest)) :=
  r_iast hF hdg hP hD hS he hin (fun H1 l1 h1 _ h3 => kk H1 l1 (by rw [upd_id hv, set_id he] at h1; exact h1) h3)
theorem r_bast0 {q0 a n : Nat} {f : Nat → Int32} {i x : Int32} (hF : FX p m c cc nL s args own D t) (hdg : decode cc pc = .ok (.bastore, 1)) (hP : va_P D cl1 ws H) (hD : va_D A ws) (hS : va_S A H0 H locs) (he : ws[q0]? = some (a, .inl (t 0, n, .inl f))) (hin : vp_in i n) (hv : f i.toNatClampNeg = vp_nar .byte x) (kk : ∀ (H1 : Heap) (locs1 : List Loc), va_P D cl1 ws H1 → va_S A H0 H1 locs1 → W p l e R s m args below meth c H1 locs1 cells slots Q (F0 m (pc + 1) ls rest)) : W p l e R s m args below meth c H locs cells slots Q (F0 m pc ls (.int x :: .int i :: .ref a :: rest)) :=
  r_bast hF hdg hP hD hS he hin (fun H1 l1 h1 _ h3 => kk H1 l1 (by rw [upd_id hv, set_id he] at h1; exact h1) h3)
theorem r_zast0 {q0 a n : Nat} {f : Nat → Int32} {i x : Int32} (hF : FX p m c cc nL s args own D t) (hdg : decode cc pc = .ok (.bastore, 1)) (hP : va_P D cl1 ws H) (hD : va_D A ws) (hS : va_S A H0 H locs) (he : ws[q0]? = some (a, .inl (t 3, n, .inl f))) (hin : vp_in i n) (hv : f i.toNatClampNeg = vp_nar .boolean x) (kk : ∀ (H1 : Heap) (locs1 : List Loc), va_P D cl1 ws H1 → va_S A H0 H1 locs1 → W p l e R s m args below meth c H1 locs1 cells slots Q (F0 m (pc + 1) ls rest)) : W p l e R s m args below meth c H locs cells slots Q (F0 m pc ls (.int x :: .int i :: .ref a :: rest)) :=
  r_zast hF hdg hP hD hS he hin (fun H1 l1 h1 _ h3 => kk H1 l1 (by rw [upd_id hv, set_id he] at h1; exact h1) h3)
theorem r_last0 {q0 a n : Nat} {f : Nat → Int64} {i : Int32} {x : Int64} (hF : FX p m c cc nL s args own D t) (hdg : decode cc pc = .ok (.lastore, 1)) (hP : va_P D cl1 ws H) (hD : va_D A ws) (hS : va_S A H0 H locs) (he : ws[q0]? = some (a, .inl (t 2, n, .inr (.inl f)))) (hin : vp_in i n) (hv : f i.toNatClampNeg = x) (kk : ∀ (H1 : Heap) (locs1 : List Loc), va_P D cl1 ws H1 → va_S A H0 H1 locs1 → W p l e R s m args below meth c H1 locs1 cells slots Q (F0 m (pc + 1) ls rest)) : W p l e R s m args below meth c H locs cells slots Q (F0 m pc ls (.long x :: .int i :: .ref a :: rest)) :=
  r_last hF hdg hP hD hS he hin (fun H1 l1 h1 _ h3 => kk H1 l1 (by rw [updL_id hv, set_id he] at h1; exact h1) h3)
/-- the length of an array of a kind -/
theorem r_alen {q0 a t0 : Nat} {cA : ClassId} {ty : FieldType} {x : vp_A} {v : Int32} (hF : FX p m c cc nL s args own D t) (hdg : decode cc pc = .ok (.arraylength, 1)) (hP : va_P D cl1 ws H) (he : ws[q0]? = some (a, .inl (cA, x))) (ht : (tys1 t)[t0]? = some (cA, ty)) (hv : Int32.ofNat x.1 = v) (kk : W p l e R s m args below meth c H locs cells slots Q (F0 m (pc + 1) ls (.int v :: rest))) : W p l e R s m args below meth c H locs cells slots Q (F0 m pc ls (.ref a :: rest)) :=
  va_alen hF.1.1 hF.1.2.1 hF.2.1 hP q0 t0 he ht hv hdg kk
/-- a new array of numbers, of the class that the tables have -/
theorem r_newa {atype : ArrayType} {ty : FieldType} {t0 : Nat} {cB : ClassId} (hF : FX p m c cc nL s args own D t) (hdg : decode cc pc = .ok (.newarray atype, 2)) (hw : Cond.arrayClass (newarray.typeOf atype) ∈ big) (hty : newarray.typeOf atype = ty) (ht : (tys1 t)[t0]? = some (cB, ty)) (hprim : va_RA s cB ty → s.vm.findClass ("[" ++ ty.toString) = some cB) (hP : va_P D cl1 ws H) (hD : va_D A ws) (hS : va_S A H0 H locs) (hA : ∀ q, H0.size ≤ q → A q)
    {n : Int32} {N' : Nat} {a0 : vp_A} (ha : ∀ cA : ClassId, vp_cell cA a0 = arrV cA N' (fun _ => defaultValue ty)) (hn : ¬ n < 0) (hN : n.toNatClampNeg = N') (hbytes : N' * componentBytes ty ≤ 536870912) (hcells : cells + 1 ≤ R.cells) (hslots : slots + N' ≤ R.slots)
    (kk : ∀ (q : Nat) (H1 : Heap), va_P D cl1 (ws ++ [(q, .inl (cB, a0))]) H1 → va_D A (ws ++ [(q, .inl (cB, a0))]) → va_S A H0 H1 locs → W p l e R s m args below meth c H1 locs (cells + 1) (slots + N') Q (F0 m (pc + 2) ls (.ref q :: rest))) : W p l e R s m args below meth c H locs cells slots Q (F0 m pc ls (.int n :: rest)) := by
  refine va_newa hF.1.1 hF.1.2.1 (hF.1.2.2.2.2 _ hw) hty hF.2.1 hP hD hS hA ha hn hN hbytes hcells hslots hdg (fun q cA H1 hK1 hP1 hD1 hS1 => ?_)
  have h1 := hprim ((hF.2.1.2 t0 _ ht).2)
  have h2 := (hK1.2 (tys1 t).length (cA, ty) (List.getElem?_concat_length ..)).2
  have h3 : s.vm.findClass ("[" ++ ty.toString) = some cA := by
    subst hty
    cases atype <;> exact h2
  have hc : cA = cB := Option.some.inj (h3.symm.trans h1)
  subst hc
  exact kk q H1 hP1 hD1 hS1
end H3

/-! making cells: a new cell stands at the front of the world; calls that change the world -/
theorem P_mem {D : va_G} {cl : List vw_C} {ws ws' : va_W} {H : Heap} (h : va_P D cl ws H) (hs : ∀ q ∈ ws', q ∈ ws) : va_P D cl ws' H := fun k q hk => by
  obtain ⟨i, hi⟩ := List.getElem?_of_mem (hs q (List.mem_of_getElem? hk))
  exact h i q hi
theorem P_front {D : va_G} {cl : List vw_C} {ws : va_W} {x : Nat × va_E} {H : Heap} (h : va_P D cl (ws ++ [x]) H) : va_P D cl (x :: ws) H := P_mem h (fun q hq => by
  rcases List.mem_cons.mp hq with rfl | hq
  · exact List.mem_append_right _ (List.mem_singleton.mpr rfl)
  · exact List.mem_append_left _ hq)
theorem D_front {A : Nat → Prop} {ws : va_W} {x : Nat × va_E} (h : va_D A (ws ++ [x])) : va_D A (x :: ws) := by
  have hx : (ws ++ [x])[ws.length]? = some x := List.getElem?_concat_length ..
  have hw : ∀ (i : Nat) (q : Nat × va_E), ws[i]? = some q → (ws ++ [x])[i]? = some q ∧ i < ws.length := fun i q hi => by
    have hl := (List.getElem?_eq_some_iff.mp hi).1
    exact ⟨by rw [List.getElem?_append_left hl]; exact hi, hl⟩
  refine ⟨fun i j a b hi hj hab => ?_, fun k q hk => ?_⟩
  · cases i with
    | zero =>
      cases j with
      | zero => rfl
      | succ j =>
        rw [List.getElem?_cons_zero] at hi
        rw [List.getElem?_cons_succ] at hj
        cases hi
        obtain ⟨h1, h2⟩ := hw j b hj
        have := h.1 _ _ _ _ hx h1 hab
        omega
    | succ i =>
      rw [List.getElem?_cons_succ] at hi
      obtain ⟨h1, h2⟩ := hw i a hi
      cases j with
      | zero =>
        rw [List.getElem?_cons_zero] at hj
        cases hj
        have := h.1 _ _ _ _ h1 hx hab
        omega
      | succ j =>
        rw [List.getElem?_cons_succ] at hj
        obtain ⟨h3, h4⟩ := hw j b hj
        rw [h.1 _ _ _ _ h1 h3 hab]
  · cases k with
    | zero =>
      rw [List.getElem?_cons_zero] at hk
      cases hk
      exact h.2 _ _ hx
    | succ k =>
      rw [List.getElem?_cons_succ] at hk
      exact h.2 _ _ (hw k q hk).1
theorem gx {α : Type} {X Y : List α} {k : Nat} {x : α} (h : Y[k]? = some x) : (X ++ Y)[X.length + k]? = some x := by
  rw [List.getElem?_append_right (by omega), Nat.add_sub_cancel_left]
  exact h
theorem sx {α : Type} {X Y : List α} {k : Nat} {x : α} : (X ++ Y).set (X.length + k) x = X ++ Y.set k x := by
  induction X with
  | nil => simp
  | cons a X ih =>
    rw [List.cons_append, List.cons_append, List.length_cons, show X.length + 1 + k = (X.length + k) + 1 by omega, List.set_cons_succ, ih]
theorem D_left {A : Nat → Prop} {w1 X : va_W} (h : va_D A (w1 ++ X)) : va_D A w1 := by
  have hw : ∀ (i : Nat) (q : Nat × va_E), w1[i]? = some q → (w1 ++ X)[i]? = some q := fun i q hi => by
    rw [List.getElem?_append_left (List.getElem?_eq_some_iff.mp hi).1]; exact hi
  exact ⟨fun i j a b hi hj hab => h.1 i j a b (hw i a hi) (hw j b hj) hab, fun k q hk => h.2 k q (hw k q hk)⟩
theorem D_right {A : Nat → Prop} {w1 X : va_W} (h : va_D A (w1 ++ X)) : va_D A X := by
  have hw : ∀ (i : Nat) (q : Nat × va_E), X[i]? = some q → (w1 ++ X)[w1.length + i]? = some q := fun i q hi => gx hi
  refine ⟨fun i j a b hi hj hab => ?_, fun k q hk => h.2 _ q (hw k q hk)⟩
  have := h.1 _ _ a b (hw i a hi) (hw j b hj) hab
  omega
theorem P_left {D : va_G} {cl : List vw_C} {w1 X : va_W} {H : Heap} (h : va_P D cl (w1 ++ X) H) : va_P D cl w1 H := P_mem h (fun _ hq => List.mem_append_left _ hq)
theorem P_right {D : va_G} {cl : List vw_C} {w1 X : va_W} {H : Heap} (h : va_P D cl (w1 ++ X) H) : va_P D cl X H := P_mem h (fun _ hq => List.mem_append_right _ hq)
/-- what stands beside the callee's world stays -/
theorem P_rest {D : va_G} {cl : List vw_C} {A : Nat → Prop} {wc X : va_W} {H H1 : Heap} (hP : va_P D cl (wc ++ X) H) (hD : va_D A (wc ++ X)) (hk : ∀ q : Nat, q < H.size → ¬ va_A wc H.size q → H1[q]? = H[q]?) : va_P D cl X H1 ∧ ∀ (k : Nat) (q : Nat × va_E), X[k]? = some q → q.1 < H.size ∧ ¬ va_A wc H.size q.1 := by
  have key : ∀ (k : Nat) (q : Nat × va_E), X[k]? = some q → q.1 < H.size ∧ ¬ va_A wc H.size q.1 := fun k q hq => by
    have h1 : (wc ++ X)[wc.length + k]? = some q := gx hq
    have hl := (hP _ q h1).lt
    refine ⟨hl, fun h => ?_⟩
    rcases h with ⟨i, e, h⟩ | h
    · have hi := (List.getElem?_eq_some_iff.mp h).1
      have h2 : (wc ++ X)[i]? = some (q.1, e) := by rw [List.getElem?_append_left hi]; exact h
      have := hD.1 _ _ _ _ h1 h2 rfl
      omega
    · omega
  exact ⟨fun k q hq => (P_right hP k q hq).kept (hk q.1 (key k q hq).1 (key k q hq).2), key⟩
theorem join_app {D : va_G} {cl : List vw_C} {A : Nat → Prop} {wc X w1 : va_W} {H H1 : Heap} (hP : va_P D cl (wc ++ X) H) (hD : va_D A (wc ++ X)) (hk : ∀ q : Nat, q < H.size → ¬ va_A wc H.size q → H1[q]? = H[q]?) (hF : ∀ q, va_A wc H.size q → A q) (hP1 : va_P D cl w1 H1) (hD1 : va_D (va_A wc H.size) w1) : va_P D cl (w1 ++ X) H1 ∧ va_D A (w1 ++ X) := by
  obtain ⟨h1, h2⟩ := P_rest hP hD hk
  refine ⟨va_P.app hP1 h1, va_D.app (hD1.weaken (fun k q _ h => hF q.1 h)) (D_right hD) (fun i j a b ha hb hab => ?_)⟩
  exact (h2 j b hb).2 (by rw [← hab]; exact hD1.2 i a ha)
theorem D_iff {A : Nat → Prop} {ws : va_W} : va_D A ws ↔ (ws.map (fun q => q.1)).Pairwise (fun a b => a ≠ b) ∧ ∀ q ∈ ws, A q.1 := by
  constructor
  · intro h
    refine ⟨?_, fun q hq => by obtain ⟨k, hk⟩ := List.getElem?_of_mem hq; exact h.2 k q hk⟩
    rw [List.pairwise_iff_getElem]
    intro i j hi hj hij he
    rw [List.length_map] at hi hj
    rw [List.getElem_map, List.getElem_map] at he
    have := h.1 i j _ _ (List.getElem?_eq_getElem hi) (List.getElem?_eq_getElem hj) he
    omega
  · intro h
    refine ⟨fun i j a b hi hj hab => ?_, fun k q hk => h.2 q (List.mem_of_getElem? hk)⟩
    have h1 := List.pairwise_iff_getElem.mp h.1
    obtain ⟨li, ei⟩ := List.getElem?_eq_some_iff.mp hi
    obtain ⟨lj, ej⟩ := List.getElem?_eq_some_iff.mp hj
    rcases Nat.lt_trichotomy i j with z | z | z
    · exact absurd (by rw [List.getElem_map, List.getElem_map, ei, ej]; exact hab) (h1 i j (by rw [List.length_map]; exact li) (by rw [List.length_map]; exact lj) z)
    · exact z
    · exact absurd (by rw [List.getElem_map, List.getElem_map, ei, ej]; exact hab.symm) (h1 j i (by rw [List.length_map]; exact lj) (by rw [List.length_map]; exact li) z)
theorem D_perm {A : Nat → Prop} {ws ws' : va_W} (hp : ws.Perm ws') (h : va_D A ws) : va_D A ws' := by
  rw [D_iff] at h ⊢
  exact ⟨(List.Perm.pairwise_iff (fun h => Ne.symm h) (hp.map _)).mp h.1, fun q hq => h.2 q (hp.mem_iff.mpr hq)⟩
theorem P_perm {D : va_G} {cl : List vw_C} {ws ws' : va_W} {H : Heap} (hp : ws.Perm ws') (h : va_P D cl ws H) : va_P D cl ws' H := P_mem h (fun _ hq => hp.mem_iff.mpr hq)
abbrev WV (l : Launch) (D : va_G) (t : Nat → ClassId) (y : MethodName) (bytes : ByteArray) (maxL : Nat) (rm : Room) (ws : va_W) (sz : Nat) (av : List Value) (mc ms : Nat) (E : State → Prop) (I : va_W → Prop) : Prop := Met l y (Cond.code y bytes maxL none :: big) rm (fun a U => PC D t ws sz av a U ∧ E U) (va_Qv I (fun w1 u => va_P D cl1 w1 u.heap ∧ va_D (va_A ws sz) w1) (va_A ws sz)) mc ms (va_A ws sz)
section H6
variable {p : Program} {l : Launch} {e : Env} {R : Room} {s : State} {m : MethodId} {args : Array Value} {below : List Frame} {meth : Method} {c : Code} {H : Heap} {locs : List Loc} {cells slots : Nat} {Q : State → Prop} {cc : ByteArray} {pc : Nat} {ls : Array Slot} {rest : List Value} {D : va_G} {t : Nat → ClassId} {A : Nat → Prop} {H0 : Heap} {ws : va_W} {own : String} {nL : Nat}
variable {C : String} {y : MethodName} {bytes : ByteArray} {maxL n index : Nat} {ret : Option FieldType} {rm : Room} {mc ms : Nat} {As st0 : List Value} {b q0 ci N : Nat} {fs : List Value} {T : u_T} {ty : Nat → FieldType} {E : State → Prop} {I : va_W → Prop}
theorem goE {sz : Nat} {av : List Value} {Qc : Array Value → State → Outcome → State → Prop} {free : Addr → Prop} (hy : plainName y.cls = true) (hav : (lg_sl av).length ≤ maxL)
    (body : ∀ (p : Program) (e : Env) (s : State) (m : MethodId) (below : List Frame) (meth : Method) (c : Code) (ls : Array Slot) (A : Nat → Prop), FX p m c cc maxL s av.toArray y.cls D t → meth.sig.returnType = ret → meth.locks = false → meth.name = y.name → sz = s.heap.size → (va_A ws sz = A) → va_P D cl1 ws s.heap → va_D A ws → va_S A s.heap s.heap [] → (∀ q, s.heap.size ≤ q → A q) → lv_has ls maxL (lv_args 0 av) → E s →
      W p l e rm s m av.toArray below meth c s.heap [] 0 0 (MQ below Qc av.toArray s mc ms free) (F0 m 0 ls [])) : Met l y (Cond.code y cc maxL ret :: big) rm (fun a U => PC D t ws sz av a U ∧ E U) Qc mc ms free := by
  refine Met.ofW (cc := cc) (maxL := maxL) (ret := ret) hy rfl ?_
  intro p e s m args below meth c s₁ B hml hv
  obtain ⟨⟨rfl, hsz, hP, hK, hN, hD0⟩, hE⟩ := hv
  have hts := atoms_spec (ws := Cond.code y cc maxL ret :: big) B.pre
  have hown : s.vm.findClass y.cls = some m.cls := findClass_of_methodNamed B.named
  have hin : meth.name = y.name := (name_of_methodNamed B.named B.method).1
  rw [lg_entry_eq]
  have hl := lv_entry av (n := maxL) hav
  generalize (lg_sl av ++ List.replicate (maxL - (lg_sl av).length) Slot.unset).toArray = ls at hl ⊢
  exact body p e s m below meth c ls (va_A ws sz) ⟨⟨B.exec, B.bytes, hml, hown, fun w hw => hts w (List.mem_cons_of_mem _ hw)⟩, hK, hN⟩ B.returns B.notSynchronized hin hsz.symm rfl hP hD0.self va_S.rf (fun q h => Or.inr (by rw [← hsz]; exact h)) hl hE
theorem r_new (hF : FX p m c cc nL s args own D t) (hC : CI ci C T N ty) (hdg : decode cc pc = .ok (.new index, 3)) (w1 : Cond.classLink own index C ∈ big) (w2 : Cond.instantiable C N ∈ big) (w3 : Cond.initialized C ∈ big) (hP : va_P D cl1 ws H) (hD : va_D A ws) (hS : va_S A H0 H locs) (hA : ∀ q, H0.size ≤ q → A q) (hfs : ∀ j, j < N → defaultValue (ty j) = vp_V fs j) (hcells : cells + 1 ≤ R.cells) (hslots : slots + N ≤ R.slots)
    (kk : ∀ (q : Nat) (H1 : Heap), va_P D cl1 ((q, .inr (ci, fs)) :: ws) H1 → va_D A ((q, .inr (ci, fs)) :: ws) → va_S A H0 H1 locs → W p l e R s m args below meth c H1 locs (cells + 1) (slots + N) Q (F0 m (pc + 3) ls (.ref q :: rest))) : W p l e R s m args below meth c H locs cells slots Q (F0 m pc ls rest) :=
  va_new hF.1.1 hF.1.2.1 hF.1.2.2.2.2 hC.2.1 ty hC.2.2.1 hF.1.2.2.2.1 (hF.1.2.2.2.2 _ w1) (hF.1.2.2.2.2 _ w2) (hF.1.2.2.2.2 _ w3) hF.2.1 hP hD hS hA hC.1 hfs hcells hslots hdg (fun q H1 h1 h2 h3 => kk q H1 (P_front h1) (D_front h2) h3)
theorem r_newF {atype : ArrayType} {tyE : FieldType} {t0 : Nat} {cB : ClassId} (hF : FX p m c cc nL s args own D t) (hdg : decode cc pc = .ok (.newarray atype, 2)) (hw : Cond.arrayClass (newarray.typeOf atype) ∈ big) (hty : newarray.typeOf atype = tyE) (ht : (tys1 t)[t0]? = some (cB, tyE)) (hprim : va_RA s cB tyE → s.vm.findClass ("[" ++ tyE.toString) = some cB) (hP : va_P D cl1 ws H) (hD : va_D A ws) (hS : va_S A H0 H locs) (hA : ∀ q, H0.size ≤ q → A q)
    {n : Int32} {N' : Nat} {a0 : vp_A} (ha : ∀ cA : ClassId, vp_cell cA a0 = arrV cA N' (fun _ => defaultValue tyE)) (hn : ¬ n < 0) (hN : n.toNatClampNeg = N') (hbytes : N' * componentBytes tyE ≤ 536870912) (hcells : cells + 1 ≤ R.cells) (hslots : slots + N' ≤ R.slots)
    (kk : ∀ (q : Nat) (H1 : Heap), va_P D cl1 ((q, .inl (cB, a0)) :: ws) H1 → va_D A ((q, .inl (cB, a0)) :: ws) → va_S A H0 H1 locs → W p l e R s m args below meth c H1 locs (cells + 1) (slots + N') Q (F0 m (pc + 2) ls (.ref q :: rest))) : W p l e R s m args below meth c H locs cells slots Q (F0 m pc ls (.int n :: rest)) :=
  r_newa hF hdg hw hty ht hprim hP hD hS hA ha hn hN hbytes hcells hslots (fun q H1 h1 h2 h3 => kk q H1 (P_front h1) (D_front h2) h3)
theorem r_newq {cB : ClassId} {t0 : Nat} (hF : FX p m c cc nL s args own D t) (hdg : decode cc pc = .ok (.anewarray index, 3)) (w1 : Cond.classLink own index C ∈ big) (hover : va_AO C s) (ht : (tys1 t)[t0]? = some (cB, .object C)) (hP : va_P D cl1 ws H) (hD : va_D A ws) (hS : va_S A H0 H locs) (hA : ∀ q, H0.size ≤ q → A q)
    {n : Int32} {N' : Nat} (hn : ¬ n < 0) (hN : n.toNatClampNeg = N') (hbytes : N' * 4 ≤ 536870912) (hcells : cells + 1 ≤ R.cells) (hslots : slots + N' ≤ R.slots)
    (kk : ∀ (q : Nat) (H1 : Heap), va_P D cl1 ((q, .inl (cB, N', .inr (.inr (.inr (.inr (fun _ => none)))))) :: ws) H1 → va_D A ((q, .inl (cB, N', .inr (.inr (.inr (.inr (fun _ => none)))))) :: ws) → va_S A H0 H1 locs → W p l e R s m args below meth c H1 locs (cells + 1) (slots + N') Q (F0 m (pc + 3) ls (.ref q :: rest))) : W p l e R s m args below meth c H locs cells slots Q (F0 m pc ls (.int n :: rest)) := by
  refine va_newq hF.1.1 hF.1.2.1 hF.1.2.2.2.1 (hF.1.2.2.2.2 _ w1) hover hF.2.1 hP hD hS hA hn hN hbytes hcells hslots hdg (fun q cA H1 hK1 hP1 hD1 hS1 => ?_)
  obtain ⟨_, _, -, -, -, h1⟩ := (hF.2.1.2 t0 _ ht).2
  obtain ⟨_, _, -, -, -, h2⟩ := (hK1.2 (tys1 t).length (cA, .object C) (List.getElem?_concat_length ..)).2
  have hc : cA = cB := Option.some.inj (h2.symm.trans h1)
  subst hc
  exact kk q H1 (P_front hP1) (D_front hD1) hS1
theorem r_aldq {t0 a nn : Nat} {cA : ClassId} {f : Nat → Option Nat} {i : Int32} {v : Value} (hF : FX p m c cc nL s args own D t) (hdg : decode cc pc = .ok (.aaload, 1)) (hP : va_P D cl1 ws H) (he : ws[q0]? = some (a, .inl (cA, nn, .inr (.inr (.inr (.inr f)))))) (ht : (tys1 t)[t0]? = some (cA, .object C)) (hin : vp_in i nn) (hv : va_rf (f i.toNatClampNeg) = v) (kk : W p l e R s m args below meth c H locs cells slots Q (F0 m (pc + 1) ls (v :: rest))) : W p l e R s m args below meth c H locs cells slots Q (F0 m pc ls (.int i :: .ref a :: rest)) :=
  va_aldq hF.1.1 hF.1.2.1 hF.2.1 hP q0 t0 he ht hin hdg (by rw [hv]; exact kk)
theorem r_astq {t0 a nn qk v : Nat} {cA : ClassId} {f : Nat → Option Nat} {i : Int32} (hF : FX p m c cc nL s args own D t) (hC : CI ci C T N ty) (hdg : decode cc pc = .ok (.aastore, 1)) (hP : va_P D cl1 ws H) (hD : va_D A ws) (hS : va_S A H0 H locs) (he : ws[q0]? = some (a, .inl (cA, nn, .inr (.inr (.inr (.inr f)))))) (ht : (tys1 t)[t0]? = some (cA, .object C)) (hv : ws[qk]? = some (v, .inr (ci, fs))) (hin : vp_in i nn)
    (kk : ∀ (H1 : Heap) (locs1 : List Loc), va_P D cl1 (ws.set q0 (a, .inl (cA, nn, .inr (.inr (.inr (.inr (va_up f i.toNatClampNeg (some v)))))))) H1 → va_D A (ws.set q0 (a, .inl (cA, nn, .inr (.inr (.inr (.inr (va_up f i.toNatClampNeg (some v)))))))) → va_S A H0 H1 locs1 → W p l e R s m args below meth c H1 locs1 cells slots Q (F0 m (pc + 1) ls rest)) : W p l e R s m args below meth c H locs cells slots Q (F0 m pc ls (.ref v :: .int i :: .ref a :: rest)) :=
  va_astq hF.1.1 hF.1.2.1 hF.2.1 hP hD hS q0 t0 qk ci he ht hv hC.1 hin hdg kk
theorem EP_blind {sz : Nat} {av : List Value} (h : ∀ (a : Array Value) (U : State) (g : JFrame) (mk : MethodId), E U → E (U.calling g mk a)) : FrameBlind (fun a U => PC D t ws sz av a U ∧ E U) := fun a U g mk q => ⟨PC_blind a U g mk q.1, h a U g mk q.2⟩
theorem r_cWI {wc X : va_W} (hF : FX p m c cc nL s args own D t) (hm : MI own index y bytes maxL n) (hM : WV l D t y bytes maxL rm wc H.size (.ref b :: As) mc ms E I) (hE1 : ∀ (a : Array Value) (U : State) (g : JFrame) (mk : MethodId), E U → E (U.calling g mk a)) (hE2 : ∀ U : State, U.heap = H → s.WarmedH U.vm → E U) (hdg : decode cc pc = .ok (.invokespecial index, 3)) (hrc : rm.cells = mc) (hrs : rm.slots = ms) (hR : rm.frames + 1 ≤ R.frames ∧ 8 + (maxL + 11) + rm.locals ≤ R.locals) (hn : As.length = n) (hls : ls.size = nL) (hW : (rest.map fun v => v.category).sum ≤ 8) (hP : va_P D cl1 (wc ++ X) H) (hD : va_D A (wc ++ X)) (hS : va_S A H0 H locs) (hA : ∀ q, H0.size ≤ q → A q) (hf : cells + mc ≤ R.cells ∧ slots + ms ≤ R.slots) (hst : st0 = As.reverse ++ .ref b :: rest)
    (kk : ∀ (w1 : va_W) (H1 : Heap) (locs1 : List Loc), I w1 → va_P D cl1 (w1 ++ X) H1 → va_D A (w1 ++ X) → va_S A H0 H1 locs1 → W p l e R s m args below meth c H1 locs1 (cells + mc) (slots + ms) Q (F0 m (pc + 3) ls rest)) : W p l e R s m args below meth c H locs cells slots Q (F0 m pc ls st0) := by
  obtain ⟨⟨w1, w2, w3, w5⟩, hy1, hd⟩ := hm
  have hG : GoodIn big (Cond.code y bytes maxL none :: big) := gw (fun w h => by
    rcases List.mem_cons.mp h with rfl | h
    · exact w5
    · exact h)
  have hr := va_runI (l := l) (e := e) (R := R) (below := below) (meth := meth) (H := H) (locs := locs) (cells := cells) (slots := slots) (g := F0 m pc ls st0) (rest := rest) hF.1 hM (cwI n hF.1.2.2.2.2 hG rfl hrc hrs (hF.1.2.2.2.2 _ w3) (hF.1.2.2.2.2 _ w1) (hF.1.2.2.2.2 _ w2) hy1 hd hR) ⟨EP_blind hE1, fun U hU hW2 => ⟨PC_at (P_left hP) (D_left hD) hF.2 U hU hW2, hE2 U hU hW2⟩⟩ rfl hn hls hst (lv_room hW) hdg hf
  refine va_callv hr hS (fun q _ h => a_in (D_left hD) hS hA q h) (a_in (D_left hD) hS hA) (fun u t1 H1 locs1 ht _ hI hB _ hk1 hS1 => ?_)
  obtain ⟨hB1, hB2⟩ := hB
  rw [ht] at hB1
  obtain ⟨j1, j2⟩ := join_app hP hD hk1 (a_in (D_left hD) hS hA) hB1 hB2
  exact kk u H1 locs1 hI j1 j2 hS1
theorem r_cWN {host : String} {wc X : va_W} (hF : FX p m c cc nL s args own D t) (hN : va_Nw (.methodLinkNest own index y host) s) (hm : (Cond.instanceMethod y ∈ big ∧ Cond.initialized y.cls ∈ big ∧ Cond.code y bytes maxL none ∈ big) ∧ y.name = "<init>" ∧ y.cls ≠ "java/lang/invoke/MethodHandle" ∧ y.cls ≠ "java/lang/invoke/VarHandle" ∧ (parseMethodDescriptor y.desc).map (fun d => d.parameters.length) = some n) (hM : WV l D t y bytes maxL rm wc H.size (.ref b :: As) mc ms E I) (hE1 : ∀ (a : Array Value) (U : State) (g : JFrame) (mk : MethodId), E U → E (U.calling g mk a)) (hE2 : ∀ U : State, U.heap = H → s.WarmedH U.vm → E U) (hdg : decode cc pc = .ok (.invokespecial index, 3)) (hrc : rm.cells = mc) (hrs : rm.slots = ms) (hR : rm.frames + 1 ≤ R.frames ∧ 8 + (maxL + 11) + rm.locals ≤ R.locals) (hn : As.length = n) (hls : ls.size = nL) (hW : (rest.map fun v => v.category).sum ≤ 8) (hP : va_P D cl1 (wc ++ X) H) (hD : va_D A (wc ++ X)) (hS : va_S A H0 H locs) (hA : ∀ q, H0.size ≤ q → A q) (hf : cells + mc ≤ R.cells ∧ slots + ms ≤ R.slots) (hst : st0 = As.reverse ++ .ref b :: rest)
    (kk : ∀ (w1 : va_W) (H1 : Heap) (locs1 : List Loc), I w1 → va_P D cl1 (w1 ++ X) H1 → va_D A (w1 ++ X) → va_S A H0 H1 locs1 → W p l e R s m args below meth c H1 locs1 (cells + mc) (slots + ms) Q (F0 m (pc + 3) ls rest)) : W p l e R s m args below meth c H locs cells slots Q (F0 m pc ls st0) := by
  obtain ⟨⟨w2, w3, w5⟩, hy1, hd⟩ := hm
  have hG : GoodIn big (Cond.code y bytes maxL none :: big) := gw (fun w h => by
    rcases List.mem_cons.mp h with rfl | h
    · exact w5
    · exact h)
  have hr := va_runIN (l := l) (e := e) (R := R) (below := below) (meth := meth) (H := H) (locs := locs) (cells := cells) (slots := slots) (g := F0 m pc ls st0) (rest := rest) hF.1 hM ⟨va_cnB n hF.1.2.2.2.2 hG rfl hrc hrs hN (hF.1.2.2.2.2 _ w3) hd hR, hy1, hF.1.2.2.2.2 _ w2⟩ ⟨EP_blind hE1, fun U hU hW2 => ⟨PC_at (P_left hP) (D_left hD) hF.2 U hU hW2, hE2 U hU hW2⟩⟩ rfl hn hls hst (lv_room hW) hdg hf
  refine va_callv hr hS (fun q _ h => a_in (D_left hD) hS hA q h) (a_in (D_left hD) hS hA) (fun u t1 H1 locs1 ht _ hI hB _ hk1 hS1 => ?_)
  obtain ⟨hB1, hB2⟩ := hB
  rw [ht] at hB1
  obtain ⟨j1, j2⟩ := join_app hP hD hk1 (a_in (D_left hD) hS hA) hB1 hB2
  exact kk u H1 locs1 hI j1 j2 hS1
theorem r_cWV (hF : FX p m c cc nL s args own D t) (hm : MV own index C y bytes maxL none n) (hC : CI ci C T N ty) (hM : WV l D t y bytes maxL rm ws H.size (.ref b :: As) mc ms (fun _ => True) I) (hdg : decode cc pc = .ok (.invokevirtual index, 3)) (hrc : rm.cells = mc) (hrs : rm.slots = ms) (hR : rm.frames + 1 ≤ R.frames ∧ 8 + (maxL + 11) + rm.locals ≤ R.locals) (hn : As.length = n) (hls : ls.size = nL) (hW : (rest.map fun v => v.category).sum ≤ 8) (hP : va_P D cl1 ws H) (hD : va_D A ws) (hS : va_S A H0 H locs) (hA : ∀ q, H0.size ≤ q → A q) (he : ws[q0]? = some (b, .inr (ci, fs))) (hf : cells + mc ≤ R.cells ∧ slots + ms ≤ R.slots) (hst : st0 = As.reverse ++ .ref b :: rest)
    (kk : ∀ (w1 : va_W) (H1 : Heap) (locs1 : List Loc), I w1 → va_P D cl1 w1 H1 → va_D A w1 → va_S A H0 H1 locs1 → W p l e R s m args below meth c H1 locs1 (cells + mc) (slots + ms) Q (F0 m (pc + 3) ls rest)) : W p l e R s m args below meth c H locs cells slots Q (F0 m pc ls st0) := by
  obtain ⟨⟨w1, w2, w3, w4, w5⟩, hd⟩ := hm
  have hG : GoodIn big (wsV own index C y (Cond.code y bytes maxL none :: big)) := gw (fun w h => by
    simp only [wsV, List.cons_append, List.nil_append, List.mem_cons] at h
    rcases h with rfl | rfl | rfl | rfl | rfl | h
    · exact w1
    · exact w2
    · exact w3
    · exact w4
    · exact w5
    · exact h)
  have hr := va_runV (l := l) (e := e) (R := R) (below := below) (meth := meth) (H := H) (locs := locs) (cells := cells) (slots := slots) (g := F0 m pc ls st0) (rest := rest) hF.1 hM (cwV n hF.1.2.2.2.2 hG rfl hrc hrs hd hR) ⟨EP_blind (fun _ _ _ _ h => h), va_recv hF.2.1 hP hC.1 he, fun U hU hW2 => ⟨PC_at hP hD hF.2 U hU hW2, trivial⟩⟩ rfl hn hls hst (lv_room hW) hdg hf
  refine va_callv hr hS (fun q _ h => a_in hD hS hA q h) (a_in hD hS hA) (fun u t1 H1 locs1 ht _ hI hB _ _ hS1 => ?_)
  obtain ⟨hB1, hB2⟩ := hB
  rw [ht] at hB1
  exact kk u H1 locs1 hI hB1 (hB2.weaken (fun k q _ h => a_in hD hS hA q.1 h)) hS1
theorem r_cWS (hF : FX p m c cc nL s args own D t) (hm : MS own index y bytes maxL none n) (hM : WV l D t y bytes maxL rm ws H.size As mc ms (fun _ => True) I) (hdg : decode cc pc = .ok (.invokestatic index, 3)) (hrc : rm.cells = mc) (hrs : rm.slots = ms) (hR : rm.frames + 1 ≤ R.frames ∧ 8 + (maxL + 11) + rm.locals ≤ R.locals) (hn : As.length = n) (hls : ls.size = nL) (hW : (rest.map fun v => v.category).sum ≤ 8) (hP : va_P D cl1 ws H) (hD : va_D A ws) (hS : va_S A H0 H locs) (hA : ∀ q, H0.size ≤ q → A q) (hf : cells + mc ≤ R.cells ∧ slots + ms ≤ R.slots) (hst : st0 = As.reverse ++ rest)
    (kk : ∀ (w1 : va_W) (H1 : Heap) (locs1 : List Loc), I w1 → va_P D cl1 w1 H1 → va_D A w1 → va_S A H0 H1 locs1 → W p l e R s m args below meth c H1 locs1 (cells + mc) (slots + ms) Q (F0 m (pc + 3) ls rest)) : W p l e R s m args below meth c H locs cells slots Q (F0 m pc ls st0) := by
  obtain ⟨⟨w1, w2, w3, w5⟩, hd⟩ := hm
  have hG : GoodIn big (va_wsS own index y (Cond.code y bytes maxL none :: big)) := gw (fun w h => by
    simp only [va_wsS, List.cons_append, List.nil_append, List.mem_cons] at h
    rcases h with rfl | rfl | rfl | rfl | h
    · exact w1
    · exact w2
    · exact w3
    · exact w5
    · exact h)
  have hr := va_runS (l := l) (e := e) (R := R) (below := below) (meth := meth) (H := H) (locs := locs) (cells := cells) (slots := slots) (g := F0 m pc ls st0) (rest := rest) hF.1 hM (va_cwS n hF.1.2.2.2.2 hG rfl hrc hrs hd hR) ⟨EP_blind (fun _ _ _ _ h => h), fun U hU hW2 => ⟨PC_at hP hD hF.2 U hU hW2, trivial⟩⟩ rfl hn hls hst (lv_room hW) hdg hf
  refine va_callv hr hS (fun q _ h => a_in hD hS hA q h) (a_in hD hS hA) (fun u t1 H1 locs1 ht _ hI hB _ _ hS1 => ?_)
  obtain ⟨hB1, hB2⟩ := hB
  rw [ht] at hB1
  exact kk u H1 locs1 hI hB1 (hB2.weaken (fun k q _ h => a_in hD hS hA q.1 h)) hS1
theorem r_retW (hF : FX p m c cc nL s args own D t) (hr : meth.sig.returnType = none) (hlk : meth.locks = false) (hdg : decode cc pc = .ok (.return_, 1)) (hP : va_P D cl1 ws H) (hD : va_D A ws) (hS : va_S A s.heap H locs) (hI : I ws) : W p l e R s m args below meth c H locs cells slots (MQ below (va_Qv I (fun w1 u => va_P D cl1 w1 u.heap ∧ va_D A w1) A) args s cells slots A) (F0 m pc ls []) :=
  W.vret hF.1.1 hF.1.2.1 hr (fun t1 ht _ => ⟨⟨ws, rfl, hI, by show va_P D cl1 ws t1.heap; rw [ht]; exact hP, hD⟩, hS.F ht⟩) hS.2.2 hdg hlk
/-- a loop whose world and whose room grow -/
theorem r_loopW {L0 : Nat → List (Nat × Value)} {J : Nat → va_W → Prop} (cs ss : Nat → Nat) (N : Nat) (hl : lv_has ls nL (L0 0)) (hJ : J 0 ws) (hP : va_P D cl1 ws H) (hD : va_D A ws) (hS : va_S A H0 H locs)
    (step : ∀ i, i < N → ∀ (ws : va_W) (ls : Array Slot) (H : Heap) (locs : List Loc), J i ws → lv_has ls nL (L0 i) → va_P D cl1 ws H → va_D A ws → va_S A H0 H locs → (∀ (ws : va_W) (ls : Array Slot) (H : Heap) (locs : List Loc), J (i + 1) ws → lv_has ls nL (L0 (i + 1)) → va_P D cl1 ws H → va_D A ws → va_S A H0 H locs → W p l e R s m args below meth c H locs (cs (i + 1)) (ss (i + 1)) Q (F0 m pc ls [])) → W p l e R s m args below meth c H locs (cs i) (ss i) Q (F0 m pc ls []))
    (exit : ∀ (ws : va_W) (ls : Array Slot) (H : Heap) (locs : List Loc), J N ws → lv_has ls nL (L0 N) → va_P D cl1 ws H → va_D A ws → va_S A H0 H locs → W p l e R s m args below meth c H locs (cs N) (ss N) Q (F0 m pc ls [])) : W p l e R s m args below meth c H locs (cs 0) (ss 0) Q (F0 m pc ls []) := by
  have key : ∀ n i, i + n = N → ∀ (ws : va_W) (ls : Array Slot) (H : Heap) (locs : List Loc), J i ws → lv_has ls nL (L0 i) → va_P D cl1 ws H → va_D A ws → va_S A H0 H locs → W p l e R s m args below meth c H locs (cs i) (ss i) Q (F0 m pc ls []) := by
    intro n
    induction n with
    | zero =>
      intro i hi
      have : i = N := by omega
      subst this
      exact exit
    | succ n ih =>
      intro i hi ws ls H locs h0 h1 h2 h3 h4
      exact step i (by omega) ws ls H locs h0 h1 h2 h3 h4 (ih (i + 1) (by omega))
  exact key N 0 (by omega) ws ls H locs hJ hl hP hD hS
end H6
theorem perm_mv {α : Type} (Y T Xc Tr : List α) : (Y ++ (T ++ (Xc ++ Tr))).Perm ((Y ++ Xc) ++ (T ++ Tr)) := by
  rw [List.append_assoc]
  refine List.Perm.append_left Y ?_
  rw [← List.append_assoc, ← List.append_assoc]
  exact List.perm_append_comm.append_right Tr
theorem perm_mv0 {α : Type} (N Xc TT : List α) : (N ++ (Xc ++ TT)).Perm (Xc ++ (N ++ TT)) := by
  rw [← List.append_assoc, ← List.append_assoc]
  exact List.perm_append_comm.append_right TT
section H7
variable {p : Program} {l : Launch} {e : Env} {R : Room} {s : State} {m : MethodId} {args : Array Value} {below : List Frame} {meth : Method} {c : Code} {H : Heap} {locs : List Loc} {cells slots : Nat} {Q : State → Prop} {cc : ByteArray} {pc : Nat} {ls : Array Slot} {rest : List Value} {D : va_G} {t : Nat → ClassId} {A : Nat → Prop} {H0 : Heap} {ws : va_W} {own : String} {nL : Nat} {y : MethodName} {bytes : ByteArray} {maxL n index : Nat} {rm : Room} {As st0 : List Value} {b : Nat}
theorem r_cKVi (hF : FX p m c cc nL s args own D t) (hm : MI own index y bytes maxL n) (hM : ∀ sz, KV l D t y bytes maxL rm ws sz (.ref b :: As)) (hdg : decode cc pc = .ok (.invokespecial index, 3)) (hrc : rm.cells = 0) (hrs : rm.slots = 0) (hR : rm.frames + 1 ≤ R.frames ∧ 8 + (maxL + 11) + rm.locals ≤ R.locals) (hn : As.length = n) (hls : ls.size = nL) (hW : (rest.map fun v => v.category).sum ≤ 8) (hP : va_P D cl1 ws H) (hD : va_D A ws) (hS : va_S A H0 H locs) (hA : ∀ q, H0.size ≤ q → A q) (hf : cells ≤ R.cells ∧ slots ≤ R.slots) (hst : st0 = As.reverse ++ .ref b :: rest)
    (kk : ∀ (H1 : Heap) (locs1 : List Loc), va_P D cl1 ws H1 → va_S A H0 H1 locs1 → W p l e R s m args below meth c H1 locs1 cells slots Q (F0 m (pc + 3) ls rest)) : W p l e R s m args below meth c H locs cells slots Q (F0 m pc ls st0) := by
  refine va_callv (r_runI hF hm (hM H.size) hdg hrc hrs hR hn hls hW hP hD hf hst) hS (fun q _ h => a_in hD hS hA q h) (a_in hD hS hA) (fun u t1 H1 locs1 ht _ _ hB _ _ hS1 => ?_)
  have hB : va_P D cl1 ws t1.heap := hB
  rw [ht] at hB
  exact kk H1 locs1 hB hS1
end H7

theorem gwV {own C : String} {index maxL : Nat} {y : MethodName} {bytes : ByteArray} {ret : Option FieldType} (w1 : Cond.methodLink own index y ∈ big) (w2 : Cond.instanceMethod y ∈ big) (w3 : Cond.selects C y y ∈ big) (w4 : Cond.initialized C ∈ big) (w5 : Cond.code y bytes maxL ret ∈ big) : GoodIn big (wsV own index C y (Cond.code y bytes maxL ret :: big)) := gw (fun w h => by
  simp only [wsV, List.cons_append, List.nil_append, List.mem_cons] at h
  rcases h with rfl | rfl | rfl | rfl | rfl | h
  · exact w1
  · exact w2
  · exact w3
  · exact w4
  · exact w5
  · exact h)
theorem gwS {own : String} {index maxL : Nat} {y : MethodName} {bytes : ByteArray} {ret : Option FieldType} (w1 : Cond.methodLink own index y ∈ big) (w2 : Cond.static y ∈ big) (w4 : Cond.initialized y.cls ∈ big) (w5 : Cond.code y bytes maxL ret ∈ big) : GoodIn big (va_wsS own index y (Cond.code y bytes maxL ret :: big)) := gw (fun w h => by
  simp only [va_wsS, List.cons_append, List.nil_append, List.mem_cons] at h
  rcases h with rfl | rfl | rfl | rfl | h
  · exact w1
  · exact w2
  · exact w4
  · exact w5
  · exact h)
/-! the class's world: a heap by kinds, and what may still be made -/
abbrev CS : Type := HS × Nat
def phI (r : Nat) : Nat := r
abbrev GE : Type := Nat × Nat × Nat × Nat × Nat × Nat × Nat
def nmsF (i : Nat) : Int32 := ([92, 47, 58, 42, 63, 34, 60, 62, 124] : List Int32).getD i 0
def gcN : MethodName := ⟨"java/lang/Object", "getClass", "()Ljava/lang/Class;"⟩
def bodyF (i : Nat) : Int32 := ([36, 25, 4, 9, 4, 57, 24, 24, 49, 49, 48, 0, 4, 4, 33, 0, 41, 33, 24] : List Int32).getD i 0
def fileF (i : Nat) : Int32 := ([0, 0, 0, 0, 0, 0, 72, 72, 80, 80, 72, 0, 0, 0, 72, 0, 88, 80, 72] : List Int32).getD i 0
def jc {β : Type} (B : (β → CS → Prop) → Prop) (D : β → CS → Prop) : Prop := B D
theorem jc_open {β : Type} {B : (β → CS → Prop) → Prop} {D : β → CS → Prop} (h : jc B D) : ∃ K : β → CS → Prop, (∀ x κ, K x κ → D x κ) ∧ B K := ⟨D, fun _ _ h => h, h⟩
theorem jc_in {β : Type} {B : (β → CS → Prop) → Prop} {D : β → CS → Prop} (J : β → CS → Prop) (hD : ∀ x κ, J x κ → D x κ) (hB : ∀ K : β → CS → Prop, (∀ x κ, J x κ → K x κ) → B K) : jc B D := hB D hD
def lc {β : Type} (B : (β → CS → Prop) → β → CS → Prop) (x : β) (κ : CS) : Prop := ∃ (I : β → CS → Prop) (μ : β → CS → Nat), I x κ ∧ ∀ x κ, I x κ → B (fun x' κ' => I x' κ' ∧ μ x' κ' < μ x κ) x κ
theorem lc_in {β : Type} {B : (β → CS → Prop) → β → CS → Prop} {x : β} {κ : CS} (I : β → CS → Prop) (μ : β → CS → Nat) (h0 : I x κ) (hs : ∀ x κ, I x κ → ∀ K : β → CS → Prop, (∀ x' κ', I x' κ' → μ x' κ' < μ x κ → K x' κ') → B K x κ) : lc B x κ := ⟨I, μ, h0, fun x κ h => hs x κ h _ (fun _ _ a b => ⟨a, b⟩)⟩
def CT (R : Room) (D : va_G) (t : Nat → ClassId) (A : Nat → Prop) (H0 : Heap) (κ : CS) (H : Heap) (locs : List Loc) (cells slots : Nat) : Prop := HT phI τT D t A H0 κ.1 H locs ∧ cells + κ.2 / 12 ≤ R.cells ∧ slots + κ.2 ≤ R.slots
/-- the statics, Object[]'s own class object, the String constant: they lie beside the world -/
def EZ (G : GE) (A : Nat → Prop) (U : State) (H : Heap) : Prop :=
  (va_Z "java/util/ArrayList" "DEFAULTCAPACITY_EMPTY_ELEMENTDATA" "[Ljava/lang/Object;" (.ref G.1) A U H ∧ va_T (.object "java/lang/Object") G.1 0 (fun _ => .null) A U H) ∧
  (va_Z "ShareHouse" "BODY" "[I" (.ref G.2.1) A U H ∧ va_T .int G.2.1 19 (fun i => .int (bodyF i)) A U H) ∧
  (va_Z "ShareHouse" "FILE_AT" "[I" (.ref G.2.2.1) A U H ∧ va_T .int G.2.2.1 19 (fun i => .int (fileF i)) A U H) ∧
  (va_Z "ShareHouse" "DOTS" "[B" (.ref G.2.2.2.1) A U H ∧ va_T .byte G.2.2.2.1 2 (fun _ => .int 46) A U H) ∧
  (va_Mi "[Ljava/lang/Object;" G.2.2.2.2.1 U ∧ va_Dc U ∧ (Cond.selects "[Ljava/lang/Object;" gcN gcN).before #[] U = true ∧ (Cond.instanceMethod gcN).before #[] U = true ∧ (Cond.native gcN).before #[] U = true) ∧
  (va_O "java/lang/String" G.2.2.2.2.2.1 A U H ∧ va_OF "java/lang/String" "coder" "B" (.int 0) G.2.2.2.2.2.1 A U H ∧ va_OF "java/lang/String" "value" "[B" (.ref G.2.2.2.2.2.2) G.2.2.2.2.2.1 A U H ∧ va_T .byte G.2.2.2.2.2.2 9 (fun i => .int (nmsF i)) A U H ∧ vk_R "ShareHouse$Wish" 64 "\\/:*?\"<>|" G.2.2.2.2.2.1 U ∧ va_Z "java/lang/String" "COMPACT_STRINGS" "Z" (.int 1) A U H)
theorem EZ.moved {G : GE} {A : Nat → Prop} {u U : State} {H : Heap} (hW : u.WarmedH U.vm) (h : EZ G A u H) : EZ G A U H := by
  obtain ⟨⟨a1, a2⟩, ⟨b1, b2⟩, ⟨c1, c2⟩, ⟨d1, d2⟩, ⟨e1, e2, e3, e4, e5⟩, f1, f2, f3, f4, f5, f6⟩ := h
  exact ⟨⟨va_Z.moved hW.alike a1, va_T.moved hW.alike a2⟩, ⟨va_Z.moved hW.alike b1, va_T.moved hW.alike b2⟩, ⟨va_Z.moved hW.alike c1, va_T.moved hW.alike c2⟩, ⟨va_Z.moved hW.alike d1, va_T.moved hW.alike d2⟩,
    ⟨va_Mi.moved hW.alike e1, va_Dc.moved hW.alike e2, word_at hW (Or.inl rfl) e3, word_at hW (Or.inl rfl) e4, word_at hW (Or.inl rfl) e5⟩, va_O.moved hW.alike f1, va_OF.moved hW.alike f2, va_OF.moved hW.alike f3, va_T.moved hW.alike f4, vk_R.warm hW f5, va_Z.moved hW.alike f6⟩
theorem EZ.kept {G : GE} {A : Nat → Prop} {U : State} {H H1 : Heap} (h : EZ G A U H) (hq : ∀ a : Nat, a < H.size → ¬ A a → H1[a]? = H[a]?) : EZ G A U H1 := by
  obtain ⟨⟨a1, a2⟩, ⟨b1, b2⟩, ⟨c1, c2⟩, ⟨d1, d2⟩, e1, f1, f2, f3, f4, f5, f6⟩ := h
  exact ⟨⟨a1.kept hq, a2.kept hq⟩, ⟨b1.kept hq, b2.kept hq⟩, ⟨c1.kept hq, c2.kept hq⟩, ⟨d1.kept hq, d2.kept hq⟩, e1, f1.kept hq, f2.kept hq, f3.kept hq, f4.kept hq, f5, f6.kept hq⟩
theorem EZ.narrow {G : GE} {A B : Nat → Prop} {U : State} {H : Heap} (h : EZ G A U H) (hAB : ∀ q, B q → A q) : EZ G B U H := by
  obtain ⟨⟨a1, a2⟩, ⟨b1, b2⟩, ⟨c1, c2⟩, ⟨d1, d2⟩, e1, f1, f2, f3, f4, f5, f6⟩ := h
  exact ⟨⟨a1.narrow hAB, a2.narrow hAB⟩, ⟨b1.narrow hAB, b2.narrow hAB⟩, ⟨c1.narrow hAB, c2.narrow hAB⟩, ⟨d1.narrow hAB, d2.narrow hAB⟩, e1, f1.narrow hAB, f2.narrow hAB, f3.narrow hAB, f4.narrow hAB, f5, f6.narrow hAB⟩
abbrev CPc (D : va_G) (t : Nat → ClassId) (G : GE) (κ : CS) (sz : Nat) (av : List Value) : Array Value → State → Prop := fun a U => PC D t (hWd phI t κ.1) sz av a U ∧ EZ G (va_A (hWd phI t κ.1) sz) U U.heap
abbrev cB (D : va_G) (t : Nat → ClassId) (κ : CS) (sz : Nat) : CS → State → Prop := fun κ' u => va_P D cl1 (hWd phI t κ'.1) u.heap ∧ va_D (va_A (hWd phI t κ.1) sz) (hWd phI t κ'.1)
abbrev cP (κ κ' : CS) (mc ms : Nat) : Prop := mc + κ'.2 / 12 ≤ κ.2 / 12 ∧ ms + κ'.2 ≤ κ.2
abbrev cRm (fr lo : Nat) (κ : CS) : Room := { frames := fr, cells := κ.2 / 12, slots := κ.2, locals := lo }

abbrev CMi (l : Launch) (D : va_G) (t : Nat → ClassId) (y : MethodName) (bytes : ByteArray) (maxL : Nat) (ret : Option FieldType) (fr lo : Nat) (G : GE) (κ : CS) (sz : Nat) (av : List Value) (post : Int32 → CS → Prop) : Prop := MetB l y (Cond.code y bytes maxL ret :: big) (cRm fr lo κ) (CPc D t G κ sz av) (fun mc ms => va_Qi (fun r κ' => post r κ' ∧ cP κ κ' mc ms) (cB D t κ sz) (va_A (hWd phI t κ.1) sz)) (va_A (hWd phI t κ.1) sz)
abbrev CMl (l : Launch) (D : va_G) (t : Nat → ClassId) (y : MethodName) (bytes : ByteArray) (maxL : Nat) (ret : Option FieldType) (fr lo : Nat) (G : GE) (κ : CS) (sz : Nat) (av : List Value) (post : Int64 → CS → Prop) : Prop := MetB l y (Cond.code y bytes maxL ret :: big) (cRm fr lo κ) (CPc D t G κ sz av) (fun mc ms => va_Ql (fun r κ' => post r κ' ∧ cP κ κ' mc ms) (cB D t κ sz) (va_A (hWd phI t κ.1) sz)) (va_A (hWd phI t κ.1) sz)
abbrev CMq (l : Launch) (D : va_G) (t : Nat → ClassId) (y : MethodName) (bytes : ByteArray) (maxL : Nat) (ret : Option FieldType) (fr lo : Nat) (G : GE) (κ : CS) (sz : Nat) (av : List Value) (post : Option Nat → CS → Prop) : Prop := MetB l y (Cond.code y bytes maxL ret :: big) (cRm fr lo κ) (CPc D t G κ sz av) (fun mc ms => va_Qq (fun r κ' => post r κ' ∧ cP κ κ' mc ms) (cB D t κ sz) (va_A (hWd phI t κ.1) sz)) (va_A (hWd phI t κ.1) sz)
abbrev CMv (l : Launch) (D : va_G) (t : Nat → ClassId) (y : MethodName) (bytes : ByteArray) (maxL : Nat) (fr lo : Nat) (G : GE) (κ : CS) (sz : Nat) (av : List Value) (post : CS → Prop) : Prop := MetB l y (Cond.code y bytes maxL none :: big) (cRm fr lo κ) (CPc D t G κ sz av) (fun mc ms => va_Qv (fun κ' => post κ' ∧ cP κ κ' mc ms) (cB D t κ sz) (va_A (hWd phI t κ.1) sz)) (va_A (hWd phI t κ.1) sz)
theorem nar_q {ty : FieldType} (h : kty ty = 2) (v : Option Nat) : narrow ty (va_rf v) = va_rf v ∧ fits ty (va_rf v) = true := by
  cases ty <;> first | (exact absurd h (by decide)) | (cases v <;> exact ⟨rfl, rfl⟩)
theorem hWd_new {t : Nat → ClassId} {σ : HS} {q r n : Nat} (hq : q ∉ sL σ) : hWd phI t (h_uN σ q r n) = hWd phI t σ ++ [(q, ent phI t (h_uN σ q r n) q)] := by
  unfold hWd
  rw [va_pl_push hq]
  show va_pl (sL σ ++ [q]) _ = _
  refine va_pl_congr (fun x => ?_)
  by_cases hx : x = q
  · subst hx
    rw [va_up_self]
  · rw [va_up_ne _ _ hx]
    have eK : sK (h_uN σ q r n) x = sK σ x := va_up_ne _ _ hx
    have eN : sN (h_uN σ q r n) x = sN σ x := va_up_ne _ _ hx
    have eI : sI (h_uN σ q r n) x = sI σ x := va_up_ne _ _ hx
    have eJ : sJ (h_uN σ q r n) x = sJ σ x := va_up_ne _ _ hx
    have eP : sP (h_uN σ q r n) x = sP σ x := va_up_ne _ _ hx
    unfold ent
    rw [eK, eN, eI, eJ, eP]
    congr 3
    unfold flds
    rw [eI, eJ, eP]
theorem new_out {t : Nat → ClassId} {A : Nat → Prop} {σ : HS} {q : Nat} {x : va_E} (hD : va_D A (hWd phI t σ ++ [(q, x)])) : q ∉ sL σ := fun h => by
  obtain ⟨i, hi⟩ := h_in (ph := phI) (t := t) h
  have hl := (List.getElem?_eq_some_iff.mp hi).1
  have h1 : (hWd phI t σ ++ [(q, x)])[i]? = some (q, ent phI t σ q) := by rw [List.getElem?_append_left hl]; exact hi
  have h2 : (hWd phI t σ ++ [(q, x)])[(hWd phI t σ).length]? = some (q, x) := List.getElem?_concat_length ..
  have := hD.1 _ _ _ _ h1 h2 rfl
  omega
section R41
variable {p : Program} {l : Launch} {e : Env} {R : Room} {s : State} {m : MethodId} {args : Array Value} {below : List Frame} {meth : Method} {c : Code} {H : Heap} {locs : List Loc} {cells slots : Nat} {Q : State → Prop} {cc : ByteArray} {pc : Nat} {ls : Array Slot} {rest : List Value} {D : va_G} {t : Nat → ClassId} {A : Nat → Prop} {H0 : Heap} {own : String} {nL : Nat} {κ : CS} {G : GE} {i : Int32} {q : Option Nat} {index k ci N : Nat} {C : String} {T : u_T} {ty : Nat → FieldType}
variable {y : MethodName} {bytes : ByteArray} {maxL n : Nat} {ret : Option FieldType} {rm : Room} {As st0 : List Value} {fr lo : Nat} {host : String}
theorem c_go {sz : Nat} {av : List Value} {Qc : Nat → Nat → Array Value → State → Outcome → State → Prop} {free : Addr → Prop} (hy : plainName y.cls = true) (hav : (lg_sl av).length ≤ maxL)
    (body : ∀ (p : Program) (e : Env) (s : State) (m : MethodId) (below : List Frame) (meth : Method) (c : Code) (ls : Array Slot) (A : Nat → Prop), FX p m c cc maxL s av.toArray y.cls D t → meth.sig.returnType = ret → meth.locks = false → meth.name = y.name → (va_A (hWd phI t κ.1) sz = A) → CT (cRm fr lo κ) D t A s.heap κ s.heap [] 0 0 → (∀ q, s.heap.size ≤ q → A q) → EZ G A s s.heap → lv_has ls maxL (lv_args 0 av) →
      W p l e (cRm fr lo κ) s m av.toArray below meth c s.heap [] 0 0 (MQB below Qc av.toArray s free) (F0 m 0 ls [])) : MetB l y (Cond.code y cc maxL ret :: big) (cRm fr lo κ) (CPc D t G κ sz av) Qc free := by
  refine MetB.ofW (cc := cc) (maxL := maxL) (ret := ret) hy rfl ?_
  intro p e s m args below meth c s₁ B hml hv
  obtain ⟨⟨rfl, hsz, hP, hK, hN, hD0⟩, hE⟩ := hv
  have hts := atoms_spec (ws := Cond.code y cc maxL ret :: big) B.pre
  have hown : s.vm.findClass y.cls = some m.cls := findClass_of_methodNamed B.named
  have hin : meth.name = y.name := (name_of_methodNamed B.named B.method).1
  rw [lg_entry_eq]
  have hl := lv_entry av (n := maxL) hav
  generalize (lg_sl av ++ List.replicate (maxL - (lg_sl av).length) Slot.unset).toArray = ls at hl ⊢
  exact body p e s m below meth c ls (va_A (hWd phI t κ.1) sz) ⟨⟨B.exec, B.bytes, hml, hown, fun w hw => hts w (List.mem_cons_of_mem _ hw)⟩, hK, hN⟩ B.returns B.notSynchronized hin rfl ⟨⟨hP, hD0.self, va_S.rf, okT⟩, by simp, by simp⟩ (fun q h => Or.inr (by rw [← hsz]; exact h)) hE hl
theorem c_ain (hH : CT R D t A H0 κ H locs cells slots) (hA : ∀ q, H0.size ≤ q → A q) : ∀ q, va_A (hWd phI t κ.1) H.size q → A q := h_ain hH.1 hA
theorem CPc_blind {sz : Nat} {av : List Value} : FrameBlind (CPc D t G κ sz av) := fun a U g mk h => ⟨PC_blind a U g mk h.1, EZ.moved (State.WarmedH.refl U) h.2⟩
theorem CPc_at {av : List Value} (hF : FX p m c cc nL s args own D t) (hH : CT R D t A s.heap κ H locs cells slots) (hA : ∀ q, s.heap.size ≤ q → A q) (hE : EZ G A s s.heap) : ∀ U : State, U.heap = H → s.WarmedH U.vm → CPc D t G κ H.size av av.toArray U := fun U hU hW =>
  ⟨PC_at hH.1.1 hH.1.2.1 hF.2 U hU hW, by
    have h1 := (hE.kept hH.1.2.2.1.2.1).narrow (c_ain hH hA)
    rw [← hU] at h1
    rw [← hU]
    exact EZ.moved hW h1⟩
theorem cw_reti {κ0 : CS} {v : Int32} {post : Int32 → CS → Prop} (hF : FX p m c cc nL s args own D t) (hH : CT R D t A s.heap κ H locs cells slots) (hR : R.cells = κ0.2 / 12 ∧ R.slots = κ0.2) {ty : FieldType} (hr : meth.sig.returnType = some ty) (hn : narrow ty (.int v) = .int v) (hlk : meth.locks = false) (hdg : decode cc pc = .ok (.ireturn, 1)) (hw : post v κ) : W p l e R s m args below meth c H locs cells slots (MQB below (fun mc ms => va_Qi (fun r κ' => post r κ' ∧ cP κ0 κ' mc ms) (fun κ' u => va_P D cl1 (hWd phI t κ'.1) u.heap ∧ va_D A (hWd phI t κ'.1)) A) args s A) (F0 m pc ls [.int v]) :=
  W_imp MQB.of (W.zret hF.1.1 hF.1.2.1 hr hn (fun t1 ht _ => ⟨⟨v, κ, rfl, ⟨hw, ⟨by rw [← hR.1]; exact hH.2.1, by rw [← hR.2]; exact hH.2.2⟩⟩, by rw [ht]; exact hH.1.1, hH.1.2.1⟩, hH.1.2.2.1.F ht⟩) hH.1.2.2.1.2.2 hdg hlk)
theorem cw_retl {κ0 : CS} {v : Int64} {post : Int64 → CS → Prop} (hF : FX p m c cc nL s args own D t) (hH : CT R D t A s.heap κ H locs cells slots) (hR : R.cells = κ0.2 / 12 ∧ R.slots = κ0.2) (hr : meth.sig.returnType = some .long) (hlk : meth.locks = false) (hdg : decode cc pc = .ok (.lreturn, 1)) (hw : post v κ) : W p l e R s m args below meth c H locs cells slots (MQB below (fun mc ms => va_Ql (fun r κ' => post r κ' ∧ cP κ0 κ' mc ms) (fun κ' u => va_P D cl1 (hWd phI t κ'.1) u.heap ∧ va_D A (hWd phI t κ'.1)) A) args s A) (F0 m pc ls [.long v]) :=
  W_imp MQB.of (W.lret hF.1.1 hF.1.2.1 hr (fun t1 ht _ => ⟨⟨v, κ, rfl, ⟨hw, ⟨by rw [← hR.1]; exact hH.2.1, by rw [← hR.2]; exact hH.2.2⟩⟩, by rw [ht]; exact hH.1.1, hH.1.2.1⟩, hH.1.2.2.1.F ht⟩) hH.1.2.2.1.2.2 hdg hlk)
theorem cw_retq {κ0 : CS} {v : Option Nat} {post : Option Nat → CS → Prop} (hF : FX p m c cc nL s args own D t) (hH : CT R D t A s.heap κ H locs cells slots) (hR : R.cells = κ0.2 / 12 ∧ R.slots = κ0.2) {ty : FieldType} (hr : meth.sig.returnType = some ty) (hrt : (∃ n, ty = .object n) ∨ ∃ t, ty = .array t) (hlk : meth.locks = false) (hdg : decode cc pc = .ok (.areturn, 1)) (hw : post v κ) : W p l e R s m args below meth c H locs cells slots (MQB below (fun mc ms => va_Qq (fun r κ' => post r κ' ∧ cP κ0 κ' mc ms) (fun κ' u => va_P D cl1 (hWd phI t κ'.1) u.heap ∧ va_D A (hWd phI t κ'.1)) A) args s A) (F0 m pc ls [va_rf v]) :=
  W_imp MQB.of (W.aret hF.1.1 hF.1.2.1 hr hrt (va_rf_or v) (fun t1 ht _ => ⟨⟨v, κ, rfl, ⟨hw, ⟨by rw [← hR.1]; exact hH.2.1, by rw [← hR.2]; exact hH.2.2⟩⟩, by rw [ht]; exact hH.1.1, hH.1.2.1⟩, hH.1.2.2.1.F ht⟩) hH.1.2.2.1.2.2 hdg hlk)
theorem cw_retv {κ0 : CS} {post : CS → Prop} (hF : FX p m c cc nL s args own D t) (hH : CT R D t A s.heap κ H locs cells slots) (hR : R.cells = κ0.2 / 12 ∧ R.slots = κ0.2) (hr : meth.sig.returnType = none) (hlk : meth.locks = false) (hdg : decode cc pc = .ok (.return_, 1)) (hw : post κ) : W p l e R s m args below meth c H locs cells slots (MQB below (fun mc ms => va_Qv (fun κ' => post κ' ∧ cP κ0 κ' mc ms) (fun κ' u => va_P D cl1 (hWd phI t κ'.1) u.heap ∧ va_D A (hWd phI t κ'.1)) A) args s A) (F0 m pc ls []) :=
  W_imp MQB.of (W.vret hF.1.1 hF.1.2.1 hr (fun t1 ht _ => ⟨⟨κ, rfl, ⟨hw, ⟨by rw [← hR.1]; exact hH.2.1, by rw [← hR.2]; exact hH.2.2⟩⟩, by rw [ht]; exact hH.1.1, hH.1.2.1⟩, hH.1.2.2.1.F ht⟩) hH.1.2.2.1.2.2 hdg hlk)
theorem cw_retz {κ0 : CS} {v : Int32} {post : Int32 → CS → Prop} (hF : FX p m c cc nL s args own D t) (hH : CT R D t A s.heap κ H locs cells slots) (hR : R.cells = κ0.2 / 12 ∧ R.slots = κ0.2) (hr : meth.sig.returnType = some .boolean) (hlk : meth.locks = false) (hdg : decode cc pc = .ok (.ireturn, 1)) (hw : (0 ≤ v.toInt ∧ v.toInt ≤ 1) ∧ post v κ) : W p l e R s m args below meth c H locs cells slots (MQB below (fun mc ms => va_Qi (fun r κ' => post r κ' ∧ cP κ0 κ' mc ms) (fun κ' u => va_P D cl1 (hWd phI t κ'.1) u.heap ∧ va_D A (hWd phI t κ'.1)) A) args s A) (F0 m pc ls [.int v]) := cw_reti hF hH hR hr (i_01 hw.1).1 hlk hdg hw.2
def MVN (own : String) (index : Nat) (C : String) (y : MethodName) (bytes : ByteArray) (maxL : Nat) (ret : Option FieldType) (n : Nat) (host : String) : Prop :=
  ((own, index, y, host) ∈ nestL ∧ Cond.instanceMethod y ∈ big ∧ Cond.selects C y y ∈ big ∧ Cond.initialized y.cls ∈ big ∧ Cond.code y bytes maxL ret ∈ big) ∧ y.cls ≠ "java/lang/invoke/MethodHandle" ∧ y.cls ≠ "java/lang/invoke/VarHandle" ∧ (parseMethodDescriptor y.desc).map (fun d => d.parameters.length) = some n
def MSN (own : String) (index : Nat) (y : MethodName) (bytes : ByteArray) (maxL : Nat) (ret : Option FieldType) (n : Nat) (host : String) : Prop :=
  ((own, index, y, host) ∈ nestL ∧ Cond.static y ∈ big ∧ Cond.initialized y.cls ∈ big ∧ Cond.code y bytes maxL ret ∈ big) ∧ y.cls ≠ "java/lang/invoke/MethodHandle" ∧ y.cls ≠ "java/lang/invoke/VarHandle" ∧ (parseMethodDescriptor y.desc).map (fun d => d.parameters.length) = some n
def MIN (own : String) (index : Nat) (y : MethodName) (bytes : ByteArray) (maxL : Nat) (n : Nat) (host : String) : Prop :=
  ((own, index, y, host) ∈ nestL ∧ Cond.instanceMethod y ∈ big ∧ Cond.initialized y.cls ∈ big ∧ Cond.code y bytes maxL none ∈ big) ∧ y.name = "<init>" ∧ y.cls ≠ "java/lang/invoke/MethodHandle" ∧ y.cls ≠ "java/lang/invoke/VarHandle" ∧ (parseMethodDescriptor y.desc).map (fun d => d.parameters.length) = some n
theorem gcode {y : MethodName} {bytes : ByteArray} {maxL : Nat} {ret : Option FieldType} (h : Cond.code y bytes maxL ret ∈ big) : GoodIn big (Cond.code y bytes maxL ret :: big) := gw (fun w hw => by
  rcases List.mem_cons.mp hw with rfl | hw
  · exact h
  · exact hw)
theorem cw_cVi {post : Int32 → CS → Prop} {b : Nat} (hF : FX p m c cc nL s args own D t) (hH : CT R D t A s.heap κ H locs cells slots) (hA : ∀ q, s.heap.size ≤ q → A q) (hE : EZ G A s s.heap) (hm : MV own index C y bytes maxL ret n) (hC : CI ci C T N ty) (hci : ci < 20) (hM : ∀ sz, CMi l D t y bytes maxL ret fr lo G κ sz (.ref b :: As) post) (hdg : decode cc pc = .ok (.invokevirtual index, 3)) (hb : b ∈ sL κ.1 ∧ sK κ.1 b = ci) (hRm : fr + 1 ≤ R.frames ∧ 8 + (maxL + 11) + lo ≤ R.locals) (hn : As.length = n) (hls : ls.size = nL) (hW : (rest.map fun v => v.category).sum ≤ 8) (hst : st0 = As.reverse ++ .ref b :: rest)
    (kk : ∀ (r : Int32) (κ' : CS) (H1 : Heap) (locs1 : List Loc) (cells1 slots1 : Nat), post r κ' → CT R D t A s.heap κ' H1 locs1 cells1 slots1 → W p l e R s m args below meth c H1 locs1 cells1 slots1 Q (F0 m (pc + 3) ls (.int r :: rest))) : W p l e R s m args below meth c H locs cells slots Q (F0 m pc ls st0) := by
  obtain ⟨⟨w1, w2, w3, w4, w5⟩, hd⟩ := hm
  obtain ⟨q, hq⟩ := h_in (ph := phI) (t := t) hb.1
  rw [ent_obj (c := ci) (by rw [hb.2]; rfl) hci] at hq
  refine callB_i (runB_V hF.1 (hM H.size) (cwV n hF.1.2.2.2.2 (gwV w1 w2 w3 w4 w5) rfl rfl rfl hd hRm) ⟨CPc_blind, va_recv hF.2.1 hH.1.1 hC.1 hq, CPc_at hF hH hA hE⟩ rfl hn hls hst (lv_room hW) hdg ⟨hH.2.1, hH.2.2⟩) hH.1.2.2.1 (fun q _ h => c_ain hH hA q h) (c_ain hH hA) (fun mc ms x u t1 H1 locs1 ht _ hw hB _ _ hS1 => ?_)
  obtain ⟨h2, h3, h4⟩ := hw
  obtain ⟨b1, b2⟩ := hB
  rw [ht] at b1
  obtain ⟨g1, g2⟩ := hH.2
  exact kk x u H1 locs1 _ _ h2 ⟨⟨b1, b2.weaken (fun k q _ h => c_ain hH hA q.1 h), hS1, okT⟩, by omega, by omega⟩
theorem cw_cViN {post : Int32 → CS → Prop} {b : Nat} (hF : FX p m c cc nL s args own D t) (hH : CT R D t A s.heap κ H locs cells slots) (hA : ∀ q, s.heap.size ≤ q → A q) (hE : EZ G A s s.heap) (hm : MVN own index C y bytes maxL ret n host) (hC : CI ci C T N ty) (hci : ci < 20) (hM : ∀ sz, CMi l D t y bytes maxL ret fr lo G κ sz (.ref b :: As) post) (hdg : decode cc pc = .ok (.invokevirtual index, 3)) (hb : b ∈ sL κ.1 ∧ sK κ.1 b = ci) (hRm : fr + 1 ≤ R.frames ∧ 8 + (maxL + 11) + lo ≤ R.locals) (hn : As.length = n) (hls : ls.size = nL) (hW : (rest.map fun v => v.category).sum ≤ 8) (hst : st0 = As.reverse ++ .ref b :: rest)
    (kk : ∀ (r : Int32) (κ' : CS) (H1 : Heap) (locs1 : List Loc) (cells1 slots1 : Nat), post r κ' → CT R D t A s.heap κ' H1 locs1 cells1 slots1 → W p l e R s m args below meth c H1 locs1 cells1 slots1 Q (F0 m (pc + 3) ls (.int r :: rest))) : W p l e R s m args below meth c H locs cells slots Q (F0 m pc ls st0) := by
  obtain ⟨⟨w1, w2, w3, w4, w5⟩, hd⟩ := hm
  obtain ⟨q, hq⟩ := h_in (ph := phI) (t := t) hb.1
  rw [ent_obj (c := ci) (by rw [hb.2]; rfl) hci] at hq
  refine callB_i (runB_VN hF.1 (hM H.size) (⟨va_cnB n hF.1.2.2.2.2 (gcode w5) rfl rfl rfl (hF.2.2.1 _ w1) (hF.1.2.2.2.2 _ w4) hd hRm, hF.1.2.2.2.2 _ w2, hF.1.2.2.2.2 _ w3⟩) ⟨CPc_blind, va_recv hF.2.1 hH.1.1 hC.1 hq, CPc_at hF hH hA hE⟩ rfl hn hls hst (lv_room hW) hdg ⟨hH.2.1, hH.2.2⟩) hH.1.2.2.1 (fun q _ h => c_ain hH hA q h) (c_ain hH hA) (fun mc ms x u t1 H1 locs1 ht _ hw hB _ _ hS1 => ?_)
  obtain ⟨h2, h3, h4⟩ := hw
  obtain ⟨b1, b2⟩ := hB
  rw [ht] at b1
  obtain ⟨g1, g2⟩ := hH.2
  exact kk x u H1 locs1 _ _ h2 ⟨⟨b1, b2.weaken (fun k q _ h => c_ain hH hA q.1 h), hS1, okT⟩, by omega, by omega⟩
theorem cw_cSi {post : Int32 → CS → Prop} (hF : FX p m c cc nL s args own D t) (hH : CT R D t A s.heap κ H locs cells slots) (hA : ∀ q, s.heap.size ≤ q → A q) (hE : EZ G A s s.heap) (hm : MS own index y bytes maxL ret n) (hM : ∀ sz, CMi l D t y bytes maxL ret fr lo G κ sz As post) (hdg : decode cc pc = .ok (.invokestatic index, 3)) (hRm : fr + 1 ≤ R.frames ∧ 8 + (maxL + 11) + lo ≤ R.locals) (hn : As.length = n) (hls : ls.size = nL) (hW : (rest.map fun v => v.category).sum ≤ 8) (hst : st0 = As.reverse ++ rest)
    (kk : ∀ (r : Int32) (κ' : CS) (H1 : Heap) (locs1 : List Loc) (cells1 slots1 : Nat), post r κ' → CT R D t A s.heap κ' H1 locs1 cells1 slots1 → W p l e R s m args below meth c H1 locs1 cells1 slots1 Q (F0 m (pc + 3) ls (.int r :: rest))) : W p l e R s m args below meth c H locs cells slots Q (F0 m pc ls st0) := by
  obtain ⟨⟨w1, w2, w4, w5⟩, hd⟩ := hm
  refine callB_i (runB_S hF.1 (hM H.size) (va_cwS n hF.1.2.2.2.2 (gwS w1 w2 w4 w5) rfl rfl rfl hd hRm) ⟨CPc_blind, CPc_at hF hH hA hE⟩ rfl hn hls hst (lv_room hW) hdg ⟨hH.2.1, hH.2.2⟩) hH.1.2.2.1 (fun q _ h => c_ain hH hA q h) (c_ain hH hA) (fun mc ms x u t1 H1 locs1 ht _ hw hB _ _ hS1 => ?_)
  obtain ⟨h2, h3, h4⟩ := hw
  obtain ⟨b1, b2⟩ := hB
  rw [ht] at b1
  obtain ⟨g1, g2⟩ := hH.2
  exact kk x u H1 locs1 _ _ h2 ⟨⟨b1, b2.weaken (fun k q _ h => c_ain hH hA q.1 h), hS1, okT⟩, by omega, by omega⟩
theorem cw_cSiN {post : Int32 → CS → Prop} (hF : FX p m c cc nL s args own D t) (hH : CT R D t A s.heap κ H locs cells slots) (hA : ∀ q, s.heap.size ≤ q → A q) (hE : EZ G A s s.heap) (hm : MSN own index y bytes maxL ret n host) (hM : ∀ sz, CMi l D t y bytes maxL ret fr lo G κ sz As post) (hdg : decode cc pc = .ok (.invokestatic index, 3)) (hRm : fr + 1 ≤ R.frames ∧ 8 + (maxL + 11) + lo ≤ R.locals) (hn : As.length = n) (hls : ls.size = nL) (hW : (rest.map fun v => v.category).sum ≤ 8) (hst : st0 = As.reverse ++ rest)
    (kk : ∀ (r : Int32) (κ' : CS) (H1 : Heap) (locs1 : List Loc) (cells1 slots1 : Nat), post r κ' → CT R D t A s.heap κ' H1 locs1 cells1 slots1 → W p l e R s m args below meth c H1 locs1 cells1 slots1 Q (F0 m (pc + 3) ls (.int r :: rest))) : W p l e R s m args below meth c H locs cells slots Q (F0 m pc ls st0) := by
  obtain ⟨⟨w1, w2, w4, w5⟩, hd⟩ := hm
  refine callB_i (runB_SN hF.1 (hM H.size) (⟨va_cnB n hF.1.2.2.2.2 (gcode w5) rfl rfl rfl (hF.2.2.1 _ w1) (hF.1.2.2.2.2 _ w4) hd hRm, hF.1.2.2.2.2 _ w2, trivial⟩) ⟨CPc_blind, CPc_at hF hH hA hE⟩ rfl hn hls hst (lv_room hW) hdg ⟨hH.2.1, hH.2.2⟩) hH.1.2.2.1 (fun q _ h => c_ain hH hA q h) (c_ain hH hA) (fun mc ms x u t1 H1 locs1 ht _ hw hB _ _ hS1 => ?_)
  obtain ⟨h2, h3, h4⟩ := hw
  obtain ⟨b1, b2⟩ := hB
  rw [ht] at b1
  obtain ⟨g1, g2⟩ := hH.2
  exact kk x u H1 locs1 _ _ h2 ⟨⟨b1, b2.weaken (fun k q _ h => c_ain hH hA q.1 h), hS1, okT⟩, by omega, by omega⟩
theorem cw_cVl {post : Int64 → CS → Prop} {b : Nat} (hF : FX p m c cc nL s args own D t) (hH : CT R D t A s.heap κ H locs cells slots) (hA : ∀ q, s.heap.size ≤ q → A q) (hE : EZ G A s s.heap) (hm : MV own index C y bytes maxL ret n) (hC : CI ci C T N ty) (hci : ci < 20) (hM : ∀ sz, CMl l D t y bytes maxL ret fr lo G κ sz (.ref b :: As) post) (hdg : decode cc pc = .ok (.invokevirtual index, 3)) (hb : b ∈ sL κ.1 ∧ sK κ.1 b = ci) (hRm : fr + 1 ≤ R.frames ∧ 8 + (maxL + 11) + lo ≤ R.locals) (hn : As.length = n) (hls : ls.size = nL) (hW : (rest.map fun v => v.category).sum ≤ 8) (hst : st0 = As.reverse ++ .ref b :: rest)
    (kk : ∀ (r : Int64) (κ' : CS) (H1 : Heap) (locs1 : List Loc) (cells1 slots1 : Nat), post r κ' → CT R D t A s.heap κ' H1 locs1 cells1 slots1 → W p l e R s m args below meth c H1 locs1 cells1 slots1 Q (F0 m (pc + 3) ls (.long r :: rest))) : W p l e R s m args below meth c H locs cells slots Q (F0 m pc ls st0) := by
  obtain ⟨⟨w1, w2, w3, w4, w5⟩, hd⟩ := hm
  obtain ⟨q, hq⟩ := h_in (ph := phI) (t := t) hb.1
  rw [ent_obj (c := ci) (by rw [hb.2]; rfl) hci] at hq
  refine callB_l (runB_V hF.1 (hM H.size) (cwV n hF.1.2.2.2.2 (gwV w1 w2 w3 w4 w5) rfl rfl rfl hd hRm) ⟨CPc_blind, va_recv hF.2.1 hH.1.1 hC.1 hq, CPc_at hF hH hA hE⟩ rfl hn hls hst (lv_room hW) hdg ⟨hH.2.1, hH.2.2⟩) hH.1.2.2.1 (fun q _ h => c_ain hH hA q h) (c_ain hH hA) (fun mc ms x u t1 H1 locs1 ht _ hw hB _ _ hS1 => ?_)
  obtain ⟨h2, h3, h4⟩ := hw
  obtain ⟨b1, b2⟩ := hB
  rw [ht] at b1
  obtain ⟨g1, g2⟩ := hH.2
  exact kk x u H1 locs1 _ _ h2 ⟨⟨b1, b2.weaken (fun k q _ h => c_ain hH hA q.1 h), hS1, okT⟩, by omega, by omega⟩
theorem cw_cSl {post : Int64 → CS → Prop} (hF : FX p m c cc nL s args own D t) (hH : CT R D t A s.heap κ H locs cells slots) (hA : ∀ q, s.heap.size ≤ q → A q) (hE : EZ G A s s.heap) (hm : MS own index y bytes maxL ret n) (hM : ∀ sz, CMl l D t y bytes maxL ret fr lo G κ sz As post) (hdg : decode cc pc = .ok (.invokestatic index, 3)) (hRm : fr + 1 ≤ R.frames ∧ 8 + (maxL + 11) + lo ≤ R.locals) (hn : As.length = n) (hls : ls.size = nL) (hW : (rest.map fun v => v.category).sum ≤ 8) (hst : st0 = As.reverse ++ rest)
    (kk : ∀ (r : Int64) (κ' : CS) (H1 : Heap) (locs1 : List Loc) (cells1 slots1 : Nat), post r κ' → CT R D t A s.heap κ' H1 locs1 cells1 slots1 → W p l e R s m args below meth c H1 locs1 cells1 slots1 Q (F0 m (pc + 3) ls (.long r :: rest))) : W p l e R s m args below meth c H locs cells slots Q (F0 m pc ls st0) := by
  obtain ⟨⟨w1, w2, w4, w5⟩, hd⟩ := hm
  refine callB_l (runB_S hF.1 (hM H.size) (va_cwS n hF.1.2.2.2.2 (gwS w1 w2 w4 w5) rfl rfl rfl hd hRm) ⟨CPc_blind, CPc_at hF hH hA hE⟩ rfl hn hls hst (lv_room hW) hdg ⟨hH.2.1, hH.2.2⟩) hH.1.2.2.1 (fun q _ h => c_ain hH hA q h) (c_ain hH hA) (fun mc ms x u t1 H1 locs1 ht _ hw hB _ _ hS1 => ?_)
  obtain ⟨h2, h3, h4⟩ := hw
  obtain ⟨b1, b2⟩ := hB
  rw [ht] at b1
  obtain ⟨g1, g2⟩ := hH.2
  exact kk x u H1 locs1 _ _ h2 ⟨⟨b1, b2.weaken (fun k q _ h => c_ain hH hA q.1 h), hS1, okT⟩, by omega, by omega⟩
theorem cw_cSlN {post : Int64 → CS → Prop} (hF : FX p m c cc nL s args own D t) (hH : CT R D t A s.heap κ H locs cells slots) (hA : ∀ q, s.heap.size ≤ q → A q) (hE : EZ G A s s.heap) (hm : MSN own index y bytes maxL ret n host) (hM : ∀ sz, CMl l D t y bytes maxL ret fr lo G κ sz As post) (hdg : decode cc pc = .ok (.invokestatic index, 3)) (hRm : fr + 1 ≤ R.frames ∧ 8 + (maxL + 11) + lo ≤ R.locals) (hn : As.length = n) (hls : ls.size = nL) (hW : (rest.map fun v => v.category).sum ≤ 8) (hst : st0 = As.reverse ++ rest)
    (kk : ∀ (r : Int64) (κ' : CS) (H1 : Heap) (locs1 : List Loc) (cells1 slots1 : Nat), post r κ' → CT R D t A s.heap κ' H1 locs1 cells1 slots1 → W p l e R s m args below meth c H1 locs1 cells1 slots1 Q (F0 m (pc + 3) ls (.long r :: rest))) : W p l e R s m args below meth c H locs cells slots Q (F0 m pc ls st0) := by
  obtain ⟨⟨w1, w2, w4, w5⟩, hd⟩ := hm
  refine callB_l (runB_SN hF.1 (hM H.size) (⟨va_cnB n hF.1.2.2.2.2 (gcode w5) rfl rfl rfl (hF.2.2.1 _ w1) (hF.1.2.2.2.2 _ w4) hd hRm, hF.1.2.2.2.2 _ w2, trivial⟩) ⟨CPc_blind, CPc_at hF hH hA hE⟩ rfl hn hls hst (lv_room hW) hdg ⟨hH.2.1, hH.2.2⟩) hH.1.2.2.1 (fun q _ h => c_ain hH hA q h) (c_ain hH hA) (fun mc ms x u t1 H1 locs1 ht _ hw hB _ _ hS1 => ?_)
  obtain ⟨h2, h3, h4⟩ := hw
  obtain ⟨b1, b2⟩ := hB
  rw [ht] at b1
  obtain ⟨g1, g2⟩ := hH.2
  exact kk x u H1 locs1 _ _ h2 ⟨⟨b1, b2.weaken (fun k q _ h => c_ain hH hA q.1 h), hS1, okT⟩, by omega, by omega⟩
theorem cw_cVq {post : Option Nat → CS → Prop} {b : Nat} (hF : FX p m c cc nL s args own D t) (hH : CT R D t A s.heap κ H locs cells slots) (hA : ∀ q, s.heap.size ≤ q → A q) (hE : EZ G A s s.heap) (hm : MV own index C y bytes maxL ret n) (hC : CI ci C T N ty) (hci : ci < 20) (hM : ∀ sz, CMq l D t y bytes maxL ret fr lo G κ sz (.ref b :: As) post) (hdg : decode cc pc = .ok (.invokevirtual index, 3)) (hb : b ∈ sL κ.1 ∧ sK κ.1 b = ci) (hRm : fr + 1 ≤ R.frames ∧ 8 + (maxL + 11) + lo ≤ R.locals) (hn : As.length = n) (hls : ls.size = nL) (hW : (rest.map fun v => v.category).sum ≤ 8) (hst : st0 = As.reverse ++ .ref b :: rest)
    (kk : ∀ (r : Option Nat) (κ' : CS) (H1 : Heap) (locs1 : List Loc) (cells1 slots1 : Nat), post r κ' → CT R D t A s.heap κ' H1 locs1 cells1 slots1 → W p l e R s m args below meth c H1 locs1 cells1 slots1 Q (F0 m (pc + 3) ls (va_rf r :: rest))) : W p l e R s m args below meth c H locs cells slots Q (F0 m pc ls st0) := by
  obtain ⟨⟨w1, w2, w3, w4, w5⟩, hd⟩ := hm
  obtain ⟨q, hq⟩ := h_in (ph := phI) (t := t) hb.1
  rw [ent_obj (c := ci) (by rw [hb.2]; rfl) hci] at hq
  refine callB_q (runB_V hF.1 (hM H.size) (cwV n hF.1.2.2.2.2 (gwV w1 w2 w3 w4 w5) rfl rfl rfl hd hRm) ⟨CPc_blind, va_recv hF.2.1 hH.1.1 hC.1 hq, CPc_at hF hH hA hE⟩ rfl hn hls hst (lv_room hW) hdg ⟨hH.2.1, hH.2.2⟩) hH.1.2.2.1 (fun q _ h => c_ain hH hA q h) (c_ain hH hA) (fun mc ms x u t1 H1 locs1 ht _ hw hB _ _ hS1 => ?_)
  obtain ⟨h2, h3, h4⟩ := hw
  obtain ⟨b1, b2⟩ := hB
  rw [ht] at b1
  obtain ⟨g1, g2⟩ := hH.2
  exact kk x u H1 locs1 _ _ h2 ⟨⟨b1, b2.weaken (fun k q _ h => c_ain hH hA q.1 h), hS1, okT⟩, by omega, by omega⟩
theorem cw_cSq {post : Option Nat → CS → Prop} (hF : FX p m c cc nL s args own D t) (hH : CT R D t A s.heap κ H locs cells slots) (hA : ∀ q, s.heap.size ≤ q → A q) (hE : EZ G A s s.heap) (hm : MS own index y bytes maxL ret n) (hM : ∀ sz, CMq l D t y bytes maxL ret fr lo G κ sz As post) (hdg : decode cc pc = .ok (.invokestatic index, 3)) (hRm : fr + 1 ≤ R.frames ∧ 8 + (maxL + 11) + lo ≤ R.locals) (hn : As.length = n) (hls : ls.size = nL) (hW : (rest.map fun v => v.category).sum ≤ 8) (hst : st0 = As.reverse ++ rest)
    (kk : ∀ (r : Option Nat) (κ' : CS) (H1 : Heap) (locs1 : List Loc) (cells1 slots1 : Nat), post r κ' → CT R D t A s.heap κ' H1 locs1 cells1 slots1 → W p l e R s m args below meth c H1 locs1 cells1 slots1 Q (F0 m (pc + 3) ls (va_rf r :: rest))) : W p l e R s m args below meth c H locs cells slots Q (F0 m pc ls st0) := by
  obtain ⟨⟨w1, w2, w4, w5⟩, hd⟩ := hm
  refine callB_q (runB_S hF.1 (hM H.size) (va_cwS n hF.1.2.2.2.2 (gwS w1 w2 w4 w5) rfl rfl rfl hd hRm) ⟨CPc_blind, CPc_at hF hH hA hE⟩ rfl hn hls hst (lv_room hW) hdg ⟨hH.2.1, hH.2.2⟩) hH.1.2.2.1 (fun q _ h => c_ain hH hA q h) (c_ain hH hA) (fun mc ms x u t1 H1 locs1 ht _ hw hB _ _ hS1 => ?_)
  obtain ⟨h2, h3, h4⟩ := hw
  obtain ⟨b1, b2⟩ := hB
  rw [ht] at b1
  obtain ⟨g1, g2⟩ := hH.2
  exact kk x u H1 locs1 _ _ h2 ⟨⟨b1, b2.weaken (fun k q _ h => c_ain hH hA q.1 h), hS1, okT⟩, by omega, by omega⟩
theorem cw_cSqN {post : Option Nat → CS → Prop} (hF : FX p m c cc nL s args own D t) (hH : CT R D t A s.heap κ H locs cells slots) (hA : ∀ q, s.heap.size ≤ q → A q) (hE : EZ G A s s.heap) (hm : MSN own index y bytes maxL ret n host) (hM : ∀ sz, CMq l D t y bytes maxL ret fr lo G κ sz As post) (hdg : decode cc pc = .ok (.invokestatic index, 3)) (hRm : fr + 1 ≤ R.frames ∧ 8 + (maxL + 11) + lo ≤ R.locals) (hn : As.length = n) (hls : ls.size = nL) (hW : (rest.map fun v => v.category).sum ≤ 8) (hst : st0 = As.reverse ++ rest)
    (kk : ∀ (r : Option Nat) (κ' : CS) (H1 : Heap) (locs1 : List Loc) (cells1 slots1 : Nat), post r κ' → CT R D t A s.heap κ' H1 locs1 cells1 slots1 → W p l e R s m args below meth c H1 locs1 cells1 slots1 Q (F0 m (pc + 3) ls (va_rf r :: rest))) : W p l e R s m args below meth c H locs cells slots Q (F0 m pc ls st0) := by
  obtain ⟨⟨w1, w2, w4, w5⟩, hd⟩ := hm
  refine callB_q (runB_SN hF.1 (hM H.size) (⟨va_cnB n hF.1.2.2.2.2 (gcode w5) rfl rfl rfl (hF.2.2.1 _ w1) (hF.1.2.2.2.2 _ w4) hd hRm, hF.1.2.2.2.2 _ w2, trivial⟩) ⟨CPc_blind, CPc_at hF hH hA hE⟩ rfl hn hls hst (lv_room hW) hdg ⟨hH.2.1, hH.2.2⟩) hH.1.2.2.1 (fun q _ h => c_ain hH hA q h) (c_ain hH hA) (fun mc ms x u t1 H1 locs1 ht _ hw hB _ _ hS1 => ?_)
  obtain ⟨h2, h3, h4⟩ := hw
  obtain ⟨b1, b2⟩ := hB
  rw [ht] at b1
  obtain ⟨g1, g2⟩ := hH.2
  exact kk x u H1 locs1 _ _ h2 ⟨⟨b1, b2.weaken (fun k q _ h => c_ain hH hA q.1 h), hS1, okT⟩, by omega, by omega⟩
theorem cw_cVv {post : CS → Prop} {b : Nat} (hF : FX p m c cc nL s args own D t) (hH : CT R D t A s.heap κ H locs cells slots) (hA : ∀ q, s.heap.size ≤ q → A q) (hE : EZ G A s s.heap) (hm : MV own index C y bytes maxL none n) (hC : CI ci C T N ty) (hci : ci < 20) (hM : ∀ sz, CMv l D t y bytes maxL fr lo G κ sz (.ref b :: As) post) (hdg : decode cc pc = .ok (.invokevirtual index, 3)) (hb : b ∈ sL κ.1 ∧ sK κ.1 b = ci) (hRm : fr + 1 ≤ R.frames ∧ 8 + (maxL + 11) + lo ≤ R.locals) (hn : As.length = n) (hls : ls.size = nL) (hW : (rest.map fun v => v.category).sum ≤ 8) (hst : st0 = As.reverse ++ .ref b :: rest)
    (kk : ∀ (κ' : CS) (H1 : Heap) (locs1 : List Loc) (cells1 slots1 : Nat), post κ' → CT R D t A s.heap κ' H1 locs1 cells1 slots1 → W p l e R s m args below meth c H1 locs1 cells1 slots1 Q (F0 m (pc + 3) ls (rest))) : W p l e R s m args below meth c H locs cells slots Q (F0 m pc ls st0) := by
  obtain ⟨⟨w1, w2, w3, w4, w5⟩, hd⟩ := hm
  obtain ⟨q, hq⟩ := h_in (ph := phI) (t := t) hb.1
  rw [ent_obj (c := ci) (by rw [hb.2]; rfl) hci] at hq
  refine callB_v (runB_V hF.1 (hM H.size) (cwV n hF.1.2.2.2.2 (gwV w1 w2 w3 w4 w5) rfl rfl rfl hd hRm) ⟨CPc_blind, va_recv hF.2.1 hH.1.1 hC.1 hq, CPc_at hF hH hA hE⟩ rfl hn hls hst (lv_room hW) hdg ⟨hH.2.1, hH.2.2⟩) hH.1.2.2.1 (fun q _ h => c_ain hH hA q h) (c_ain hH hA) (fun mc ms u t1 H1 locs1 ht _ hw hB _ _ hS1 => ?_)
  obtain ⟨h2, h3, h4⟩ := hw
  obtain ⟨b1, b2⟩ := hB
  rw [ht] at b1
  obtain ⟨g1, g2⟩ := hH.2
  exact kk u H1 locs1 _ _ h2 ⟨⟨b1, b2.weaken (fun k q _ h => c_ain hH hA q.1 h), hS1, okT⟩, by omega, by omega⟩
theorem cw_cSv {post : CS → Prop} (hF : FX p m c cc nL s args own D t) (hH : CT R D t A s.heap κ H locs cells slots) (hA : ∀ q, s.heap.size ≤ q → A q) (hE : EZ G A s s.heap) (hm : MS own index y bytes maxL none n) (hM : ∀ sz, CMv l D t y bytes maxL fr lo G κ sz As post) (hdg : decode cc pc = .ok (.invokestatic index, 3)) (hRm : fr + 1 ≤ R.frames ∧ 8 + (maxL + 11) + lo ≤ R.locals) (hn : As.length = n) (hls : ls.size = nL) (hW : (rest.map fun v => v.category).sum ≤ 8) (hst : st0 = As.reverse ++ rest)
    (kk : ∀ (κ' : CS) (H1 : Heap) (locs1 : List Loc) (cells1 slots1 : Nat), post κ' → CT R D t A s.heap κ' H1 locs1 cells1 slots1 → W p l e R s m args below meth c H1 locs1 cells1 slots1 Q (F0 m (pc + 3) ls (rest))) : W p l e R s m args below meth c H locs cells slots Q (F0 m pc ls st0) := by
  obtain ⟨⟨w1, w2, w4, w5⟩, hd⟩ := hm
  refine callB_v (runB_S hF.1 (hM H.size) (va_cwS n hF.1.2.2.2.2 (gwS w1 w2 w4 w5) rfl rfl rfl hd hRm) ⟨CPc_blind, CPc_at hF hH hA hE⟩ rfl hn hls hst (lv_room hW) hdg ⟨hH.2.1, hH.2.2⟩) hH.1.2.2.1 (fun q _ h => c_ain hH hA q h) (c_ain hH hA) (fun mc ms u t1 H1 locs1 ht _ hw hB _ _ hS1 => ?_)
  obtain ⟨h2, h3, h4⟩ := hw
  obtain ⟨b1, b2⟩ := hB
  rw [ht] at b1
  obtain ⟨g1, g2⟩ := hH.2
  exact kk u H1 locs1 _ _ h2 ⟨⟨b1, b2.weaken (fun k q _ h => c_ain hH hA q.1 h), hS1, okT⟩, by omega, by omega⟩
theorem cw_cSvN {post : CS → Prop} (hF : FX p m c cc nL s args own D t) (hH : CT R D t A s.heap κ H locs cells slots) (hA : ∀ q, s.heap.size ≤ q → A q) (hE : EZ G A s s.heap) (hm : MSN own index y bytes maxL none n host) (hM : ∀ sz, CMv l D t y bytes maxL fr lo G κ sz As post) (hdg : decode cc pc = .ok (.invokestatic index, 3)) (hRm : fr + 1 ≤ R.frames ∧ 8 + (maxL + 11) + lo ≤ R.locals) (hn : As.length = n) (hls : ls.size = nL) (hW : (rest.map fun v => v.category).sum ≤ 8) (hst : st0 = As.reverse ++ rest)
    (kk : ∀ (κ' : CS) (H1 : Heap) (locs1 : List Loc) (cells1 slots1 : Nat), post κ' → CT R D t A s.heap κ' H1 locs1 cells1 slots1 → W p l e R s m args below meth c H1 locs1 cells1 slots1 Q (F0 m (pc + 3) ls (rest))) : W p l e R s m args below meth c H locs cells slots Q (F0 m pc ls st0) := by
  obtain ⟨⟨w1, w2, w4, w5⟩, hd⟩ := hm
  refine callB_v (runB_SN hF.1 (hM H.size) (⟨va_cnB n hF.1.2.2.2.2 (gcode w5) rfl rfl rfl (hF.2.2.1 _ w1) (hF.1.2.2.2.2 _ w4) hd hRm, hF.1.2.2.2.2 _ w2, trivial⟩) ⟨CPc_blind, CPc_at hF hH hA hE⟩ rfl hn hls hst (lv_room hW) hdg ⟨hH.2.1, hH.2.2⟩) hH.1.2.2.1 (fun q _ h => c_ain hH hA q h) (c_ain hH hA) (fun mc ms u t1 H1 locs1 ht _ hw hB _ _ hS1 => ?_)
  obtain ⟨h2, h3, h4⟩ := hw
  obtain ⟨b1, b2⟩ := hB
  rw [ht] at b1
  obtain ⟨g1, g2⟩ := hH.2
  exact kk u H1 locs1 _ _ h2 ⟨⟨b1, b2.weaken (fun k q _ h => c_ain hH hA q.1 h), hS1, okT⟩, by omega, by omega⟩
theorem cw_cI {post : CS → Prop} {b : Nat} (hF : FX p m c cc nL s args own D t) (hH : CT R D t A s.heap κ H locs cells slots) (hA : ∀ q, s.heap.size ≤ q → A q) (hE : EZ G A s s.heap) (hm : MI own index y bytes maxL n) (hM : ∀ sz, CMv l D t y bytes maxL fr lo G κ sz (.ref b :: As) post) (hdg : decode cc pc = .ok (.invokespecial index, 3)) (hRm : fr + 1 ≤ R.frames ∧ 8 + (maxL + 11) + lo ≤ R.locals) (hn : As.length = n) (hls : ls.size = nL) (hW : (rest.map fun v => v.category).sum ≤ 8) (hst : st0 = As.reverse ++ .ref b :: rest)
    (kk : ∀ (κ' : CS) (H1 : Heap) (locs1 : List Loc) (cells1 slots1 : Nat), post κ' → CT R D t A s.heap κ' H1 locs1 cells1 slots1 → W p l e R s m args below meth c H1 locs1 cells1 slots1 Q (F0 m (pc + 3) ls (rest))) : W p l e R s m args below meth c H locs cells slots Q (F0 m pc ls st0) := by
  obtain ⟨⟨w1, w2, w4, w5⟩, hy1, hd⟩ := hm
  refine callB_v (runB_I hF.1 (hM H.size) (cwI n hF.1.2.2.2.2 (gcode w5) rfl rfl rfl (hF.1.2.2.2.2 _ w4) (hF.1.2.2.2.2 _ w1) (hF.1.2.2.2.2 _ w2) hy1 hd hRm) ⟨CPc_blind, CPc_at hF hH hA hE⟩ rfl hn hls hst (lv_room hW) hdg ⟨hH.2.1, hH.2.2⟩) hH.1.2.2.1 (fun q _ h => c_ain hH hA q h) (c_ain hH hA) (fun mc ms u t1 H1 locs1 ht _ hw hB _ _ hS1 => ?_)
  obtain ⟨h2, h3, h4⟩ := hw
  obtain ⟨b1, b2⟩ := hB
  rw [ht] at b1
  obtain ⟨g1, g2⟩ := hH.2
  exact kk u H1 locs1 _ _ h2 ⟨⟨b1, b2.weaken (fun k q _ h => c_ain hH hA q.1 h), hS1, okT⟩, by omega, by omega⟩
theorem cw_cIN {post : CS → Prop} {b : Nat} (hF : FX p m c cc nL s args own D t) (hH : CT R D t A s.heap κ H locs cells slots) (hA : ∀ q, s.heap.size ≤ q → A q) (hE : EZ G A s s.heap) (hm : MIN own index y bytes maxL n host) (hM : ∀ sz, CMv l D t y bytes maxL fr lo G κ sz (.ref b :: As) post) (hdg : decode cc pc = .ok (.invokespecial index, 3)) (hRm : fr + 1 ≤ R.frames ∧ 8 + (maxL + 11) + lo ≤ R.locals) (hn : As.length = n) (hls : ls.size = nL) (hW : (rest.map fun v => v.category).sum ≤ 8) (hst : st0 = As.reverse ++ .ref b :: rest)
    (kk : ∀ (κ' : CS) (H1 : Heap) (locs1 : List Loc) (cells1 slots1 : Nat), post κ' → CT R D t A s.heap κ' H1 locs1 cells1 slots1 → W p l e R s m args below meth c H1 locs1 cells1 slots1 Q (F0 m (pc + 3) ls (rest))) : W p l e R s m args below meth c H locs cells slots Q (F0 m pc ls st0) := by
  obtain ⟨⟨w1, w2, w4, w5⟩, hy1, hd⟩ := hm
  refine callB_v (runB_IN hF.1 (hM H.size) (⟨va_cnB n hF.1.2.2.2.2 (gcode w5) rfl rfl rfl (hF.2.2.1 _ w1) (hF.1.2.2.2.2 _ w4) hd hRm, hy1, hF.1.2.2.2.2 _ w2⟩) ⟨CPc_blind, CPc_at hF hH hA hE⟩ rfl hn hls hst (lv_room hW) hdg ⟨hH.2.1, hH.2.2⟩) hH.1.2.2.1 (fun q _ h => c_ain hH hA q h) (c_ain hH hA) (fun mc ms u t1 H1 locs1 ht _ hw hB _ _ hS1 => ?_)
  obtain ⟨h2, h3, h4⟩ := hw
  obtain ⟨b1, b2⟩ := hB
  rw [ht] at b1
  obtain ⟨g1, g2⟩ := hH.2
  exact kk u H1 locs1 _ _ h2 ⟨⟨b1, b2.weaken (fun k q _ h => c_ain hH hA q.1 h), hS1, okT⟩, by omega, by omega⟩
end R41

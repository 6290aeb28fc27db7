/-! arrays of the typed heap; lengths; calls -/
theorem u2_row {α : Type} {f : Nat → Nat → α} {a k : Nat} {v : α} : u2 f a k v a = fun i => if i = k then v else f a i := by
  funext i
  unfold u2
  rw [if_pos rfl]
theorem u2_upd {f : Nat → Nat → Int32} {a k : Nat} {v : Int32} : u2 f a k v a = upd (f a) k v := u2_row
theorem u2_updL {f : Nat → Nat → Int64} {a k : Nat} {v : Int64} : u2 f a k v a = vp_updL (f a) k v := u2_row
theorem u2_up {f : Nat → Nat → Option Nat} {a k : Nat} {v : Option Nat} : u2 f a k v a = va_up (f a) k v := u2_row
section R12
variable {p : Program} {l : Launch} {e : Env} {R : Room} {s : State} {m : MethodId} {args : Array Value} {below : List Frame} {meth : Method} {c : Code} {H : Heap} {locs : List Loc} {cells slots : Nat} {Q : State → Prop} {cc : ByteArray} {pc : Nat} {ls : Array Slot} {rest : List Value} {D : va_G} {t : Nat → ClassId} {A : Nat → Prop} {H0 : Heap} {own : String} {nL : Nat} {ph : Nat → Nat} {τ : TS} {σ : HS} {a r : Nat} {i : Int32}
theorem vp_lt {n : Nat} (h : vp_in i n) : i.toNatClampNeg < n := Nat.not_le.mp fun q => h (Or.inr q)
theorem h_iald (hF : FX p m c cc nL s args own D t) (hH : HT ph τ D t A H0 σ H locs) (hdg : decode cc pc = .ok (.iaload, 1)) (ha : a ∈ sL σ) (hr : sK σ a = r) (hp : ph r = 21) (hin : vp_in i (sN σ a))
    (kk : ∀ z : Int32, z = sI σ a i.toNatClampNeg → iv τ r 0 z → W p l e R s m args below meth c H locs cells slots Q (F0 m (pc + 1) ls (.int z :: rest))) : W p l e R s m args below meth c H locs cells slots Q (F0 m pc ls (.int i :: .ref a :: rest)) := by
  obtain ⟨q, hq⟩ := h_in (ph := ph) (t := t) ha
  rw [ent_arr (c := 21) (by rw [hr]; exact hp) (by decide)] at hq
  exact r_iald hF hdg hH.1 hq hin rfl (kk _ rfl (hH.2.2.2.elt ha hr hp (by decide) (vp_lt hin) (by unfold ek; rw [hp]; rfl)))
theorem h_bald (hF : FX p m c cc nL s args own D t) (hH : HT ph τ D t A H0 σ H locs) (hdg : decode cc pc = .ok (.baload, 1)) (ha : a ∈ sL σ) (hr : sK σ a = r) (hp : ph r = 20) (hin : vp_in i (sN σ a))
    (kk : ∀ z : Int32, z = sI σ a i.toNatClampNeg → iv τ r 0 z → W p l e R s m args below meth c H locs cells slots Q (F0 m (pc + 1) ls (.int z :: rest))) : W p l e R s m args below meth c H locs cells slots Q (F0 m pc ls (.int i :: .ref a :: rest)) := by
  obtain ⟨q, hq⟩ := h_in (ph := ph) (t := t) ha
  rw [ent_arr (c := 20) (by rw [hr]; exact hp) (by decide)] at hq
  exact r_bald hF hdg hH.1 hq hin rfl (kk _ rfl (hH.2.2.2.elt ha hr hp (by decide) (vp_lt hin) (by unfold ek; rw [hp]; rfl)))
theorem h_zald (hF : FX p m c cc nL s args own D t) (hH : HT ph τ D t A H0 σ H locs) (hdg : decode cc pc = .ok (.baload, 1)) (ha : a ∈ sL σ) (hr : sK σ a = r) (hp : ph r = 23) (hin : vp_in i (sN σ a))
    (kk : ∀ z : Int32, z = sI σ a i.toNatClampNeg → iv τ r 0 z → W p l e R s m args below meth c H locs cells slots Q (F0 m (pc + 1) ls (.int z :: rest))) : W p l e R s m args below meth c H locs cells slots Q (F0 m pc ls (.int i :: .ref a :: rest)) := by
  obtain ⟨q, hq⟩ := h_in (ph := ph) (t := t) ha
  rw [ent_arr (c := 23) (by rw [hr]; exact hp) (by decide)] at hq
  exact r_zald hF hdg hH.1 hq hin rfl (kk _ rfl (hH.2.2.2.elt ha hr hp (by decide) (vp_lt hin) (by unfold ek; rw [hp]; rfl)))
theorem h_lald (hF : FX p m c cc nL s args own D t) (hH : HT ph τ D t A H0 σ H locs) (hdg : decode cc pc = .ok (.laload, 1)) (ha : a ∈ sL σ) (hr : sK σ a = r) (hp : ph r = 22) (hin : vp_in i (sN σ a))
    (kk : ∀ z : Int64, z = sJ σ a i.toNatClampNeg → W p l e R s m args below meth c H locs cells slots Q (F0 m (pc + 1) ls (.long z :: rest))) : W p l e R s m args below meth c H locs cells slots Q (F0 m pc ls (.int i :: .ref a :: rest)) := by
  obtain ⟨q, hq⟩ := h_in (ph := ph) (t := t) ha
  rw [ent_arr (c := 22) (by rw [hr]; exact hp) (by decide)] at hq
  exact r_lald hF hdg hH.1 hq hin rfl (kk _ rfl)
theorem h_iast {x : Int32} (hF : FX p m c cc nL s args own D t) (hH : HT ph τ D t A H0 σ H locs) (hdg : decode cc pc = .ok (.iastore, 1)) (ha : a ∈ sL σ) (hr : sK σ a = r) (hp : ph r = 21) (hin : vp_in i (sN σ a)) (hv : iv τ r 0 x)
    (kk : ∀ (H1 : Heap) (locs1 : List Loc), HT ph τ D t A H0 (h_uI σ a i.toNatClampNeg x) H1 locs1 → W p l e R s m args below meth c H1 locs1 cells slots Q (F0 m (pc + 1) ls rest)) : W p l e R s m args below meth c H locs cells slots Q (F0 m pc ls (.int x :: .int i :: .ref a :: rest)) := by
  obtain ⟨q, hq⟩ := h_in (ph := ph) (t := t) ha
  have hq2 := hq
  rw [ent_arr (c := 21) (by rw [hr]; exact hp) (by decide)] at hq
  have hO : OK ph τ (h_uI σ a i.toNatClampNeg x) := hH.2.2.2.uI (fun _ => by rw [hr, ix_arr hp (by decide)]; exact hv)
  refine r_iast hF hdg hH.1 hH.2.1 hH.2.2.1 hq hin (fun H1 l1 h1 h2 h3 => kk H1 l1 (h_upd (h_set hH.2.1 ha hq2 rfl ?_ (fun x hx => ent_uI hx)) hO h1 h2 h3))
  rw [ent_arr (σ := h_uI σ a i.toNatClampNeg x) (c := 21) (by show ph (sK σ a) = 21; rw [hr]; exact hp) (by decide), show sI (h_uI σ a i.toNatClampNeg x) a = upd (sI σ a) i.toNatClampNeg x from u2_upd]
  rfl
theorem h_bast {x : Int32} (hF : FX p m c cc nL s args own D t) (hH : HT ph τ D t A H0 σ H locs) (hdg : decode cc pc = .ok (.bastore, 1)) (ha : a ∈ sL σ) (hr : sK σ a = r) (hp : ph r = 20) (hin : vp_in i (sN σ a)) (hv : iv τ r 0 (vp_nar .byte x))
    (kk : ∀ (H1 : Heap) (locs1 : List Loc), HT ph τ D t A H0 (h_uI σ a i.toNatClampNeg (vp_nar .byte x)) H1 locs1 → W p l e R s m args below meth c H1 locs1 cells slots Q (F0 m (pc + 1) ls rest)) : W p l e R s m args below meth c H locs cells slots Q (F0 m pc ls (.int x :: .int i :: .ref a :: rest)) := by
  obtain ⟨q, hq⟩ := h_in (ph := ph) (t := t) ha
  have hq2 := hq
  rw [ent_arr (c := 20) (by rw [hr]; exact hp) (by decide)] at hq
  have hO : OK ph τ (h_uI σ a i.toNatClampNeg (vp_nar .byte x)) := hH.2.2.2.uI (fun _ => by rw [hr, ix_arr hp (by decide)]; exact hv)
  refine r_bast hF hdg hH.1 hH.2.1 hH.2.2.1 hq hin (fun H1 l1 h1 h2 h3 => kk H1 l1 (h_upd (h_set hH.2.1 ha hq2 rfl ?_ (fun x hx => ent_uI hx)) hO h1 h2 h3))
  rw [ent_arr (σ := h_uI σ a i.toNatClampNeg (vp_nar .byte x)) (c := 20) (by show ph (sK σ a) = 20; rw [hr]; exact hp) (by decide), show sI (h_uI σ a i.toNatClampNeg (vp_nar .byte x)) a = upd (sI σ a) i.toNatClampNeg (vp_nar .byte x) from u2_upd]
  rfl
theorem h_zast {x : Int32} (hF : FX p m c cc nL s args own D t) (hH : HT ph τ D t A H0 σ H locs) (hdg : decode cc pc = .ok (.bastore, 1)) (ha : a ∈ sL σ) (hr : sK σ a = r) (hp : ph r = 23) (hin : vp_in i (sN σ a)) (hv : iv τ r 0 (vp_nar .boolean x))
    (kk : ∀ (H1 : Heap) (locs1 : List Loc), HT ph τ D t A H0 (h_uI σ a i.toNatClampNeg (vp_nar .boolean x)) H1 locs1 → W p l e R s m args below meth c H1 locs1 cells slots Q (F0 m (pc + 1) ls rest)) : W p l e R s m args below meth c H locs cells slots Q (F0 m pc ls (.int x :: .int i :: .ref a :: rest)) := by
  obtain ⟨q, hq⟩ := h_in (ph := ph) (t := t) ha
  have hq2 := hq
  rw [ent_arr (c := 23) (by rw [hr]; exact hp) (by decide)] at hq
  have hO : OK ph τ (h_uI σ a i.toNatClampNeg (vp_nar .boolean x)) := hH.2.2.2.uI (fun _ => by rw [hr, ix_arr hp (by decide)]; exact hv)
  refine r_zast hF hdg hH.1 hH.2.1 hH.2.2.1 hq hin (fun H1 l1 h1 h2 h3 => kk H1 l1 (h_upd (h_set hH.2.1 ha hq2 rfl ?_ (fun x hx => ent_uI hx)) hO h1 h2 h3))
  rw [ent_arr (σ := h_uI σ a i.toNatClampNeg (vp_nar .boolean x)) (c := 23) (by show ph (sK σ a) = 23; rw [hr]; exact hp) (by decide), show sI (h_uI σ a i.toNatClampNeg (vp_nar .boolean x)) a = upd (sI σ a) i.toNatClampNeg (vp_nar .boolean x) from u2_upd]
  rfl
theorem h_last {x : Int64} (hF : FX p m c cc nL s args own D t) (hH : HT ph τ D t A H0 σ H locs) (hdg : decode cc pc = .ok (.lastore, 1)) (ha : a ∈ sL σ) (hr : sK σ a = r) (hp : ph r = 22) (hin : vp_in i (sN σ a))
    (kk : ∀ (H1 : Heap) (locs1 : List Loc), HT ph τ D t A H0 (h_uJ σ a i.toNatClampNeg x) H1 locs1 → W p l e R s m args below meth c H1 locs1 cells slots Q (F0 m (pc + 1) ls rest)) : W p l e R s m args below meth c H locs cells slots Q (F0 m pc ls (.long x :: .int i :: .ref a :: rest)) := by
  obtain ⟨q, hq⟩ := h_in (ph := ph) (t := t) ha
  have hq2 := hq
  rw [ent_arr (c := 22) (by rw [hr]; exact hp) (by decide)] at hq
  have hO : OK ph τ (h_uJ σ a i.toNatClampNeg x) := hH.2.2.2.uJ
  refine r_last hF hdg hH.1 hH.2.1 hH.2.2.1 hq hin (fun H1 l1 h1 h2 h3 => kk H1 l1 (h_upd (h_set hH.2.1 ha hq2 rfl ?_ (fun x hx => ent_uJ hx)) hO h1 h2 h3))
  rw [ent_arr (σ := h_uJ σ a i.toNatClampNeg x) (c := 22) (by show ph (sK σ a) = 22; rw [hr]; exact hp) (by decide), show sJ (h_uJ σ a i.toNatClampNeg x) a = vp_updL (sJ σ a) i.toNatClampNeg x from u2_updL]
  rfl
theorem h_alen {cd : Nat} (hF : FX p m c cc nL s args own D t) (hH : HT ph τ D t A H0 σ H locs) (hdg : decode cc pc = .ok (.arraylength, 1)) (ha : a ∈ sL σ) (hr : sK σ a = r) (hp : ph r = cd) (h1 : 20 ≤ cd) (h2 : cd < 28) (kk : W p l e R s m args below meth c H locs cells slots Q (F0 m (pc + 1) ls (.int (nI (sN σ a)) :: rest))) : W p l e R s m args below meth c H locs cells slots Q (F0 m pc ls (.ref a :: rest)) := by
  obtain ⟨q, hq⟩ := h_in (ph := ph) (t := t) ha
  rw [ent_arr (c := cd) (by rw [hr]; exact hp) (by omega)] at hq
  rcases (show cd = 20 ∨ cd = 21 ∨ cd = 22 ∨ cd = 23 ∨ cd = 24 ∨ cd = 25 ∨ cd = 26 ∨ cd = 27 by omega) with z | z | z | z | z | z | z | z <;> subst z
  · exact r_alen (t0 := 0) hF hdg hH.1 hq rfl rfl kk
  · exact r_alen (t0 := 1) hF hdg hH.1 hq rfl rfl kk
  · exact r_alen (t0 := 2) hF hdg hH.1 hq rfl rfl kk
  · exact r_alen (t0 := 3) hF hdg hH.1 hq rfl rfl kk
  · exact r_alen (t0 := 4) hF hdg hH.1 hq rfl rfl kk
  · exact r_alen (t0 := 5) hF hdg hH.1 hq rfl rfl kk
  · exact r_alen (t0 := 6) hF hdg hH.1 hq rfl rfl kk
  · exact r_alen (t0 := 7) hF hdg hH.1 hq rfl rfl kk
end R12
/-! contracts over the typed heap: they give a later heap and an answer -/
abbrev hB (ph : Nat → Nat) (D : va_G) (t : Nat → ClassId) (σ : HS) (sz : Nat) : HS → State → Prop := fun σ' u => va_P D cl1 (hWd ph t σ') u.heap ∧ va_D (va_A (hWd ph t σ) sz) (hWd ph t σ')
abbrev HMv (ph : Nat → Nat) (τ : TS) (l : Launch) (D : va_G) (t : Nat → ClassId) (y : MethodName) (bytes : ByteArray) (maxL : Nat) (rm : Room) (σ : HS) (sz : Nat) (av : List Value) (mc ms : Nat) (post : HS → Prop) : Prop := Met l y (Cond.code y bytes maxL none :: big) rm (PC D t (hWd ph t σ) sz av) (va_Qv (fun σ' => HLe σ σ' ∧ OK ph τ σ' ∧ post σ') (hB ph D t σ sz) (va_A (hWd ph t σ) sz)) mc ms (va_A (hWd ph t σ) sz)
abbrev HMi (ph : Nat → Nat) (τ : TS) (l : Launch) (D : va_G) (t : Nat → ClassId) (y : MethodName) (bytes : ByteArray) (maxL : Nat) (ret : Option FieldType) (rm : Room) (σ : HS) (sz : Nat) (av : List Value) (mc ms : Nat) (post : Int32 → HS → Prop) : Prop := Met l y (Cond.code y bytes maxL ret :: big) rm (PC D t (hWd ph t σ) sz av) (va_Qi (fun r σ' => HLe σ σ' ∧ OK ph τ σ' ∧ post r σ') (hB ph D t σ sz) (va_A (hWd ph t σ) sz)) mc ms (va_A (hWd ph t σ) sz)
abbrev HMl (ph : Nat → Nat) (τ : TS) (l : Launch) (D : va_G) (t : Nat → ClassId) (y : MethodName) (bytes : ByteArray) (maxL : Nat) (ret : Option FieldType) (rm : Room) (σ : HS) (sz : Nat) (av : List Value) (mc ms : Nat) (post : Int64 → HS → Prop) : Prop := Met l y (Cond.code y bytes maxL ret :: big) rm (PC D t (hWd ph t σ) sz av) (va_Ql (fun r σ' => HLe σ σ' ∧ OK ph τ σ' ∧ post r σ') (hB ph D t σ sz) (va_A (hWd ph t σ) sz)) mc ms (va_A (hWd ph t σ) sz)
section R13
variable {p : Program} {l : Launch} {e : Env} {R : Room} {s : State} {m : MethodId} {args : Array Value} {below : List Frame} {meth : Method} {c : Code} {H : Heap} {locs : List Loc} {cells slots : Nat} {Q : State → Prop} {cc : ByteArray} {pc : Nat} {ls : Array Slot} {rest : List Value} {D : va_G} {t : Nat → ClassId} {A : Nat → Prop} {H0 : Heap} {own : String} {nL : Nat} {ph : Nat → Nat} {τ : TS} {σ : HS}
variable {C : String} {y : MethodName} {bytes : ByteArray} {maxL n index : Nat} {ret : Option FieldType} {rm : Room} {mc ms : Nat} {As st0 : List Value} {b r ci N : Nat} {T : u_T} {ty : Nat → FieldType}
/-- the walk of a method over the typed heap -/
theorem h_go {sz : Nat} {av : List Value} {Qc : Array Value → State → Outcome → State → Prop} {free : Addr → Prop} (hO : OK ph τ σ) (hy : plainName y.cls = true) (hav : (lg_sl av).length ≤ maxL)
    (body : ∀ (p : Program) (e : Env) (s : State) (m : MethodId) (below : List Frame) (meth : Method) (c : Code) (ls : Array Slot) (A : Nat → Prop), FX p m c cc maxL s av.toArray y.cls D t → meth.sig.returnType = ret → meth.locks = false → (va_A (hWd ph t σ) sz = A) → HT ph τ D t A s.heap σ s.heap [] → (∀ q, s.heap.size ≤ q → A q) → lv_has ls maxL (lv_args 0 av) →
      W p l e rm s m av.toArray below meth c s.heap [] 0 0 (MQ below Qc av.toArray s mc ms free) (F0 m 0 ls [])) : Met l y (Cond.code y cc maxL ret :: big) rm (PC D t (hWd ph t σ) sz av) Qc mc ms free :=
  go hy hav (fun p e s m below meth c ls A hF hr hlk _ _ hAe hP hD hS hA hl => body p e s m below meth c ls A hF hr hlk hAe ⟨hP, hD, hS, hO⟩ hA hl)
theorem h_ain (hH : HT ph τ D t A H0 σ H locs) (hA : ∀ q, H0.size ≤ q → A q) : ∀ q, va_A (hWd ph t σ) H.size q → A q := a_in hH.2.1 hH.2.2.1 hA
theorem h_cVi {post : Int32 → HS → Prop} (hF : FX p m c cc nL s args own D t) (hH : HT ph τ D t A H0 σ H locs) (hA : ∀ q, H0.size ≤ q → A q) (hm : MV own index C y bytes maxL ret n) (hC : CI ci C T N ty) (hM : HMi ph τ l D t y bytes maxL ret rm σ H.size (.ref b :: As) mc ms post) (hdg : decode cc pc = .ok (.invokevirtual index, 3)) (hb : b ∈ sL σ) (hr : sK σ b = r) (hp : ph r = ci) (hci : ci < 20) (hrc : rm.cells = mc) (hrs : rm.slots = ms) (hR : rm.frames + 1 ≤ R.frames ∧ 8 + (maxL + 11) + rm.locals ≤ R.locals) (hn : As.length = n) (hls : ls.size = nL) (hW : (rest.map fun v => v.category).sum ≤ 8) (hf : cells + mc ≤ R.cells ∧ slots + ms ≤ R.slots) (hst : st0 = As.reverse ++ .ref b :: rest)
    (kk : ∀ (r : Int32) (σ' : HS) (H1 : Heap) (locs1 : List Loc), HLe σ σ' → post r σ' → HT ph τ D t A H0 σ' H1 locs1 → W p l e R s m args below meth c H1 locs1 (cells + mc) (slots + ms) Q (F0 m (pc + 3) ls (.int r :: rest))) : W p l e R s m args below meth c H locs cells slots Q (F0 m pc ls st0) := by
  obtain ⟨q, hq⟩ := h_in (ph := ph) (t := t) hb
  rw [ent_obj (by rw [hr]; exact hp) hci] at hq
  refine va_calli (r_runV hF hm hC hM hdg hrc hrs hR hn hls hW hH.1 hH.2.1 hq hf hst) hH.2.2.1 (fun q _ h => h_ain hH hA q h) (h_ain hH hA) (fun x u t1 H1 locs1 ht _ hw hB _ _ hS1 => ?_)
  obtain ⟨h1, h2, h3⟩ := hw
  obtain ⟨b1, b2⟩ := hB
  rw [ht] at b1
  exact kk x u H1 locs1 h1 h3 ⟨b1, b2.weaken (fun k q _ h => h_ain hH hA q.1 h), hS1, h2⟩
theorem h_cSi {post : Int32 → HS → Prop} (hF : FX p m c cc nL s args own D t) (hH : HT ph τ D t A H0 σ H locs) (hA : ∀ q, H0.size ≤ q → A q) (hm : MS own index y bytes maxL ret n) (hM : HMi ph τ l D t y bytes maxL ret rm σ H.size As mc ms post) (hdg : decode cc pc = .ok (.invokestatic index, 3)) (hrc : rm.cells = mc) (hrs : rm.slots = ms) (hR : rm.frames + 1 ≤ R.frames ∧ 8 + (maxL + 11) + rm.locals ≤ R.locals) (hn : As.length = n) (hls : ls.size = nL) (hW : (rest.map fun v => v.category).sum ≤ 8) (hf : cells + mc ≤ R.cells ∧ slots + ms ≤ R.slots) (hst : st0 = As.reverse ++ rest)
    (kk : ∀ (r : Int32) (σ' : HS) (H1 : Heap) (locs1 : List Loc), HLe σ σ' → post r σ' → HT ph τ D t A H0 σ' H1 locs1 → W p l e R s m args below meth c H1 locs1 (cells + mc) (slots + ms) Q (F0 m (pc + 3) ls (.int r :: rest))) : W p l e R s m args below meth c H locs cells slots Q (F0 m pc ls st0) := by
  refine va_calli (r_runS hF hm hM hdg hrc hrs hR hn hls hW hH.1 hH.2.1 hf hst) hH.2.2.1 (fun q _ h => h_ain hH hA q h) (h_ain hH hA) (fun x u t1 H1 locs1 ht _ hw hB _ _ hS1 => ?_)
  obtain ⟨h1, h2, h3⟩ := hw
  obtain ⟨b1, b2⟩ := hB
  rw [ht] at b1
  exact kk x u H1 locs1 h1 h3 ⟨b1, b2.weaken (fun k q _ h => h_ain hH hA q.1 h), hS1, h2⟩
theorem h_cVl {post : Int64 → HS → Prop} (hF : FX p m c cc nL s args own D t) (hH : HT ph τ D t A H0 σ H locs) (hA : ∀ q, H0.size ≤ q → A q) (hm : MV own index C y bytes maxL ret n) (hC : CI ci C T N ty) (hM : HMl ph τ l D t y bytes maxL ret rm σ H.size (.ref b :: As) mc ms post) (hdg : decode cc pc = .ok (.invokevirtual index, 3)) (hb : b ∈ sL σ) (hr : sK σ b = r) (hp : ph r = ci) (hci : ci < 20) (hrc : rm.cells = mc) (hrs : rm.slots = ms) (hR : rm.frames + 1 ≤ R.frames ∧ 8 + (maxL + 11) + rm.locals ≤ R.locals) (hn : As.length = n) (hls : ls.size = nL) (hW : (rest.map fun v => v.category).sum ≤ 8) (hf : cells + mc ≤ R.cells ∧ slots + ms ≤ R.slots) (hst : st0 = As.reverse ++ .ref b :: rest)
    (kk : ∀ (r : Int64) (σ' : HS) (H1 : Heap) (locs1 : List Loc), HLe σ σ' → post r σ' → HT ph τ D t A H0 σ' H1 locs1 → W p l e R s m args below meth c H1 locs1 (cells + mc) (slots + ms) Q (F0 m (pc + 3) ls (.long r :: rest))) : W p l e R s m args below meth c H locs cells slots Q (F0 m pc ls st0) := by
  obtain ⟨q, hq⟩ := h_in (ph := ph) (t := t) hb
  rw [ent_obj (by rw [hr]; exact hp) hci] at hq
  refine va_calll (r_runV hF hm hC hM hdg hrc hrs hR hn hls hW hH.1 hH.2.1 hq hf hst) hH.2.2.1 (fun q _ h => h_ain hH hA q h) (h_ain hH hA) (fun x u t1 H1 locs1 ht _ hw hB _ _ hS1 => ?_)
  obtain ⟨h1, h2, h3⟩ := hw
  obtain ⟨b1, b2⟩ := hB
  rw [ht] at b1
  exact kk x u H1 locs1 h1 h3 ⟨b1, b2.weaken (fun k q _ h => h_ain hH hA q.1 h), hS1, h2⟩
theorem h_cVv {post : HS → Prop} (hF : FX p m c cc nL s args own D t) (hH : HT ph τ D t A H0 σ H locs) (hA : ∀ q, H0.size ≤ q → A q) (hm : MV own index C y bytes maxL none n) (hC : CI ci C T N ty) (hM : HMv ph τ l D t y bytes maxL rm σ H.size (.ref b :: As) mc ms post) (hdg : decode cc pc = .ok (.invokevirtual index, 3)) (hb : b ∈ sL σ) (hr : sK σ b = r) (hp : ph r = ci) (hci : ci < 20) (hrc : rm.cells = mc) (hrs : rm.slots = ms) (hR : rm.frames + 1 ≤ R.frames ∧ 8 + (maxL + 11) + rm.locals ≤ R.locals) (hn : As.length = n) (hls : ls.size = nL) (hW : (rest.map fun v => v.category).sum ≤ 8) (hf : cells + mc ≤ R.cells ∧ slots + ms ≤ R.slots) (hst : st0 = As.reverse ++ .ref b :: rest)
    (kk : ∀ (σ' : HS) (H1 : Heap) (locs1 : List Loc), HLe σ σ' → post σ' → HT ph τ D t A H0 σ' H1 locs1 → W p l e R s m args below meth c H1 locs1 (cells + mc) (slots + ms) Q (F0 m (pc + 3) ls rest)) : W p l e R s m args below meth c H locs cells slots Q (F0 m pc ls st0) := by
  obtain ⟨q, hq⟩ := h_in (ph := ph) (t := t) hb
  rw [ent_obj (by rw [hr]; exact hp) hci] at hq
  refine va_callv (r_runV hF hm hC hM hdg hrc hrs hR hn hls hW hH.1 hH.2.1 hq hf hst) hH.2.2.1 (fun q _ h => h_ain hH hA q h) (h_ain hH hA) (fun u t1 H1 locs1 ht _ hw hB _ _ hS1 => ?_)
  obtain ⟨h1, h2, h3⟩ := hw
  obtain ⟨b1, b2⟩ := hB
  rw [ht] at b1
  exact kk u H1 locs1 h1 h3 ⟨b1, b2.weaken (fun k q _ h => h_ain hH hA q.1 h), hS1, h2⟩
/-- ends -/
theorem h_reti {v : Int32} {ty : FieldType} {σ0 : HS} {post : Int32 → HS → Prop} (hF : FX p m c cc nL s args own D t) (hr : meth.sig.returnType = some ty) (hlk : meth.locks = false) (hn : narrow ty (.int v) = .int v) (hdg : decode cc pc = .ok (.ireturn, 1)) (hH : HT ph τ D t A s.heap σ H locs) (hle : HLe σ0 σ) (hp : post v σ) : W p l e R s m args below meth c H locs cells slots (MQ below (va_Qi (fun r σ' => HLe σ0 σ' ∧ OK ph τ σ' ∧ post r σ') (fun σ' u => va_P D cl1 (hWd ph t σ') u.heap ∧ va_D A (hWd ph t σ')) A) args s cells slots A) (F0 m pc ls [.int v]) :=
  W.zret hF.1.1 hF.1.2.1 hr hn (fun t1 ht _ => ⟨⟨v, σ, rfl, ⟨hle, hH.2.2.2, hp⟩, by rw [ht]; exact hH.1, hH.2.1⟩, hH.2.2.1.F ht⟩) hH.2.2.1.2.2 hdg hlk
theorem h_retl {v : Int64} {σ0 : HS} {post : Int64 → HS → Prop} (hF : FX p m c cc nL s args own D t) (hr : meth.sig.returnType = some .long) (hlk : meth.locks = false) (hdg : decode cc pc = .ok (.lreturn, 1)) (hH : HT ph τ D t A s.heap σ H locs) (hle : HLe σ0 σ) (hp : post v σ) : W p l e R s m args below meth c H locs cells slots (MQ below (va_Ql (fun r σ' => HLe σ0 σ' ∧ OK ph τ σ' ∧ post r σ') (fun σ' u => va_P D cl1 (hWd ph t σ') u.heap ∧ va_D A (hWd ph t σ')) A) args s cells slots A) (F0 m pc ls [.long v]) :=
  W.lret hF.1.1 hF.1.2.1 hr (fun t1 ht _ => ⟨⟨v, σ, rfl, ⟨hle, hH.2.2.2, hp⟩, by rw [ht]; exact hH.1, hH.2.1⟩, hH.2.2.1.F ht⟩) hH.2.2.1.2.2 hdg hlk
theorem h_retv {σ0 : HS} {post : HS → Prop} (hF : FX p m c cc nL s args own D t) (hr : meth.sig.returnType = none) (hlk : meth.locks = false) (hdg : decode cc pc = .ok (.return_, 1)) (hH : HT ph τ D t A s.heap σ H locs) (hle : HLe σ0 σ) (hp : post σ) : W p l e R s m args below meth c H locs cells slots (MQ below (va_Qv (fun σ' => HLe σ0 σ' ∧ OK ph τ σ' ∧ post σ') (fun σ' u => va_P D cl1 (hWd ph t σ') u.heap ∧ va_D A (hWd ph t σ')) A) args s cells slots A) (F0 m pc ls []) :=
  W.vret hF.1.1 hF.1.2.1 hr (fun t1 ht _ => ⟨⟨σ, rfl, ⟨hle, hH.2.2.2, hp⟩, by rw [ht]; exact hH.1, hH.2.1⟩, hH.2.2.1.F ht⟩) hH.2.2.1.2.2 hdg hlk
end R13

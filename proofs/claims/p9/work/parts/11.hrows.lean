/-! rows over the typed heap -/
def HT (ph : Nat → Nat) (τ : TS) (D : va_G) (t : Nat → ClassId) (A : Nat → Prop) (H0 : Heap) (σ : HS) (H : Heap) (locs : List Loc) : Prop := va_P D cl1 (hWd ph t σ) H ∧ va_D A (hWd ph t σ) ∧ va_S A H0 H locs ∧ OK ph τ σ
def FK (own : String) (index ci : Nat) (C : String) (T : u_T) (N : Nat) (ty : Nat → FieldType) (k c : Nat) : Prop := CI ci C T N ty ∧ FL own index T N k ∧ ci < 20 ∧ nfc ci = N ∧ fkc ci k = c
theorem nb_obj {ph : Nat → Nat} {σ : HS} {a r ci : Nat} (hr : sK σ a = r) (hp : ph r = ci) (hc : ci < 20) : nb ph σ a = nfc ci := by
  unfold nb
  rw [hr, hp, if_pos hc]
theorem nb_arr {ph : Nat → Nat} {σ : HS} {a r ci : Nat} (hr : sK σ a = r) (hp : ph r = ci) (hc : ¬ ci < 20) : nb ph σ a = sN σ a := by
  unfold nb
  rw [hr, hp, if_neg hc]
theorem ek_obj {ph : Nat → Nat} {r ci k : Nat} (hp : ph r = ci) (hc : ci < 20) : ek ph r k = fkc ci k ∧ ix ph r k = k := by
  unfold ek ix
  rw [hp, if_pos hc, if_pos hc]
  exact ⟨rfl, rfl⟩
theorem ix_arr {ph : Nat → Nat} {r ci k : Nat} (hp : ph r = ci) (hc : ¬ ci < 20) : ix ph r k = 0 := by
  unfold ix
  rw [hp, if_neg hc]
section R11
variable {p : Program} {l : Launch} {e : Env} {R : Room} {s : State} {m : MethodId} {args : Array Value} {below : List Frame} {meth : Method} {c : Code} {H : Heap} {locs : List Loc} {cells slots : Nat} {Q : State → Prop} {cc : ByteArray} {pc : Nat} {ls : Array Slot} {rest : List Value} {D : va_G} {t : Nat → ClassId} {A : Nat → Prop} {H0 : Heap} {own : String} {nL : Nat} {ph : Nat → Nat} {τ : TS} {σ : HS}
variable {ci : Nat} {C : String} {T : u_T} {N : Nat} {ty : Nat → FieldType} {index k a r : Nat}
theorem OK.int (h : OK ph τ σ) (ha : a ∈ sL σ) (hr : sK σ a = r) (hp : ph r = ci) (hc : ci < 20) (hk : k < nfc ci) (hf : fkc ci k = 0) : iv τ r k (sI σ a k) := by
  have h1 := ((h a ha).2 k (by rw [nb_obj hr hp hc]; exact hk)).1
  rw [hr, (ek_obj hp hc).1, (ek_obj hp hc).2] at h1
  exact h1 hf
theorem OK.ref (h : OK ph τ σ) (ha : a ∈ sL σ) (hr : sK σ a = r) (hp : ph r = ci) (hc : ci < 20) (hk : k < nfc ci) (hf : fkc ci k = 2) : rv τ σ r k (sP σ a k) := by
  have h1 := ((h a ha).2 k (by rw [nb_obj hr hp hc]; exact hk)).2
  rw [hr, (ek_obj hp hc).1, (ek_obj hp hc).2] at h1
  exact h1 hf
theorem OK.elt (h : OK ph τ σ) (ha : a ∈ sL σ) (hr : sK σ a = r) (hp : ph r = ci) (hc : ¬ ci < 20) (hk : k < sN σ a) (hf : ek ph r k = 0) : iv τ r 0 (sI σ a k) := by
  have h1 := ((h a ha).2 k (by rw [nb_arr hr hp hc]; exact hk)).1
  rw [hr, ix_arr hp hc] at h1
  exact h1 hf
theorem OK.eltq (h : OK ph τ σ) (ha : a ∈ sL σ) (hr : sK σ a = r) (hp : ph r = ci) (hc : ¬ ci < 20) (hk : k < sN σ a) (hf : ek ph r k = 2) : rv τ σ r 0 (sP σ a k) := by
  have h1 := ((h a ha).2 k (by rw [nb_arr hr hp hc]; exact hk)).2
  rw [hr, ix_arr hp hc] at h1
  exact h1 hf
theorem OK.len (h : OK ph τ σ) (ha : a ∈ sL σ) (hr : sK σ a = r) (hp : ph r = ci) (hc : ¬ ci < 20) : τ.2.2.2.2 r (sN σ a) := by
  rcases (h a ha).1 with h1 | h1
  · rw [hr, hp] at h1
    exact absurd h1 hc
  · rw [hr] at h1
    exact h1
theorem h_getI (hF : FX p m c cc nL s args own D t) (hH : HT ph τ D t A H0 σ H locs) (hK : FK own index ci C T N ty k 0) (hdg : decode cc pc = .ok (.getfield index, 3)) (ha : a ∈ sL σ) (hr : sK σ a = r) (hp : ph r = ci)
    (kk : ∀ z : Int32, z = sI σ a k → iv τ r k z → W p l e R s m args below meth c H locs cells slots Q (F0 m (pc + 3) ls (.int z :: rest))) : W p l e R s m args below meth c H locs cells slots Q (F0 m pc ls (.ref a :: rest)) := by
  obtain ⟨hC, hL, hc, hN, hf⟩ := hK
  obtain ⟨q, hq⟩ := h_in (ph := ph) (t := t) ha
  rw [ent_obj (by rw [hr]; exact hp) hc] at hq
  have hk : k < nfc ci := by rw [hN]; exact hL.1
  refine r_get hF hC hL hdg hH.1 hq (v := .int (sI σ a k)) ?_ (kk _ rfl (hH.2.2.2.int ha hr hp hc hk hf))
  rw [flds_get hk, hf]
  rfl
theorem h_getJ (hF : FX p m c cc nL s args own D t) (hH : HT ph τ D t A H0 σ H locs) (hK : FK own index ci C T N ty k 1) (hdg : decode cc pc = .ok (.getfield index, 3)) (ha : a ∈ sL σ) (hr : sK σ a = r) (hp : ph r = ci)
    (kk : ∀ z : Int64, z = sJ σ a k → W p l e R s m args below meth c H locs cells slots Q (F0 m (pc + 3) ls (.long z :: rest))) : W p l e R s m args below meth c H locs cells slots Q (F0 m pc ls (.ref a :: rest)) := by
  obtain ⟨hC, hL, hc, hN, hf⟩ := hK
  obtain ⟨q, hq⟩ := h_in (ph := ph) (t := t) ha
  rw [ent_obj (by rw [hr]; exact hp) hc] at hq
  have hk : k < nfc ci := by rw [hN]; exact hL.1
  refine r_get hF hC hL hdg hH.1 hq (v := .long (sJ σ a k)) ?_ (kk _ rfl)
  rw [flds_get hk, hf]
  rfl
theorem h_getQ (hF : FX p m c cc nL s args own D t) (hH : HT ph τ D t A H0 σ H locs) (hK : FK own index ci C T N ty k 2) (hdg : decode cc pc = .ok (.getfield index, 3)) (ha : a ∈ sL σ) (hr : sK σ a = r) (hp : ph r = ci)
    (kk : ∀ q : Option Nat, q = sP σ a k → rv τ σ r k q → W p l e R s m args below meth c H locs cells slots Q (F0 m (pc + 3) ls (va_rf q :: rest))) : W p l e R s m args below meth c H locs cells slots Q (F0 m pc ls (.ref a :: rest)) := by
  obtain ⟨hC, hL, hc, hN, hf⟩ := hK
  obtain ⟨q, hq⟩ := h_in (ph := ph) (t := t) ha
  rw [ent_obj (by rw [hr]; exact hp) hc] at hq
  have hk : k < nfc ci := by rw [hN]; exact hL.1
  refine r_get hF hC hL hdg hH.1 hq (v := va_rf (sP σ a k)) ?_ (kk _ rfl (hH.2.2.2.ref ha hr hp hc hk hf))
  rw [flds_get hk, hf]
  rfl
theorem h_getP {r2 : Nat} (hF : FX p m c cc nL s args own D t) (hH : HT ph τ D t A H0 σ H locs) (hK : FK own index ci C T N ty k 2) (hdg : decode cc pc = .ok (.getfield index, 3)) (ha : a ∈ sL σ) (hr : sK σ a = r) (hp : ph r = ci) (hnl : τ.2.2.2.1 r k = false) (htg : τ.2.2.1 r k = r2) (hne : r2 ≠ 999)
    (kk : ∀ b : Nat, sP σ a k = some b → b ∈ sL σ → sK σ b = r2 → W p l e R s m args below meth c H locs cells slots Q (F0 m (pc + 3) ls (.ref b :: rest))) : W p l e R s m args below meth c H locs cells slots Q (F0 m pc ls (.ref a :: rest)) := by
  refine h_getQ hF hH hK hdg ha hr hp (fun q hq hv => ?_)
  rcases hv with h2 | ⟨-, h2⟩ | ⟨b, h1, h2, h3⟩
  · exact absurd (htg.symm.trans h2) hne
  · rw [hnl] at h2
    cases h2
  · subst h1
    exact kk b hq.symm h2 (h3.trans htg)
theorem h_upd {ws' : va_W} {σ' : HS} {H1 : Heap} {locs1 : List Loc} (he : ws' = hWd ph t σ') (hO : OK ph τ σ') (h1 : va_P D cl1 ws' H1) (h2 : va_D A ws') (h3 : va_S A H0 H1 locs1) : HT ph τ D t A H0 σ' H1 locs1 := by
  subst he
  exact ⟨h1, h2, h3, hO⟩
theorem h_putI {v : Int32} (hF : FX p m c cc nL s args own D t) (hH : HT ph τ D t A H0 σ H locs) (hK : FK own index ci C T N ty k 0) (hdg : decode cc pc = .ok (.putfield index, 3)) (ha : a ∈ sL σ) (hr : sK σ a = r) (hp : ph r = ci) (hfin : (T k).2.2.2 = false) (hn : narrow (ty k) (.int v) = .int v) (hfit : fits (ty k) (.int v) = true) (hv : iv τ r k v)
    (kk : ∀ (H1 : Heap) (locs1 : List Loc), HT ph τ D t A H0 (h_uI σ a k v) H1 locs1 → W p l e R s m args below meth c H1 locs1 cells slots Q (F0 m (pc + 3) ls rest)) : W p l e R s m args below meth c H locs cells slots Q (F0 m pc ls (.int v :: .ref a :: rest)) := by
  obtain ⟨hC, hL, hc, hN, hf⟩ := hK
  obtain ⟨q, hq⟩ := h_in (ph := ph) (t := t) ha
  have hq2 := hq
  rw [ent_obj (by rw [hr]; exact hp) hc] at hq
  have hk : k < nfc ci := by rw [hN]; exact hL.1
  have hO : OK ph τ (h_uI σ a k v) := hH.2.2.2.uI (fun _ => by rw [hr, (ek_obj hp hc).2]; exact hv)
  refine r_put hF hC hL hdg hH.1 hH.2.1 hH.2.2.1 hq hfin hn hfit (by rw [flds_len]; exact hk) (fun H1 l1 h1 h2 h3 => kk H1 l1 (h_upd (h_set hH.2.1 ha hq2 rfl ?_ (fun x hx => ent_uI hx)) hO h1 h2 h3))
  rw [ent_obj (σ := h_uI σ a k v) (c := ci) (by show ph (sK σ a) = ci; rw [hr]; exact hp) hc]
  congr 2
  refine (flds_set hk ?_ (fun i hi => ?_)).symm
  · show fv (fkc ci k) (u2 (sI σ) a k v a k) _ _ = _
    rw [hf, u2_same]
    rfl
  · show fv (fkc ci i) (u2 (sI σ) a k v a i) _ _ = _
    rw [u2_pl hi]
    rfl
theorem h_putJ {v : Int64} (hF : FX p m c cc nL s args own D t) (hH : HT ph τ D t A H0 σ H locs) (hK : FK own index ci C T N ty k 1) (hdg : decode cc pc = .ok (.putfield index, 3)) (ha : a ∈ sL σ) (hr : sK σ a = r) (hp : ph r = ci) (hfin : (T k).2.2.2 = false) (hn : narrow (ty k) (.long v) = .long v) (hfit : fits (ty k) (.long v) = true)
    (kk : ∀ (H1 : Heap) (locs1 : List Loc), HT ph τ D t A H0 (h_uJ σ a k v) H1 locs1 → W p l e R s m args below meth c H1 locs1 cells slots Q (F0 m (pc + 3) ls rest)) : W p l e R s m args below meth c H locs cells slots Q (F0 m pc ls (.long v :: .ref a :: rest)) := by
  obtain ⟨hC, hL, hc, hN, hf⟩ := hK
  obtain ⟨q, hq⟩ := h_in (ph := ph) (t := t) ha
  have hq2 := hq
  rw [ent_obj (by rw [hr]; exact hp) hc] at hq
  have hk : k < nfc ci := by rw [hN]; exact hL.1
  have hO : OK ph τ (h_uJ σ a k v) := hH.2.2.2.uJ
  refine r_put hF hC hL hdg hH.1 hH.2.1 hH.2.2.1 hq hfin hn hfit (by rw [flds_len]; exact hk) (fun H1 l1 h1 h2 h3 => kk H1 l1 (h_upd (h_set hH.2.1 ha hq2 rfl ?_ (fun x hx => ent_uJ hx)) hO h1 h2 h3))
  rw [ent_obj (σ := h_uJ σ a k v) (c := ci) (by show ph (sK σ a) = ci; rw [hr]; exact hp) hc]
  congr 2
  refine (flds_set hk ?_ (fun i hi => ?_)).symm
  · show fv (fkc ci k) _ (u2 (sJ σ) a k v a k) _ = _
    rw [hf, u2_same]
    rfl
  · show fv (fkc ci i) _ (u2 (sJ σ) a k v a i) _ = _
    rw [u2_pl hi]
    rfl
theorem h_putP {v : Option Nat} (hF : FX p m c cc nL s args own D t) (hH : HT ph τ D t A H0 σ H locs) (hK : FK own index ci C T N ty k 2) (hdg : decode cc pc = .ok (.putfield index, 3)) (ha : a ∈ sL σ) (hr : sK σ a = r) (hp : ph r = ci) (hfin : (T k).2.2.2 = false) (hn : narrow (ty k) (va_rf v) = va_rf v) (hfit : fits (ty k) (va_rf v) = true) (hv : rv τ σ r k v)
    (kk : ∀ (H1 : Heap) (locs1 : List Loc), HT ph τ D t A H0 (h_uP σ a k v) H1 locs1 → W p l e R s m args below meth c H1 locs1 cells slots Q (F0 m (pc + 3) ls rest)) : W p l e R s m args below meth c H locs cells slots Q (F0 m pc ls (va_rf v :: .ref a :: rest)) := by
  obtain ⟨hC, hL, hc, hN, hf⟩ := hK
  obtain ⟨q, hq⟩ := h_in (ph := ph) (t := t) ha
  have hq2 := hq
  rw [ent_obj (by rw [hr]; exact hp) hc] at hq
  have hk : k < nfc ci := by rw [hN]; exact hL.1
  have hO : OK ph τ (h_uP σ a k v) := hH.2.2.2.uP (fun _ => by rw [hr, (ek_obj hp hc).2]; exact hv)
  refine r_put hF hC hL hdg hH.1 hH.2.1 hH.2.2.1 hq hfin hn hfit (by rw [flds_len]; exact hk) (fun H1 l1 h1 h2 h3 => kk H1 l1 (h_upd (h_set hH.2.1 ha hq2 rfl ?_ (fun x hx => ent_uP hx)) hO h1 h2 h3))
  rw [ent_obj (σ := h_uP σ a k v) (c := ci) (by show ph (sK σ a) = ci; rw [hr]; exact hp) hc]
  congr 2
  refine (flds_set hk ?_ (fun i hi => ?_)).symm
  · show fv (fkc ci k) _ _ (u2 (sP σ) a k v a k) = _
    rw [hf, u2_same]
    rfl
  · show fv (fkc ci i) _ _ (u2 (sP σ) a k v a i) = _
    rw [u2_pl hi]
    rfl
end R11

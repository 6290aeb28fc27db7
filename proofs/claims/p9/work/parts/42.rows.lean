/-! rows of the class over its world -/
/-- a byte array: of the world, or the static one -/
def BA (G : GE) (κ : CS) (q : Option Nat) (f : Nat → Int32) (n : Nat) : Prop := (∃ a, q = some a ∧ (a ∈ sL κ.1 ∧ sK κ.1 a = 20) ∧ f = sI κ.1 a ∧ n = sN κ.1 a) ∨ (q = some G.2.2.2.1 ∧ f = (fun _ => 46) ∧ n = 2) ∨ (q = some G.2.2.2.2.2.2 ∧ f = nmsF ∧ n = 9)
/-- how long an array is -/
def AL (G : GE) (κ : CS) (q : Option Nat) (n : Nat) : Prop := (∃ a, q = some a ∧ (a ∈ sL κ.1 ∧ 20 ≤ sK κ.1 a ∧ sK κ.1 a < 28) ∧ n = sN κ.1 a) ∨ (q = some G.1 ∧ n = 0) ∨ (q = some G.2.2.2.1 ∧ n = 2) ∨ (q = some G.2.2.2.2.2.2 ∧ n = 9)
/-- what may be put into an array of references -/
def stOk (k c : Nat) : Bool := (k == 24 && c == 4) || (k == 25 && c == 3) || (k == 26 && c == 5) || (k == 27 && (c == 8 || c == 9 || c == 10 || c == 11 || c == 12))
def h_cpI (σ : HS) (a0 a1 sp dp n : Nat) : HS := (sL σ, sK σ, sN σ, va_up (sI σ) a1 (va_cpy (sI σ a0) (sI σ a1) sp dp n), sJ σ, sP σ)
def h_cpP (σ : HS) (a0 a1 sp dp n : Nat) : HS := (sL σ, sK σ, sN σ, sI σ, sJ σ, va_up (sP σ) a1 (va_cpy (sP σ a0) (sP σ a1) sp dp n))
section R42
variable {p : Program} {l : Launch} {e : Env} {R : Room} {s : State} {m : MethodId} {args : Array Value} {below : List Frame} {meth : Method} {c : Code} {H : Heap} {locs : List Loc} {cells slots : Nat} {Q : State → Prop} {cc : ByteArray} {pc : Nat} {ls : Array Slot} {rest : List Value} {D : va_G} {t : Nat → ClassId} {A : Nat → Prop} {H0 : Heap} {own : String} {nL : Nat} {κ : CS} {G : GE} {i : Int32} {q : Option Nat} {index k ci N : Nat} {C : String} {T : u_T} {ty : Nat → FieldType}
theorem cw_getIr {P : Int32 → Prop} {a : Nat} (hF : FX p m c cc nL s args own D t) (hH : CT R D t A H0 κ H locs cells slots) (hK : FK own index ci C T N ty k 0) (hdg : decode cc pc = .ok (.getfield index, 3)) (hw : (a ∈ sL κ.1 ∧ sK κ.1 a = ci) ∧ ∀ z : Int32, z = sI κ.1 a k → P z) (kk : ∀ z : Int32, P z → W p l e R s m args below meth c H locs cells slots Q (F0 m (pc + 3) ls (.int z :: rest))) : W p l e R s m args below meth c H locs cells slots Q (F0 m pc ls (.ref a :: rest)) :=
  h_getI hF hH.1 hK hdg hw.1.1 hw.1.2 rfl (fun z hz _ => kk z (hw.2 z hz))
theorem cw_getI {P : Int32 → Prop} (hF : FX p m c cc nL s args own D t) (hH : CT R D t A H0 κ H locs cells slots) (hK : FK own index ci C T N ty k 0) (hdg : decode cc pc = .ok (.getfield index, 3)) (hw : ∃ a : Nat, q = some a ∧ (a ∈ sL κ.1 ∧ sK κ.1 a = ci) ∧ ∀ z : Int32, z = sI κ.1 a k → P z) (kk : ∀ z : Int32, P z → W p l e R s m args below meth c H locs cells slots Q (F0 m (pc + 3) ls (.int z :: rest))) : W p l e R s m args below meth c H locs cells slots Q (F0 m pc ls (va_rf q :: rest)) := by
  obtain ⟨a, rfl, hw⟩ := hw
  exact cw_getIr hF hH hK hdg hw kk
theorem cw_getJr {P : Int64 → Prop} {a : Nat} (hF : FX p m c cc nL s args own D t) (hH : CT R D t A H0 κ H locs cells slots) (hK : FK own index ci C T N ty k 1) (hdg : decode cc pc = .ok (.getfield index, 3)) (hw : (a ∈ sL κ.1 ∧ sK κ.1 a = ci) ∧ ∀ z : Int64, z = sJ κ.1 a k → P z) (kk : ∀ z : Int64, P z → W p l e R s m args below meth c H locs cells slots Q (F0 m (pc + 3) ls (.long z :: rest))) : W p l e R s m args below meth c H locs cells slots Q (F0 m pc ls (.ref a :: rest)) :=
  h_getJ hF hH.1 hK hdg hw.1.1 hw.1.2 rfl (fun z hz => kk z (hw.2 z hz))
theorem cw_getJ {P : Int64 → Prop} (hF : FX p m c cc nL s args own D t) (hH : CT R D t A H0 κ H locs cells slots) (hK : FK own index ci C T N ty k 1) (hdg : decode cc pc = .ok (.getfield index, 3)) (hw : ∃ a : Nat, q = some a ∧ (a ∈ sL κ.1 ∧ sK κ.1 a = ci) ∧ ∀ z : Int64, z = sJ κ.1 a k → P z) (kk : ∀ z : Int64, P z → W p l e R s m args below meth c H locs cells slots Q (F0 m (pc + 3) ls (.long z :: rest))) : W p l e R s m args below meth c H locs cells slots Q (F0 m pc ls (va_rf q :: rest)) := by
  obtain ⟨a, rfl, hw⟩ := hw
  exact cw_getJr hF hH hK hdg hw kk
theorem cw_getPr {P : Option Nat → Prop} {a : Nat} (hF : FX p m c cc nL s args own D t) (hH : CT R D t A H0 κ H locs cells slots) (hK : FK own index ci C T N ty k 2) (hdg : decode cc pc = .ok (.getfield index, 3)) (hw : (a ∈ sL κ.1 ∧ sK κ.1 a = ci) ∧ ∀ z : Option Nat, z = sP κ.1 a k → P z) (kk : ∀ z : Option Nat, P z → W p l e R s m args below meth c H locs cells slots Q (F0 m (pc + 3) ls (va_rf z :: rest))) : W p l e R s m args below meth c H locs cells slots Q (F0 m pc ls (.ref a :: rest)) :=
  h_getQ hF hH.1 hK hdg hw.1.1 hw.1.2 rfl (fun z hz _ => kk z (hw.2 z hz))
theorem cw_getP {P : Option Nat → Prop} (hF : FX p m c cc nL s args own D t) (hH : CT R D t A H0 κ H locs cells slots) (hK : FK own index ci C T N ty k 2) (hdg : decode cc pc = .ok (.getfield index, 3)) (hw : ∃ a : Nat, q = some a ∧ (a ∈ sL κ.1 ∧ sK κ.1 a = ci) ∧ ∀ z : Option Nat, z = sP κ.1 a k → P z) (kk : ∀ z : Option Nat, P z → W p l e R s m args below meth c H locs cells slots Q (F0 m (pc + 3) ls (va_rf z :: rest))) : W p l e R s m args below meth c H locs cells slots Q (F0 m pc ls (va_rf q :: rest)) := by
  obtain ⟨a, rfl, hw⟩ := hw
  exact cw_getPr hF hH hK hdg hw kk
theorem cw_putIr {P : CS → Prop} {v : Int32} {a : Nat} (hF : FX p m c cc nL s args own D t) (hH : CT R D t A H0 κ H locs cells slots) (hK : FK own index ci C T N ty k 0) (hdg : decode cc pc = .ok (.putfield index, 3)) (hfin : (T k).2.2.2 = false) (hn : narrow (ty k) (.int v) = .int v) (hfit : fits (ty k) (.int v) = true) (hw : (a ∈ sL κ.1 ∧ sK κ.1 a = ci) ∧ ∀ κ' : CS, κ' = (h_uI κ.1 a k v, κ.2) → P κ') (kk : ∀ (κ' : CS) (H1 : Heap) (locs1 : List Loc) (cells1 slots1 : Nat), P κ' → CT R D t A H0 κ' H1 locs1 cells1 slots1 → W p l e R s m args below meth c H1 locs1 cells1 slots1 Q (F0 m (pc + 3) ls rest)) : W p l e R s m args below meth c H locs cells slots Q (F0 m pc ls (.int v :: .ref a :: rest)) :=
  h_putI hF hH.1 hK hdg hw.1.1 hw.1.2 rfl hfin hn hfit (i_range v) (fun H1 l1 h => kk _ H1 l1 _ _ (hw.2 _ rfl) ⟨h, hH.2⟩)
theorem cw_putI {P : CS → Prop} {v : Int32} (hF : FX p m c cc nL s args own D t) (hH : CT R D t A H0 κ H locs cells slots) (hK : FK own index ci C T N ty k 0) (hdg : decode cc pc = .ok (.putfield index, 3)) (hfin : (T k).2.2.2 = false) (hn : narrow (ty k) (.int v) = .int v) (hfit : fits (ty k) (.int v) = true) (hw : ∃ a : Nat, q = some a ∧ (a ∈ sL κ.1 ∧ sK κ.1 a = ci) ∧ ∀ κ' : CS, κ' = (h_uI κ.1 a k v, κ.2) → P κ') (kk : ∀ (κ' : CS) (H1 : Heap) (locs1 : List Loc) (cells1 slots1 : Nat), P κ' → CT R D t A H0 κ' H1 locs1 cells1 slots1 → W p l e R s m args below meth c H1 locs1 cells1 slots1 Q (F0 m (pc + 3) ls rest)) : W p l e R s m args below meth c H locs cells slots Q (F0 m pc ls (.int v :: va_rf q :: rest)) := by
  obtain ⟨a, rfl, hw⟩ := hw
  exact cw_putIr hF hH hK hdg hfin hn hfit hw kk
theorem cw_putFI {P : CS → Prop} {v : Int32} {a : Nat} (hF : FX p m c cc nL s args own D t) (hH : CT R D t A H0 κ H locs cells slots) (hK : FK own index ci own T N ty k 0) (hdg : decode cc pc = .ok (.putfield index, 3)) (hin : meth.name = "<init>") (hfin : (T k).2.2.2 = true) (hdc : (T k).1 = own) (hn : narrow (ty k) (.int v) = .int v) (hfit : fits (ty k) (.int v) = true) (hw : (a ∈ sL κ.1 ∧ sK κ.1 a = ci) ∧ ∀ κ' : CS, κ' = (h_uI κ.1 a k v, κ.2) → P κ') (kk : ∀ (κ' : CS) (H1 : Heap) (locs1 : List Loc) (cells1 slots1 : Nat), P κ' → CT R D t A H0 κ' H1 locs1 cells1 slots1 → W p l e R s m args below meth c H1 locs1 cells1 slots1 Q (F0 m (pc + 3) ls rest)) : W p l e R s m args below meth c H locs cells slots Q (F0 m pc ls (.int v :: .ref a :: rest)) := by
  obtain ⟨hC, hL, hc, hN, hf⟩ := hK
  obtain ⟨qi, hq⟩ := h_in (ph := phI) (t := t) hw.1.1
  have hq2 := hq
  rw [ent_obj (c := ci) (by rw [hw.1.2]; rfl) hc] at hq
  have hk : k < nfc ci := by rw [hN]; exact hL.1
  refine r_putF hF hC hL hdg hH.1.1 hH.1.2.1 hH.1.2.2.1 hq hin hfin hdc hn hfit (by rw [flds_len]; exact hk) (fun H1 l1 h1 h2 h3 => kk (h_uI κ.1 a k v, κ.2) H1 l1 _ _ (hw.2 _ rfl) ⟨h_upd (h_set hH.1.2.1 hw.1.1 hq2 rfl ?_ (fun x hx => ent_uI hx)) okT h1 h2 h3, hH.2⟩)
  rw [ent_obj (σ := h_uI κ.1 a k v) (c := ci) (by show phI (sK κ.1 a) = ci; rw [hw.1.2]; rfl) hc]
  congr 2
  refine (flds_set hk ?_ (fun i hi => ?_)).symm
  · show fv (fkc ci k) (u2 (sI κ.1) a k v a k) _ _ = _
    rw [hf, u2_same]
    rfl
  · show fv (fkc ci i) (u2 (sI κ.1) a k v a i) _ _ = _
    rw [u2_pl hi]
    rfl
theorem cw_putJr {P : CS → Prop} {v : Int64} {a : Nat} (hF : FX p m c cc nL s args own D t) (hH : CT R D t A H0 κ H locs cells slots) (hK : FK own index ci C T N ty k 1) (hdg : decode cc pc = .ok (.putfield index, 3)) (hfin : (T k).2.2.2 = false) (hn : narrow (ty k) (.long v) = .long v) (hfit : fits (ty k) (.long v) = true) (hw : (a ∈ sL κ.1 ∧ sK κ.1 a = ci) ∧ ∀ κ' : CS, κ' = (h_uJ κ.1 a k v, κ.2) → P κ') (kk : ∀ (κ' : CS) (H1 : Heap) (locs1 : List Loc) (cells1 slots1 : Nat), P κ' → CT R D t A H0 κ' H1 locs1 cells1 slots1 → W p l e R s m args below meth c H1 locs1 cells1 slots1 Q (F0 m (pc + 3) ls rest)) : W p l e R s m args below meth c H locs cells slots Q (F0 m pc ls (.long v :: .ref a :: rest)) :=
  h_putJ hF hH.1 hK hdg hw.1.1 hw.1.2 rfl hfin hn hfit (fun H1 l1 h => kk _ H1 l1 _ _ (hw.2 _ rfl) ⟨h, hH.2⟩)
theorem cw_putJ {P : CS → Prop} {v : Int64} (hF : FX p m c cc nL s args own D t) (hH : CT R D t A H0 κ H locs cells slots) (hK : FK own index ci C T N ty k 1) (hdg : decode cc pc = .ok (.putfield index, 3)) (hfin : (T k).2.2.2 = false) (hn : narrow (ty k) (.long v) = .long v) (hfit : fits (ty k) (.long v) = true) (hw : ∃ a : Nat, q = some a ∧ (a ∈ sL κ.1 ∧ sK κ.1 a = ci) ∧ ∀ κ' : CS, κ' = (h_uJ κ.1 a k v, κ.2) → P κ') (kk : ∀ (κ' : CS) (H1 : Heap) (locs1 : List Loc) (cells1 slots1 : Nat), P κ' → CT R D t A H0 κ' H1 locs1 cells1 slots1 → W p l e R s m args below meth c H1 locs1 cells1 slots1 Q (F0 m (pc + 3) ls rest)) : W p l e R s m args below meth c H locs cells slots Q (F0 m pc ls (.long v :: va_rf q :: rest)) := by
  obtain ⟨a, rfl, hw⟩ := hw
  exact cw_putJr hF hH hK hdg hfin hn hfit hw kk
theorem cw_putFJ {P : CS → Prop} {v : Int64} {a : Nat} (hF : FX p m c cc nL s args own D t) (hH : CT R D t A H0 κ H locs cells slots) (hK : FK own index ci own T N ty k 1) (hdg : decode cc pc = .ok (.putfield index, 3)) (hin : meth.name = "<init>") (hfin : (T k).2.2.2 = true) (hdc : (T k).1 = own) (hn : narrow (ty k) (.long v) = .long v) (hfit : fits (ty k) (.long v) = true) (hw : (a ∈ sL κ.1 ∧ sK κ.1 a = ci) ∧ ∀ κ' : CS, κ' = (h_uJ κ.1 a k v, κ.2) → P κ') (kk : ∀ (κ' : CS) (H1 : Heap) (locs1 : List Loc) (cells1 slots1 : Nat), P κ' → CT R D t A H0 κ' H1 locs1 cells1 slots1 → W p l e R s m args below meth c H1 locs1 cells1 slots1 Q (F0 m (pc + 3) ls rest)) : W p l e R s m args below meth c H locs cells slots Q (F0 m pc ls (.long v :: .ref a :: rest)) := by
  obtain ⟨hC, hL, hc, hN, hf⟩ := hK
  obtain ⟨qi, hq⟩ := h_in (ph := phI) (t := t) hw.1.1
  have hq2 := hq
  rw [ent_obj (c := ci) (by rw [hw.1.2]; rfl) hc] at hq
  have hk : k < nfc ci := by rw [hN]; exact hL.1
  refine r_putF hF hC hL hdg hH.1.1 hH.1.2.1 hH.1.2.2.1 hq hin hfin hdc hn hfit (by rw [flds_len]; exact hk) (fun H1 l1 h1 h2 h3 => kk (h_uJ κ.1 a k v, κ.2) H1 l1 _ _ (hw.2 _ rfl) ⟨h_upd (h_set hH.1.2.1 hw.1.1 hq2 rfl ?_ (fun x hx => ent_uJ hx)) okT h1 h2 h3, hH.2⟩)
  rw [ent_obj (σ := h_uJ κ.1 a k v) (c := ci) (by show phI (sK κ.1 a) = ci; rw [hw.1.2]; rfl) hc]
  congr 2
  refine (flds_set hk ?_ (fun i hi => ?_)).symm
  · show fv (fkc ci k) _ (u2 (sJ κ.1) a k v a k) _ = _
    rw [hf, u2_same]
    rfl
  · show fv (fkc ci i) _ (u2 (sJ κ.1) a k v a i) _ = _
    rw [u2_pl hi]
    rfl
theorem ktyOf (hK : FK own index ci C T N ty k 2) (hty : ∀ j, tyC ci j = ty j := by intro j; rfl) : kty (ty k) = 2 := by
  have h := hK.2.2.2.2
  unfold fkc at h
  rw [hty] at h
  exact h
theorem cw_putPr {P : CS → Prop} {v : Option Nat} {a : Nat} (hF : FX p m c cc nL s args own D t) (hH : CT R D t A H0 κ H locs cells slots) (hK : FK own index ci C T N ty k 2) (hdg : decode cc pc = .ok (.putfield index, 3)) (hfin : (T k).2.2.2 = false) (hty : kty (ty k) = 2) (hw : (a ∈ sL κ.1 ∧ sK κ.1 a = ci) ∧ ∀ κ' : CS, κ' = (h_uP κ.1 a k v, κ.2) → P κ') (kk : ∀ (κ' : CS) (H1 : Heap) (locs1 : List Loc) (cells1 slots1 : Nat), P κ' → CT R D t A H0 κ' H1 locs1 cells1 slots1 → W p l e R s m args below meth c H1 locs1 cells1 slots1 Q (F0 m (pc + 3) ls rest)) : W p l e R s m args below meth c H locs cells slots Q (F0 m pc ls (va_rf v :: .ref a :: rest)) :=
  h_putP hF hH.1 hK hdg hw.1.1 hw.1.2 rfl hfin (nar_q hty v).1 (nar_q hty v).2 (Or.inl rfl) (fun H1 l1 h => kk _ H1 l1 _ _ (hw.2 _ rfl) ⟨h, hH.2⟩)
theorem cw_putP {P : CS → Prop} {v : Option Nat} (hF : FX p m c cc nL s args own D t) (hH : CT R D t A H0 κ H locs cells slots) (hK : FK own index ci C T N ty k 2) (hdg : decode cc pc = .ok (.putfield index, 3)) (hfin : (T k).2.2.2 = false) (hty : kty (ty k) = 2) (hw : ∃ a : Nat, q = some a ∧ (a ∈ sL κ.1 ∧ sK κ.1 a = ci) ∧ ∀ κ' : CS, κ' = (h_uP κ.1 a k v, κ.2) → P κ') (kk : ∀ (κ' : CS) (H1 : Heap) (locs1 : List Loc) (cells1 slots1 : Nat), P κ' → CT R D t A H0 κ' H1 locs1 cells1 slots1 → W p l e R s m args below meth c H1 locs1 cells1 slots1 Q (F0 m (pc + 3) ls rest)) : W p l e R s m args below meth c H locs cells slots Q (F0 m pc ls (va_rf v :: va_rf q :: rest)) := by
  obtain ⟨a, rfl, hw⟩ := hw
  exact cw_putPr hF hH hK hdg hfin hty hw kk
theorem cw_putFP {P : CS → Prop} {v : Option Nat} {a : Nat} (hF : FX p m c cc nL s args own D t) (hH : CT R D t A H0 κ H locs cells slots) (hK : FK own index ci own T N ty k 2) (hdg : decode cc pc = .ok (.putfield index, 3)) (hin : meth.name = "<init>") (hfin : (T k).2.2.2 = true) (hdc : (T k).1 = own) (hty : kty (ty k) = 2) (hw : (a ∈ sL κ.1 ∧ sK κ.1 a = ci) ∧ ∀ κ' : CS, κ' = (h_uP κ.1 a k v, κ.2) → P κ') (kk : ∀ (κ' : CS) (H1 : Heap) (locs1 : List Loc) (cells1 slots1 : Nat), P κ' → CT R D t A H0 κ' H1 locs1 cells1 slots1 → W p l e R s m args below meth c H1 locs1 cells1 slots1 Q (F0 m (pc + 3) ls rest)) : W p l e R s m args below meth c H locs cells slots Q (F0 m pc ls (va_rf v :: .ref a :: rest)) := by
  obtain ⟨hC, hL, hc, hN, hf⟩ := hK
  obtain ⟨qi, hq⟩ := h_in (ph := phI) (t := t) hw.1.1
  have hq2 := hq
  rw [ent_obj (c := ci) (by rw [hw.1.2]; rfl) hc] at hq
  have hk : k < nfc ci := by rw [hN]; exact hL.1
  refine r_putF hF hC hL hdg hH.1.1 hH.1.2.1 hH.1.2.2.1 hq hin hfin hdc (nar_q hty v).1 (nar_q hty v).2 (by rw [flds_len]; exact hk) (fun H1 l1 h1 h2 h3 => kk (h_uP κ.1 a k v, κ.2) H1 l1 _ _ (hw.2 _ rfl) ⟨h_upd (h_set hH.1.2.1 hw.1.1 hq2 rfl ?_ (fun x hx => ent_uP hx)) okT h1 h2 h3, hH.2⟩)
  rw [ent_obj (σ := h_uP κ.1 a k v) (c := ci) (by show phI (sK κ.1 a) = ci; rw [hw.1.2]; rfl) hc]
  congr 2
  refine (flds_set hk ?_ (fun i hi => ?_)).symm
  · show fv (fkc ci k) _ _ (u2 (sP κ.1) a k v a k) = _
    rw [hf, u2_same]
    rfl
  · show fv (fkc ci i) _ _ (u2 (sP κ.1) a k v a i) = _
    rw [u2_pl hi]
    rfl
theorem cw_putZr {P : CS → Prop} {v : Int32} {a : Nat} (hF : FX p m c cc nL s args own D t) (hH : CT R D t A H0 κ H locs cells slots) (hK : FK own index ci C T N ty k 0) (hdg : decode cc pc = .ok (.putfield index, 3)) (hfin : (T k).2.2.2 = false) (hty : ty k = .boolean) (hw : (0 ≤ v.toInt ∧ v.toInt ≤ 1) ∧ (a ∈ sL κ.1 ∧ sK κ.1 a = ci) ∧ ∀ κ' : CS, κ' = (h_uI κ.1 a k v, κ.2) → P κ') (kk : ∀ (κ' : CS) (H1 : Heap) (locs1 : List Loc) (cells1 slots1 : Nat), P κ' → CT R D t A H0 κ' H1 locs1 cells1 slots1 → W p l e R s m args below meth c H1 locs1 cells1 slots1 Q (F0 m (pc + 3) ls rest)) : W p l e R s m args below meth c H locs cells slots Q (F0 m pc ls (.int v :: .ref a :: rest)) :=
  cw_putIr hF hH hK hdg hfin (by rw [hty]; exact (i_01 hw.1).1) (by rw [hty]; exact (i_01 hw.1).2) hw.2 kk
theorem cw_putZ {P : CS → Prop} {v : Int32} (hF : FX p m c cc nL s args own D t) (hH : CT R D t A H0 κ H locs cells slots) (hK : FK own index ci C T N ty k 0) (hdg : decode cc pc = .ok (.putfield index, 3)) (hfin : (T k).2.2.2 = false) (hty : ty k = .boolean) (hw : (0 ≤ v.toInt ∧ v.toInt ≤ 1) ∧ ∃ a : Nat, q = some a ∧ (a ∈ sL κ.1 ∧ sK κ.1 a = ci) ∧ ∀ κ' : CS, κ' = (h_uI κ.1 a k v, κ.2) → P κ') (kk : ∀ (κ' : CS) (H1 : Heap) (locs1 : List Loc) (cells1 slots1 : Nat), P κ' → CT R D t A H0 κ' H1 locs1 cells1 slots1 → W p l e R s m args below meth c H1 locs1 cells1 slots1 Q (F0 m (pc + 3) ls rest)) : W p l e R s m args below meth c H locs cells slots Q (F0 m pc ls (.int v :: va_rf q :: rest)) :=
  cw_putI hF hH hK hdg hfin (by rw [hty]; exact (i_01 hw.1).1) (by rw [hty]; exact (i_01 hw.1).2) hw.2 kk
theorem cw_putFZ {P : CS → Prop} {v : Int32} {a : Nat} (hF : FX p m c cc nL s args own D t) (hH : CT R D t A H0 κ H locs cells slots) (hK : FK own index ci own T N ty k 0) (hdg : decode cc pc = .ok (.putfield index, 3)) (hin : meth.name = "<init>") (hfin : (T k).2.2.2 = true) (hdc : (T k).1 = own) (hty : ty k = .boolean) (hw : (0 ≤ v.toInt ∧ v.toInt ≤ 1) ∧ (a ∈ sL κ.1 ∧ sK κ.1 a = ci) ∧ ∀ κ' : CS, κ' = (h_uI κ.1 a k v, κ.2) → P κ') (kk : ∀ (κ' : CS) (H1 : Heap) (locs1 : List Loc) (cells1 slots1 : Nat), P κ' → CT R D t A H0 κ' H1 locs1 cells1 slots1 → W p l e R s m args below meth c H1 locs1 cells1 slots1 Q (F0 m (pc + 3) ls rest)) : W p l e R s m args below meth c H locs cells slots Q (F0 m pc ls (.int v :: .ref a :: rest)) :=
  cw_putFI hF hH hK hdg hin hfin hdc (by rw [hty]; exact (i_01 hw.1).1) (by rw [hty]; exact (i_01 hw.1).2) hw.2 kk
theorem cw_iald {P : Int32 → Prop} (hF : FX p m c cc nL s args own D t) (hH : CT R D t A H0 κ H locs cells slots) (hdg : decode cc pc = .ok (.iaload, 1)) (hw : ∃ a : Nat, q = some a ∧ (a ∈ sL κ.1 ∧ sK κ.1 a = 21) ∧ (0 ≤ i.toInt ∧ i.toInt < (sN κ.1 a : Int)) ∧ ∀ z : Int32, z = sI κ.1 a i.toInt.toNat → P z) (kk : ∀ z : Int32, P z → W p l e R s m args below meth c H locs cells slots Q (F0 m (pc + 1) ls (.int z :: rest))) : W p l e R s m args below meth c H locs cells slots Q (F0 m pc ls (.int i :: va_rf q :: rest)) := by
  obtain ⟨a, rfl, h1, h2, h3⟩ := hw
  exact h_iald hF hH.1 hdg h1.1 h1.2 rfl (i_in h2.1 h2.2) (fun z hz _ => kk z (h3 z hz))
theorem cw_lald {P : Int64 → Prop} (hF : FX p m c cc nL s args own D t) (hH : CT R D t A H0 κ H locs cells slots) (hdg : decode cc pc = .ok (.laload, 1)) (hw : ∃ a : Nat, q = some a ∧ (a ∈ sL κ.1 ∧ sK κ.1 a = 22) ∧ (0 ≤ i.toInt ∧ i.toInt < (sN κ.1 a : Int)) ∧ ∀ z : Int64, z = sJ κ.1 a i.toInt.toNat → P z) (kk : ∀ z : Int64, P z → W p l e R s m args below meth c H locs cells slots Q (F0 m (pc + 1) ls (.long z :: rest))) : W p l e R s m args below meth c H locs cells slots Q (F0 m pc ls (.int i :: va_rf q :: rest)) := by
  obtain ⟨a, rfl, h1, h2, h3⟩ := hw
  exact h_lald hF hH.1 hdg h1.1 h1.2 rfl (i_in h2.1 h2.2) (fun z hz => kk z (h3 z hz))
theorem cw_bald {P : Int32 → Prop} (hF : FX p m c cc nL s args own D t) (hH : CT R D t A s.heap κ H locs cells slots) (hE : EZ G A s s.heap) (hdg : decode cc pc = .ok (.baload, 1)) (hw : ∃ (f : Nat → Int32) (n : Nat), BA G κ q f n ∧ (0 ≤ i.toInt ∧ i.toInt < (n : Int)) ∧ ∀ z : Int32, z = f i.toInt.toNat → P z) (kk : ∀ z : Int32, P z → W p l e R s m args below meth c H locs cells slots Q (F0 m (pc + 1) ls (.int z :: rest))) : W p l e R s m args below meth c H locs cells slots Q (F0 m pc ls (.int i :: va_rf q :: rest)) := by
  obtain ⟨f, n, hb, h2, h3⟩ := hw
  rcases hb with ⟨a, rfl, h1, rfl, rfl⟩ | ⟨rfl, rfl, rfl⟩ | ⟨rfl, rfl, rfl⟩
  · exact h_bald hF hH.1 hdg h1.1 h1.2 rfl (i_in h2.1 h2.2) (fun z hz _ => kk z (h3 z hz))
  · exact va_tb hF.1.1 hF.1.2.1 hE.2.2.2.1.2 hH.1.2.2.1 (i_in h2.1 h2.2) rfl hdg (kk 46 (h3 46 rfl))
  · exact va_tb hF.1.1 hF.1.2.1 hE.2.2.2.2.2.2.2.2.1 hH.1.2.2.1 (i_in h2.1 h2.2) rfl hdg (kk _ (h3 _ rfl))
theorem cw_ldBody {P : Int32 → Prop} (hF : FX p m c cc nL s args own D t) (hH : CT R D t A s.heap κ H locs cells slots) (hE : EZ G A s s.heap) (hdg : decode cc pc = .ok (.iaload, 1)) (hw : (0 ≤ i.toInt ∧ i.toInt < 19) ∧ ∀ z : Int32, z = bodyF i.toInt.toNat → P z) (kk : ∀ z : Int32, P z → W p l e R s m args below meth c H locs cells slots Q (F0 m (pc + 1) ls (.int z :: rest))) : W p l e R s m args below meth c H locs cells slots Q (F0 m pc ls (.int i :: .ref G.2.1 :: rest)) :=
  va_ti hF.1.1 hF.1.2.1 hE.2.1.2 hH.1.2.2.1 (i_in hw.1.1 hw.1.2) rfl hdg (kk _ (hw.2 _ rfl))
theorem cw_lnBody {P : Int32 → Prop} (hF : FX p m c cc nL s args own D t) (hH : CT R D t A s.heap κ H locs cells slots) (hE : EZ G A s s.heap) (hdg : decode cc pc = .ok (.arraylength, 1)) (hw : ∀ z : Int32, z = 19 → P z) (kk : ∀ z : Int32, P z → W p l e R s m args below meth c H locs cells slots Q (F0 m (pc + 1) ls (.int z :: rest))) : W p l e R s m args below meth c H locs cells slots Q (F0 m pc ls (.ref G.2.1 :: rest)) :=
  va_tlen hF.1.1 hF.1.2.1 hE.2.1.2 hH.1.2.2.1 rfl hdg (kk _ (hw _ rfl))
theorem cw_ldFile {P : Int32 → Prop} (hF : FX p m c cc nL s args own D t) (hH : CT R D t A s.heap κ H locs cells slots) (hE : EZ G A s s.heap) (hdg : decode cc pc = .ok (.iaload, 1)) (hw : (0 ≤ i.toInt ∧ i.toInt < 19) ∧ ∀ z : Int32, z = fileF i.toInt.toNat → P z) (kk : ∀ z : Int32, P z → W p l e R s m args below meth c H locs cells slots Q (F0 m (pc + 1) ls (.int z :: rest))) : W p l e R s m args below meth c H locs cells slots Q (F0 m pc ls (.int i :: .ref G.2.2.1 :: rest)) :=
  va_ti hF.1.1 hF.1.2.1 hE.2.2.1.2 hH.1.2.2.1 (i_in hw.1.1 hw.1.2) rfl hdg (kk _ (hw.2 _ rfl))
theorem cw_lnFile {P : Int32 → Prop} (hF : FX p m c cc nL s args own D t) (hH : CT R D t A s.heap κ H locs cells slots) (hE : EZ G A s s.heap) (hdg : decode cc pc = .ok (.arraylength, 1)) (hw : ∀ z : Int32, z = 19 → P z) (kk : ∀ z : Int32, P z → W p l e R s m args below meth c H locs cells slots Q (F0 m (pc + 1) ls (.int z :: rest))) : W p l e R s m args below meth c H locs cells slots Q (F0 m pc ls (.ref G.2.2.1 :: rest)) :=
  va_tlen hF.1.1 hF.1.2.1 hE.2.2.1.2 hH.1.2.2.1 rfl hdg (kk _ (hw _ rfl))
theorem cw_alen {P : Int32 → Prop} (hF : FX p m c cc nL s args own D t) (hH : CT R D t A s.heap κ H locs cells slots) (hE : EZ G A s s.heap) (hdg : decode cc pc = .ok (.arraylength, 1)) (hw : ∃ n : Nat, AL G κ q n ∧ ∀ z : Int32, z = nI n → P z) (kk : ∀ z : Int32, P z → W p l e R s m args below meth c H locs cells slots Q (F0 m (pc + 1) ls (.int z :: rest))) : W p l e R s m args below meth c H locs cells slots Q (F0 m pc ls (va_rf q :: rest)) := by
  obtain ⟨n, hb, h3⟩ := hw
  rcases hb with ⟨a, rfl, h1, rfl⟩ | ⟨rfl, rfl⟩ | ⟨rfl, rfl⟩ | ⟨rfl, rfl⟩
  · exact h_alen hF hH.1 hdg h1.1 rfl rfl h1.2.1 h1.2.2 (kk _ (h3 _ rfl))
  · exact va_tlen hF.1.1 hF.1.2.1 hE.1.2 hH.1.2.2.1 rfl hdg (kk _ (h3 _ rfl))
  · exact va_tlen hF.1.1 hF.1.2.1 hE.2.2.2.1.2 hH.1.2.2.1 rfl hdg (kk _ (h3 _ rfl))
  · exact va_tlen hF.1.1 hF.1.2.1 hE.2.2.2.2.2.2.2.2.1 hH.1.2.2.1 rfl hdg (kk _ (h3 _ rfl))
theorem cw_iast {P : CS → Prop} {x : Int32} (hF : FX p m c cc nL s args own D t) (hH : CT R D t A H0 κ H locs cells slots) (hdg : decode cc pc = .ok (.iastore, 1)) (hw : ∃ a : Nat, q = some a ∧ (a ∈ sL κ.1 ∧ sK κ.1 a = 21) ∧ (0 ≤ i.toInt ∧ i.toInt < (sN κ.1 a : Int)) ∧ ∀ κ' : CS, κ' = (h_uI κ.1 a i.toInt.toNat x, κ.2) → P κ') (kk : ∀ (κ' : CS) (H1 : Heap) (locs1 : List Loc) (cells1 slots1 : Nat), P κ' → CT R D t A H0 κ' H1 locs1 cells1 slots1 → W p l e R s m args below meth c H1 locs1 cells1 slots1 Q (F0 m (pc + 1) ls rest)) : W p l e R s m args below meth c H locs cells slots Q (F0 m pc ls (.int x :: .int i :: va_rf q :: rest)) := by
  obtain ⟨a, rfl, h1, h2, h3⟩ := hw
  exact h_iast hF hH.1 hdg h1.1 h1.2 rfl (i_in h2.1 h2.2) (i_range _) (fun H1 l1 h => kk _ H1 l1 _ _ (h3 _ rfl) ⟨h, hH.2⟩)
theorem cw_bast {P : CS → Prop} {x : Int32} (hF : FX p m c cc nL s args own D t) (hH : CT R D t A H0 κ H locs cells slots) (hdg : decode cc pc = .ok (.bastore, 1)) (hw : ∃ a : Nat, q = some a ∧ (a ∈ sL κ.1 ∧ sK κ.1 a = 20) ∧ (0 ≤ i.toInt ∧ i.toInt < (sN κ.1 a : Int)) ∧ ∀ κ' : CS, κ' = (h_uI κ.1 a i.toInt.toNat (vp_nar .byte x), κ.2) → P κ') (kk : ∀ (κ' : CS) (H1 : Heap) (locs1 : List Loc) (cells1 slots1 : Nat), P κ' → CT R D t A H0 κ' H1 locs1 cells1 slots1 → W p l e R s m args below meth c H1 locs1 cells1 slots1 Q (F0 m (pc + 1) ls rest)) : W p l e R s m args below meth c H locs cells slots Q (F0 m pc ls (.int x :: .int i :: va_rf q :: rest)) := by
  obtain ⟨a, rfl, h1, h2, h3⟩ := hw
  exact h_bast hF hH.1 hdg h1.1 h1.2 rfl (i_in h2.1 h2.2) (i_range _) (fun H1 l1 h => kk _ H1 l1 _ _ (h3 _ rfl) ⟨h, hH.2⟩)
theorem cw_last {P : CS → Prop} {x : Int64} (hF : FX p m c cc nL s args own D t) (hH : CT R D t A H0 κ H locs cells slots) (hdg : decode cc pc = .ok (.lastore, 1)) (hw : ∃ a : Nat, q = some a ∧ (a ∈ sL κ.1 ∧ sK κ.1 a = 22) ∧ (0 ≤ i.toInt ∧ i.toInt < (sN κ.1 a : Int)) ∧ ∀ κ' : CS, κ' = (h_uJ κ.1 a i.toInt.toNat x, κ.2) → P κ') (kk : ∀ (κ' : CS) (H1 : Heap) (locs1 : List Loc) (cells1 slots1 : Nat), P κ' → CT R D t A H0 κ' H1 locs1 cells1 slots1 → W p l e R s m args below meth c H1 locs1 cells1 slots1 Q (F0 m (pc + 1) ls rest)) : W p l e R s m args below meth c H locs cells slots Q (F0 m pc ls (.long x :: .int i :: va_rf q :: rest)) := by
  obtain ⟨a, rfl, h1, h2, h3⟩ := hw
  exact h_last hF hH.1 hdg h1.1 h1.2 rfl (i_in h2.1 h2.2) (fun H1 l1 h => kk _ H1 l1 _ _ (h3 _ rfl) ⟨h, hH.2⟩)
theorem ent_q {σ : HS} {a p : Nat} (hp : sK σ a = p) (h1 : 24 ≤ p) : ent phI t σ a = .inl (t (p - 20), sN σ a, .inr (.inr (.inr (.inr (sP σ a))))) := by
  rw [ent_arr (c := p) (by rw [hp]; rfl) (by omega)]
  unfold arrE
  rw [if_neg (by omega), if_neg (by omega)]
theorem tys_q {p : Nat} (h1 : 24 ≤ p) (h2 : p < 28) : ∃ C : String, (tys1 t)[p - 20]? = some (t (p - 20), .object C) := by
  rcases (show p = 24 ∨ p = 25 ∨ p = 26 ∨ p = 27 by omega) with z | z | z | z <;> subst z
  · exact ⟨"ShareHouse$Change", rfl⟩
  · exact ⟨"ShareHouse$Conn", rfl⟩
  · exact ⟨"ShareHouse$Node", rfl⟩
  · exact ⟨"java/lang/Object", rfl⟩
theorem cw_aald {P : Option Nat → Prop} (hF : FX p m c cc nL s args own D t) (hH : CT R D t A H0 κ H locs cells slots) (hdg : decode cc pc = .ok (.aaload, 1)) (hw : ∃ a : Nat, q = some a ∧ (a ∈ sL κ.1 ∧ 24 ≤ sK κ.1 a ∧ sK κ.1 a < 28) ∧ (0 ≤ i.toInt ∧ i.toInt < (sN κ.1 a : Int)) ∧ ∀ z : Option Nat, z = sP κ.1 a i.toInt.toNat → P z) (kk : ∀ z : Option Nat, P z → W p l e R s m args below meth c H locs cells slots Q (F0 m (pc + 1) ls (va_rf z :: rest))) : W p l e R s m args below meth c H locs cells slots Q (F0 m pc ls (.int i :: va_rf q :: rest)) := by
  obtain ⟨a, rfl, h1, h2, h3⟩ := hw
  obtain ⟨qi, hq⟩ := h_in (ph := phI) (t := t) h1.1
  rw [ent_q rfl h1.2.1] at hq
  obtain ⟨C, hC⟩ := tys_q (t := t) h1.2.1 h1.2.2
  exact r_aldq hF hdg hH.1.1 hq hC (i_in h2.1 h2.2) rfl (kk _ (h3 _ rfl))
theorem cw_aast {P : CS → Prop} {v : Option Nat} (hF : FX p m c cc nL s args own D t) (hH : CT R D t A H0 κ H locs cells slots) (hdg : decode cc pc = .ok (.aastore, 1)) (hw : ∃ a : Nat, q = some a ∧ (a ∈ sL κ.1 ∧ 24 ≤ sK κ.1 a ∧ sK κ.1 a < 28) ∧ (0 ≤ i.toInt ∧ i.toInt < (sN κ.1 a : Int)) ∧ (v = none ∨ ∃ b : Nat, v = some b ∧ b ∈ sL κ.1 ∧ stOk (sK κ.1 a) (sK κ.1 b) = true) ∧ ∀ κ' : CS, κ' = (h_uP κ.1 a i.toInt.toNat v, κ.2) → P κ') (kk : ∀ (κ' : CS) (H1 : Heap) (locs1 : List Loc) (cells1 slots1 : Nat), P κ' → CT R D t A H0 κ' H1 locs1 cells1 slots1 → W p l e R s m args below meth c H1 locs1 cells1 slots1 Q (F0 m (pc + 1) ls rest)) : W p l e R s m args below meth c H locs cells slots Q (F0 m pc ls (va_rf v :: .int i :: va_rf q :: rest)) := by
  obtain ⟨a, rfl, h1, h2, hv, h3⟩ := hw
  obtain ⟨qi, hq⟩ := h_in (ph := phI) (t := t) h1.1
  have hq2 := hq
  rw [ent_q rfl h1.2.1] at hq
  have key : ent phI t (h_uP κ.1 a i.toInt.toNat v) a = .inl (t (sK κ.1 a - 20), sN κ.1 a, .inr (.inr (.inr (.inr (va_up (sP κ.1 a) i.toInt.toNat v))))) := by
    rw [ent_q (σ := h_uP κ.1 a i.toInt.toNat v) (p := sK κ.1 a) rfl h1.2.1, show sP (h_uP κ.1 a i.toInt.toNat v) a = va_up (sP κ.1 a) i.toInt.toNat v from u2_up]
    rfl
  have fin := fun (H1 : Heap) (l1 : List Loc) (g1 : va_P D cl1 ((hWd phI t κ.1).set qi (a, .inl (t (sK κ.1 a - 20), sN κ.1 a, .inr (.inr (.inr (.inr (va_up (sP κ.1 a) i.toNatClampNeg v))))))) H1) (g2 : va_D A ((hWd phI t κ.1).set qi (a, .inl (t (sK κ.1 a - 20), sN κ.1 a, .inr (.inr (.inr (.inr (va_up (sP κ.1 a) i.toNatClampNeg v)))))))) (g3 : va_S A H0 H1 l1) => kk (h_uP κ.1 a i.toInt.toNat v, κ.2) H1 l1 _ _ (h3 _ rfl) ⟨h_upd (h_set hH.1.2.1 h1.1 hq2 rfl key (fun x hx => ent_uP hx)) okT g1 g2 g3, hH.2⟩
  rcases hv with rfl | ⟨b, rfl, hb1, hb2⟩
  · obtain ⟨C, hC⟩ := tys_q (t := t) h1.2.1 h1.2.2
    exact va_astqN hF.1.1 hF.1.2.1 hF.2.1 hH.1.1 hH.1.2.1 hH.1.2.2.1 qi (sK κ.1 a - 20) hq hC (i_in h2.1 h2.2) hdg fin
  · obtain ⟨qb, hqb⟩ := h_in (ph := phI) (t := t) hb1
    generalize hka : sK κ.1 a = ka at *
    generalize hkb : sK κ.1 b = kb at *
    have hcases : (ka = 24 ∧ kb = 4) ∨ (ka = 25 ∧ kb = 3) ∨ (ka = 26 ∧ kb = 5) ∨ (ka = 27 ∧ (kb = 8 ∨ kb = 9 ∨ kb = 10 ∨ kb = 11 ∨ kb = 12)) := by
      simp only [stOk, Bool.or_eq_true, Bool.and_eq_true, beq_iff_eq] at hb2
      omega
    rcases hcases with ⟨z1, z2⟩ | ⟨z1, z2⟩ | ⟨z1, z2⟩ | ⟨z1, z2⟩
    · subst z1; subst z2
      rw [ent_obj (c := 4) (by rw [hkb]; rfl) (by decide)] at hqb
      exact r_astq (t0 := 4) hF ci_X1 hdg hH.1.1 hH.1.2.1 hH.1.2.2.1 hq rfl hqb (i_in h2.1 h2.2) fin
    · subst z1; subst z2
      rw [ent_obj (c := 3) (by rw [hkb]; rfl) (by decide)] at hqb
      exact r_astq (t0 := 5) hF ci_X2 hdg hH.1.1 hH.1.2.1 hH.1.2.2.1 hq rfl hqb (i_in h2.1 h2.2) fin
    · subst z1; subst z2
      rw [ent_obj (c := 5) (by rw [hkb]; rfl) (by decide)] at hqb
      exact r_astq (t0 := 6) hF ci_X4 hdg hH.1.1 hH.1.2.1 hH.1.2.2.1 hq rfl hqb (i_in h2.1 h2.2) fin
    · subst z1
      rw [ent_obj (c := kb) (by rw [hkb]; rfl) (by omega)] at hqb
      rcases z2 with z2 | z2 | z2 | z2 | z2 <;> subst z2
      · exact va_astqO hF.1.1 hF.1.2.1 hF.2.1 hH.1.1 hH.1.2.1 hH.1.2.2.1 qi 7 qb 8 hq rfl (hF.2.2.2.1 ("ShareHouse$Asked", "java/lang/Object") (by decide)) hqb ci_X0.1 (i_in h2.1 h2.2) hdg fin
      · exact va_astqO hF.1.1 hF.1.2.1 hF.2.1 hH.1.1 hH.1.2.1 hH.1.2.2.1 qi 7 qb 9 hq rfl (hF.2.2.2.1 ("ShareHouse$Lock", "java/lang/Object") (by decide)) hqb ci_X3.1 (i_in h2.1 h2.2) hdg fin
      · exact va_astqO hF.1.1 hF.1.2.1 hF.2.1 hH.1.1 hH.1.2.1 hH.1.2.2.1 qi 7 qb 10 hq rfl (hF.2.2.2.1 ("ShareHouse$Open", "java/lang/Object") (by decide)) hqb ci_X5.1 (i_in h2.1 h2.2) hdg fin
      · exact va_astqO hF.1.1 hF.1.2.1 hF.2.1 hH.1.1 hH.1.2.1 hH.1.2.2.1 qi 7 qb 11 hq rfl (hF.2.2.2.1 ("ShareHouse$Session", "java/lang/Object") (by decide)) hqb ci_X7.1 (i_in h2.1 h2.2) hdg fin
      · exact va_astqO hF.1.1 hF.1.2.1 hF.2.1 hH.1.1 hH.1.2.1 hH.1.2.2.1 qi 7 qb 12 hq rfl (hF.2.2.2.1 ("ShareHouse$TreeLink", "java/lang/Object") (by decide)) hqb ci_X8.1 (i_in h2.1 h2.2) hdg fin
theorem cw_new {P : Nat → CS → Prop} (hF : FX p m c cc nL s args own D t) (hH : CT R D t A H0 κ H locs cells slots) (hA : ∀ q, H0.size ≤ q → A q) (hC : CI ci C T N ty) (hci : ci < 20) (hN : nfc ci = N) (hdf : ∀ j, j < N → defaultValue (ty j) = fv (fkc ci j) 0 0 none) (hdg : decode cc pc = .ok (.new index, 3)) (w1 : Cond.classLink own index C ∈ big) (w2 : Cond.instantiable C N ∈ big) (w3 : Cond.initialized C ∈ big) (hw : (N + 12 ≤ κ.2) ∧ ∀ a : Nat, a ∉ sL κ.1 → ∀ κ' : CS, κ' = (h_uN κ.1 a ci 0, κ.2 - (N + 12)) → P a κ') (kk : ∀ (a : Nat) (κ' : CS) (H1 : Heap) (locs1 : List Loc) (cells1 slots1 : Nat), P a κ' → CT R D t A H0 κ' H1 locs1 cells1 slots1 → W p l e R s m args below meth c H1 locs1 cells1 slots1 Q (F0 m (pc + 3) ls (.ref a :: rest))) : W p l e R s m args below meth c H locs cells slots Q (F0 m pc ls rest) := by
  obtain ⟨g1, g2⟩ := hH.2
  have g3 := hw.1
  refine va_new hF.1.1 hF.1.2.1 hF.1.2.2.2.2 hC.2.1 ty hC.2.2.1 hF.1.2.2.2.1 (hF.1.2.2.2.2 _ w1) (hF.1.2.2.2.2 _ w2) (hF.1.2.2.2.2 _ w3) hF.2.1 hH.1.1 hH.1.2.1 hH.1.2.2.1 hA hC.1 (fs := (List.range N).map (fun j => fv (fkc ci j) 0 0 none)) (fun j hj => ?_) (by omega) (by omega) hdg (fun a H1 h1 h2 h3 => ?_)
  · rw [hdf j hj]
    unfold vp_V
    rw [List.getD_eq_getElem?_getD, List.getElem?_map, List.getElem?_range hj]
    rfl
  · have ho := new_out h2
    have he : hWd phI t κ.1 ++ [(a, .inr (ci, (List.range N).map (fun j => fv (fkc ci j) 0 0 none)))] = hWd phI t (h_uN κ.1 a ci 0) := by
      rw [hWd_new ho]
      congr 2
      rw [ent_obj (c := ci) (by show phI (va_up (sK κ.1) a ci a) = ci; rw [va_up_self]; rfl) hci]
      unfold flds
      rw [hN]
      have eI : sI (h_uN κ.1 a ci 0) a = fun _ => 0 := va_up_self _ _ _
      have eJ : sJ (h_uN κ.1 a ci 0) a = fun _ => 0 := va_up_self _ _ _
      have eP : sP (h_uN κ.1 a ci 0) a = fun _ => none := va_up_self _ _ _
      rw [eI, eJ, eP]
    rw [he] at h1 h2
    exact kk a (h_uN κ.1 a ci 0, κ.2 - (N + 12)) H1 locs _ _ (hw.2 a ho _ rfl) ⟨⟨h1, h2, h3, okT⟩, by dsimp only; omega, by dsimp only; omega⟩
theorem ent_newa {σ : HS} {a kd n : Nat} (h : 20 ≤ kd) : ent phI t (h_uN σ a kd n) a = arrE t kd n (fun _ => 0) (fun _ => 0) (fun _ => none) := by
  have eK : sK (h_uN σ a kd n) a = kd := va_up_self _ _ _
  have eN : sN (h_uN σ a kd n) a = n := va_up_self _ _ _
  have eI : sI (h_uN σ a kd n) a = fun _ => 0 := va_up_self _ _ _
  have eJ : sJ (h_uN σ a kd n) a = fun _ => 0 := va_up_self _ _ _
  have eP : sP (h_uN σ a kd n) a = fun _ => none := va_up_self _ _ _
  rw [ent_arr (c := kd) (by rw [eK]; rfl) (by omega), eN, eI, eJ, eP]
theorem cw_newarr_byte {P : Nat → CS → Prop} {z : Int32} (hF : FX p m c cc nL s args own D t) (hH : CT R D t A H0 κ H locs cells slots) (hA : ∀ q, H0.size ≤ q → A q) (hwd : Cond.arrayClass (newarray.typeOf .byte) ∈ big) (hdg : decode cc pc = .ok (.newarray .byte, 2)) (hw : (0 ≤ z.toInt ∧ z.toInt ≤ 1000000) ∧ (z.toInt.toNat + 12 ≤ κ.2) ∧ ∀ a : Nat, a ∉ sL κ.1 → ∀ κ' : CS, κ' = (h_uN κ.1 a 20 z.toInt.toNat, κ.2 - (z.toInt.toNat + 12)) → P a κ') (kk : ∀ (a : Nat) (κ' : CS) (H1 : Heap) (locs1 : List Loc) (cells1 slots1 : Nat), P a κ' → CT R D t A H0 κ' H1 locs1 cells1 slots1 → W p l e R s m args below meth c H1 locs1 cells1 slots1 Q (F0 m (pc + 2) ls (.ref a :: rest))) : W p l e R s m args below meth c H locs cells slots Q (F0 m pc ls (.int z :: rest)) := by
  obtain ⟨g1, g2⟩ := hH.2
  obtain ⟨g3, g4, g5⟩ := hw
  obtain ⟨n, hn⟩ : ∃ n, n = z.toInt.toNat := ⟨_, rfl⟩
  rw [← hn] at g4 g5
  refine r_newa (t0 := 0) (N' := n) (a0 := (n, .inl (fun _ => 0))) hF hdg hwd rfl rfl id hH.1.1 hH.1.2.1 hH.1.2.2.1 hA (fun _ => rfl) (fun q => by have := i_lt q; have k0 : (0 : Int32).toInt = 0 := rfl; omega) (by rw [hn]; rfl) (by show n * 1 ≤ _; omega) (by omega) (by omega) (fun a H1 h1 h2 h3 => ?_)
  have ho := new_out h2
  have he : hWd phI t κ.1 ++ [(a, .inl (t 0, (n, .inl (fun _ => 0))))] = hWd phI t (h_uN κ.1 a 20 n) := by
    rw [hWd_new ho, ent_newa (by decide)]
    rfl
  rw [he] at h1 h2
  exact kk a (h_uN κ.1 a 20 n, κ.2 - (n + 12)) H1 locs _ _ (g5 a ho _ rfl) ⟨⟨h1, h2, h3, okT⟩, by dsimp only; omega, by dsimp only; omega⟩
theorem cw_newarr_int {P : Nat → CS → Prop} {z : Int32} (hF : FX p m c cc nL s args own D t) (hH : CT R D t A H0 κ H locs cells slots) (hA : ∀ q, H0.size ≤ q → A q) (hwd : Cond.arrayClass (newarray.typeOf .int) ∈ big) (hdg : decode cc pc = .ok (.newarray .int, 2)) (hw : (0 ≤ z.toInt ∧ z.toInt ≤ 1000000) ∧ (z.toInt.toNat + 12 ≤ κ.2) ∧ ∀ a : Nat, a ∉ sL κ.1 → ∀ κ' : CS, κ' = (h_uN κ.1 a 21 z.toInt.toNat, κ.2 - (z.toInt.toNat + 12)) → P a κ') (kk : ∀ (a : Nat) (κ' : CS) (H1 : Heap) (locs1 : List Loc) (cells1 slots1 : Nat), P a κ' → CT R D t A H0 κ' H1 locs1 cells1 slots1 → W p l e R s m args below meth c H1 locs1 cells1 slots1 Q (F0 m (pc + 2) ls (.ref a :: rest))) : W p l e R s m args below meth c H locs cells slots Q (F0 m pc ls (.int z :: rest)) := by
  obtain ⟨g1, g2⟩ := hH.2
  obtain ⟨g3, g4, g5⟩ := hw
  obtain ⟨n, hn⟩ : ∃ n, n = z.toInt.toNat := ⟨_, rfl⟩
  rw [← hn] at g4 g5
  refine r_newa (t0 := 1) (N' := n) (a0 := (n, .inl (fun _ => 0))) hF hdg hwd rfl rfl id hH.1.1 hH.1.2.1 hH.1.2.2.1 hA (fun _ => rfl) (fun q => by have := i_lt q; have k0 : (0 : Int32).toInt = 0 := rfl; omega) (by rw [hn]; rfl) (by show n * 4 ≤ _; omega) (by omega) (by omega) (fun a H1 h1 h2 h3 => ?_)
  have ho := new_out h2
  have he : hWd phI t κ.1 ++ [(a, .inl (t 1, (n, .inl (fun _ => 0))))] = hWd phI t (h_uN κ.1 a 21 n) := by
    rw [hWd_new ho, ent_newa (by decide)]
    rfl
  rw [he] at h1 h2
  exact kk a (h_uN κ.1 a 21 n, κ.2 - (n + 12)) H1 locs _ _ (g5 a ho _ rfl) ⟨⟨h1, h2, h3, okT⟩, by dsimp only; omega, by dsimp only; omega⟩
theorem cw_newarr_long {P : Nat → CS → Prop} {z : Int32} (hF : FX p m c cc nL s args own D t) (hH : CT R D t A H0 κ H locs cells slots) (hA : ∀ q, H0.size ≤ q → A q) (hwd : Cond.arrayClass (newarray.typeOf .long) ∈ big) (hdg : decode cc pc = .ok (.newarray .long, 2)) (hw : (0 ≤ z.toInt ∧ z.toInt ≤ 1000000) ∧ (z.toInt.toNat + 12 ≤ κ.2) ∧ ∀ a : Nat, a ∉ sL κ.1 → ∀ κ' : CS, κ' = (h_uN κ.1 a 22 z.toInt.toNat, κ.2 - (z.toInt.toNat + 12)) → P a κ') (kk : ∀ (a : Nat) (κ' : CS) (H1 : Heap) (locs1 : List Loc) (cells1 slots1 : Nat), P a κ' → CT R D t A H0 κ' H1 locs1 cells1 slots1 → W p l e R s m args below meth c H1 locs1 cells1 slots1 Q (F0 m (pc + 2) ls (.ref a :: rest))) : W p l e R s m args below meth c H locs cells slots Q (F0 m pc ls (.int z :: rest)) := by
  obtain ⟨g1, g2⟩ := hH.2
  obtain ⟨g3, g4, g5⟩ := hw
  obtain ⟨n, hn⟩ : ∃ n, n = z.toInt.toNat := ⟨_, rfl⟩
  rw [← hn] at g4 g5
  refine r_newa (t0 := 2) (N' := n) (a0 := (n, .inr (.inl (fun _ => 0)))) hF hdg hwd rfl rfl id hH.1.1 hH.1.2.1 hH.1.2.2.1 hA (fun _ => rfl) (fun q => by have := i_lt q; have k0 : (0 : Int32).toInt = 0 := rfl; omega) (by rw [hn]; rfl) (by show n * 8 ≤ _; omega) (by omega) (by omega) (fun a H1 h1 h2 h3 => ?_)
  have ho := new_out h2
  have he : hWd phI t κ.1 ++ [(a, .inl (t 2, (n, .inr (.inl (fun _ => 0)))))] = hWd phI t (h_uN κ.1 a 22 n) := by
    rw [hWd_new ho, ent_newa (by decide)]
    rfl
  rw [he] at h1 h2
  exact kk a (h_uN κ.1 a 22 n, κ.2 - (n + 12)) H1 locs _ _ (g5 a ho _ rfl) ⟨⟨h1, h2, h3, okT⟩, by dsimp only; omega, by dsimp only; omega⟩
theorem cw_anew {P : Nat → CS → Prop} {z : Int32} (kd : Nat) (h24 : 24 ≤ kd) (hF : FX p m c cc nL s args own D t) (hH : CT R D t A H0 κ H locs cells slots) (hA : ∀ q, H0.size ≤ q → A q) (w1 : Cond.classLink own index C ∈ big) (hov : C ∈ overL) (ht : (tys1 t)[kd - 20]? = some (t (kd - 20), .object C)) (hdg : decode cc pc = .ok (.anewarray index, 3)) (hw : (0 ≤ z.toInt ∧ z.toInt ≤ 1000000) ∧ (z.toInt.toNat + 12 ≤ κ.2) ∧ ∀ a : Nat, a ∉ sL κ.1 → ∀ κ' : CS, κ' = (h_uN κ.1 a kd z.toInt.toNat, κ.2 - (z.toInt.toNat + 12)) → P a κ') (kk : ∀ (a : Nat) (κ' : CS) (H1 : Heap) (locs1 : List Loc) (cells1 slots1 : Nat), P a κ' → CT R D t A H0 κ' H1 locs1 cells1 slots1 → W p l e R s m args below meth c H1 locs1 cells1 slots1 Q (F0 m (pc + 3) ls (.ref a :: rest))) : W p l e R s m args below meth c H locs cells slots Q (F0 m pc ls (.int z :: rest)) := by
  obtain ⟨g1, g2⟩ := hH.2
  obtain ⟨g3, g4, g5⟩ := hw
  obtain ⟨n, hn⟩ : ∃ n, n = z.toInt.toNat := ⟨_, rfl⟩
  rw [← hn] at g4 g5
  refine r_newq (N' := n) hF hdg w1 (hF.2.2.2.2 _ hov) ht hH.1.1 hH.1.2.1 hH.1.2.2.1 hA (fun q => by have := i_lt q; have k0 : (0 : Int32).toInt = 0 := rfl; omega) (by rw [hn]; rfl) (by omega) (by omega) (by omega) (fun a H1 h1 h2 h3 => ?_)
  have hp : ((a, .inl (t (kd - 20), n, .inr (.inr (.inr (.inr (fun _ => none)))))) :: hWd phI t κ.1).Perm (hWd phI t κ.1 ++ [(a, .inl (t (kd - 20), n, .inr (.inr (.inr (.inr (fun _ => none))))))]) := (List.perm_append_singleton _ _).symm
  have h1 := P_perm hp h1
  have h2 := D_perm hp h2
  have ho := new_out h2
  have he : hWd phI t κ.1 ++ [(a, .inl (t (kd - 20), n, .inr (.inr (.inr (.inr (fun _ => none))))))] = hWd phI t (h_uN κ.1 a kd n) := by
    rw [hWd_new ho, ent_newa (by omega)]
    unfold arrE
    rw [if_neg (by omega), if_neg (by omega)]
  rw [he] at h1 h2
  exact kk a (h_uN κ.1 a kd n, κ.2 - (n + 12)) H1 locs _ _ (g5 a ho _ rfl) ⟨⟨h1, h2, h3, okT⟩, by dsimp only; omega, by dsimp only; omega⟩
end R42

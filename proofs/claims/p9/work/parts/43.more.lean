/-! casts, statics, copies, nulls; ways that meet, loops -/
theorem cat_rf (q : Option Nat) : (va_rf q).category = 1 := by cases q <;> rfl
section R43
variable {p : Program} {l : Launch} {e : Env} {R : Room} {s : State} {m : MethodId} {args : Array Value} {below : List Frame} {meth : Method} {c : Code} {H : Heap} {locs : List Loc} {cells slots : Nat} {Q : State → Prop} {cc : ByteArray} {pc : Nat} {ls : Array Slot} {rest : List Value} {D : va_G} {t : Nat → ClassId} {A : Nat → Prop} {H0 : Heap} {own : String} {nL : Nat} {κ : CS} {G : GE} {i : Int32} {q : Option Nat} {index k ci N : Nat} {C : String} {T : u_T} {ty : Nat → FieldType}
theorem cw_null (hdg : decode cc pc = .ok (.aconst_null, 1)) (hF : FX p m c cc nL s args own D t) (kk : W p l e R s m args below meth c H locs cells slots Q (F0 m (pc + 1) ls (va_rf none :: rest))) : W p l e R s m args below meth c H locs cells slots Q (F0 m pc ls rest) := lv_null hF.1.1 hF.1.2.1 hdg kk
theorem cw_ifnull {off : Int} {tgt : Nat} (hF : FX p m c cc nL s args own D t) (hdg : decode cc pc = .ok (.ifnull off, 3)) (ht : (pc : Int) + off = (tgt : Int)) {P1 P2 : Prop} (hw : (q = none → P1) ∧ ((¬ q = none) → P2)) (kt : P1 → W p l e R s m args below meth c H locs cells slots Q (F0 m tgt ls rest)) (kf : P2 → W p l e R s m args below meth c H locs cells slots Q (F0 m (pc + 3) ls rest)) : W p l e R s m args below meth c H locs cells slots Q (F0 m pc ls (va_rf q :: rest)) := by
  cases q with
  | none => exact lv_ifnullN hF.1.1 hF.1.2.1 hdg ht (kt (hw.1 rfl))
  | some a => exact lv_ifnull hF.1.1 hF.1.2.1 hdg (kf (hw.2 (fun h => by cases h)))
theorem cw_ifnonnull {off : Int} {tgt : Nat} (hF : FX p m c cc nL s args own D t) (hdg : decode cc pc = .ok (.ifnonnull off, 3)) (ht : (pc : Int) + off = (tgt : Int)) {P1 P2 : Prop} (hw : ((¬ q = none) → P1) ∧ (q = none → P2)) (kt : P1 → W p l e R s m args below meth c H locs cells slots Q (F0 m tgt ls rest)) (kf : P2 → W p l e R s m args below meth c H locs cells slots Q (F0 m (pc + 3) ls rest)) : W p l e R s m args below meth c H locs cells slots Q (F0 m pc ls (va_rf q :: rest)) := by
  cases q with
  | none => exact lv_ifnonnullN hF.1.1 hF.1.2.1 hdg (kf (hw.2 rfl))
  | some a => exact lv_ifnonnull hF.1.1 hF.1.2.1 hdg ht (kt (hw.1 (fun h => by cases h)))
theorem cw_acmp_eq {rx ry : Option Nat} {off : Int} {tgt : Nat} (hF : FX p m c cc nL s args own D t) (hdg : decode cc pc = .ok (.if_acmp .eq off, 3)) (ht : (pc : Int) + off = (tgt : Int)) {P1 P2 : Prop} (hw : ((rx = ry) → P1) ∧ ((¬ rx = ry) → P2)) (kt : P1 → W p l e R s m args below meth c H locs cells slots Q (F0 m tgt ls rest)) (kf : P2 → W p l e R s m args below meth c H locs cells slots Q (F0 m (pc + 3) ls rest)) : W p l e R s m args below meth c H locs cells slots Q (F0 m pc ls (va_rf ry :: va_rf rx :: rest)) := lv_acmp_eq hF.1.1 hF.1.2.1 hdg ht (fun h => kt (hw.1 h)) (fun h => kf (hw.2 h))
theorem cw_acmp_ne {rx ry : Option Nat} {off : Int} {tgt : Nat} (hF : FX p m c cc nL s args own D t) (hdg : decode cc pc = .ok (.if_acmp .ne off, 3)) (ht : (pc : Int) + off = (tgt : Int)) {P1 P2 : Prop} (hw : ((¬ rx = ry) → P1) ∧ ((rx = ry) → P2)) (kt : P1 → W p l e R s m args below meth c H locs cells slots Q (F0 m tgt ls rest)) (kf : P2 → W p l e R s m args below meth c H locs cells slots Q (F0 m (pc + 3) ls rest)) : W p l e R s m args below meth c H locs cells slots Q (F0 m pc ls (va_rf ry :: va_rf rx :: rest)) := lv_acmp_ne hF.1.1 hF.1.2.1 hdg ht (fun h => kt (hw.1 h)) (fun h => kf (hw.2 h))
theorem cw_cast {P1 : Prop} (hF : FX p m c cc nL s args own D t) (hH : CT R D t A H0 κ H locs cells slots) (hC : CI ci C T N ty) (hci : ci < 20) (w1 : Cond.classLink own index C ∈ big) (hca : (C, C) ∈ castL) (hdg : decode cc pc = .ok (.checkcast index, 3)) (hw : (q = none ∨ ∃ a : Nat, q = some a ∧ a ∈ sL κ.1 ∧ sK κ.1 a = ci) ∧ P1) (kk : P1 → W p l e R s m args below meth c H locs cells slots Q (F0 m (pc + 3) ls (va_rf q :: rest))) : W p l e R s m args below meth c H locs cells slots Q (F0 m pc ls (va_rf q :: rest)) := by
  rcases hw.1 with rfl | ⟨a, rfl, h1, h2⟩
  · exact lv_castN hF.1.1 hF.1.2.1 hdg (kk hw.2)
  · obtain ⟨qi, hq⟩ := h_in (ph := phI) (t := t) h1
    rw [ent_obj (c := ci) (by rw [h2]; rfl) hci] at hq
    exact va_castY hF.1.1 hF.1.2.1 hF.1.2.2.2.1 (hF.1.2.2.2.2 _ w1) (hF.2.2.2.1 _ hca) (va_recv hF.2.1 hH.1.1 hC.1 hq) hdg (kk hw.2)
theorem cw_getsE (hF : FX p m c cc nL s args own D t) (hH : CT R D t A s.heap κ H locs cells slots) (hE : EZ G A s s.heap) (w1 : Cond.fieldLink own index "java/util/ArrayList" "DEFAULTCAPACITY_EMPTY_ELEMENTDATA" "[Ljava/lang/Object;" ∈ big) (hdg : decode cc pc = .ok (.getstatic index, 3)) (kk : W p l e R s m args below meth c H locs cells slots Q (F0 m (pc + 3) ls (.ref G.1 :: rest))) : W p l e R s m args below meth c H locs cells slots Q (F0 m pc ls rest) :=
  va_gets hF.1.1 hF.1.2.1 hE.1.1 hH.1.2.2.1 hF.1.2.2.2.1 (hF.1.2.2.2.2 _ w1) (fun _ h => h) hdg kk
theorem cw_getsB (hF : FX p m c cc nL s args own D t) (hH : CT R D t A s.heap κ H locs cells slots) (hE : EZ G A s s.heap) (w1 : Cond.fieldLink own index "ShareHouse" "BODY" "[I" ∈ big) (hdg : decode cc pc = .ok (.getstatic index, 3)) (kk : W p l e R s m args below meth c H locs cells slots Q (F0 m (pc + 3) ls (.ref G.2.1 :: rest))) : W p l e R s m args below meth c H locs cells slots Q (F0 m pc ls rest) :=
  va_gets hF.1.1 hF.1.2.1 hE.2.1.1 hH.1.2.2.1 hF.1.2.2.2.1 (hF.1.2.2.2.2 _ w1) (fun _ h => h) hdg kk
theorem cw_getsF (hF : FX p m c cc nL s args own D t) (hH : CT R D t A s.heap κ H locs cells slots) (hE : EZ G A s s.heap) (w1 : Cond.fieldLink own index "ShareHouse" "FILE_AT" "[I" ∈ big) (hdg : decode cc pc = .ok (.getstatic index, 3)) (kk : W p l e R s m args below meth c H locs cells slots Q (F0 m (pc + 3) ls (.ref G.2.2.1 :: rest))) : W p l e R s m args below meth c H locs cells slots Q (F0 m pc ls rest) :=
  va_gets hF.1.1 hF.1.2.1 hE.2.2.1.1 hH.1.2.2.1 hF.1.2.2.2.1 (hF.1.2.2.2.2 _ w1) (fun _ h => h) hdg kk
theorem cw_getsD (hF : FX p m c cc nL s args own D t) (hH : CT R D t A s.heap κ H locs cells slots) (hE : EZ G A s s.heap) (w1 : Cond.fieldLink own index "ShareHouse" "DOTS" "[B" ∈ big) (hdg : decode cc pc = .ok (.getstatic index, 3)) (kk : W p l e R s m args below meth c H locs cells slots Q (F0 m (pc + 3) ls (.ref G.2.2.2.1 :: rest))) : W p l e R s m args below meth c H locs cells slots Q (F0 m pc ls rest) :=
  va_gets hF.1.1 hF.1.2.1 hE.2.2.2.1.1 hH.1.2.2.1 hF.1.2.2.2.1 (hF.1.2.2.2.2 _ w1) (fun _ h => h) hdg kk
theorem ent_cpI {σ : HS} {a0 a1 sp dp n x : Nat} (h : x ≠ a1) : ent phI t (h_cpI σ a0 a1 sp dp n) x = ent phI t σ x := by
  have hI : sI (h_cpI σ a0 a1 sp dp n) x = sI σ x := va_up_ne _ _ h
  unfold ent
  show (if phI (sK σ x) < 20 then _ else _) = _
  by_cases hc : phI (sK σ x) < 20
  · rw [if_pos hc, if_pos hc]
    congr 2
    exact flds_ne (fun i _ => by rw [hI]; rfl)
  · rw [if_neg hc, if_neg hc, hI]
    rfl
theorem ent_cpP {σ : HS} {a0 a1 sp dp n x : Nat} (h : x ≠ a1) : ent phI t (h_cpP σ a0 a1 sp dp n) x = ent phI t σ x := by
  have hI : sP (h_cpP σ a0 a1 sp dp n) x = sP σ x := va_up_ne _ _ h
  unfold ent
  show (if phI (sK σ x) < 20 then _ else _) = _
  by_cases hc : phI (sK σ x) < 20
  · rw [if_pos hc, if_pos hc]
    congr 2
    exact flds_ne (fun i _ => by rw [hI]; rfl)
  · rw [if_neg hc, if_neg hc, hI]
    rfl
theorem fit_b {x : Int32} (h : -128 ≤ x.toInt ∧ x.toInt ≤ 127) : fits .byte (.int x) = true := by
  have e : x.toInt8.toInt32 = x := by
    apply Int32.toInt_inj.mp
    rw [Int8.toInt_toInt32, Int32.toInt_toInt8]
    rw [Int.bmod_def]
    have e : ((2 ^ 8 : Nat) : Int) = 256 := rfl
    rw [e]
    split <;> omega
  rw [← e]
  exact pk_fb x
theorem cw_copyB {P : CS → Prop} {q0 q1 : Option Nat} {sp dp n : Int32} (hF : FX p m c cc nL s args own D t) (hH : CT R D t A H0 κ H locs cells slots) (w1 : Cond.methodLink own index arraycopyName ∈ big) (w2 : Cond.native arraycopyName ∈ big) (w3 : Cond.static arraycopyName ∈ big) (w4 : Cond.initialized "java/lang/System" ∈ big) (hfr : 1 ≤ R.frames) (hlo : (rest.map fun v => v.category).sum + (nativeFrameWords "java/lang/System" "arraycopy" 5 + 11) ≤ R.locals) (hls : ls.size = nL) (hdg : decode cc pc = .ok (.invokestatic index, 3)) (hw : ∃ a0 : Nat, q0 = some a0 ∧ ∃ a1 : Nat, q1 = some a1 ∧ (a0 ∈ sL κ.1 ∧ sK κ.1 a0 = 20) ∧ (a1 ∈ sL κ.1 ∧ sK κ.1 a1 = 20) ∧ (0 ≤ sp.toInt ∧ 0 ≤ dp.toInt ∧ 0 ≤ n.toInt ∧ sp.toInt + n.toInt ≤ (sN κ.1 a0 : Int) ∧ dp.toInt + n.toInt ≤ (sN κ.1 a1 : Int)) ∧ (∀ j : Nat, j < n.toInt.toNat → -128 ≤ (sI κ.1 a0 (sp.toInt.toNat + j)).toInt ∧ (sI κ.1 a0 (sp.toInt.toNat + j)).toInt ≤ 127) ∧ ∀ κ' : CS, κ' = (h_cpI κ.1 a0 a1 sp.toInt.toNat dp.toInt.toNat n.toInt.toNat, κ.2) → P κ') (kk : ∀ (κ' : CS) (H1 : Heap) (locs1 : List Loc) (cells1 slots1 : Nat), P κ' → CT R D t A H0 κ' H1 locs1 cells1 slots1 → W p l e R s m args below meth c H1 locs1 cells1 slots1 Q (F0 m (pc + 3) ls rest)) : W p l e R s m args below meth c H locs cells slots Q (F0 m pc ls (.int n :: .int dp :: va_rf q1 :: .int sp :: va_rf q0 :: rest)) := by
  obtain ⟨a0, rfl, a1, rfl, h0, h1, hb, hfit, h3⟩ := hw
  obtain ⟨i0, hi0⟩ := h_in (ph := phI) (t := t) h0.1
  obtain ⟨i1, hi1⟩ := h_in (ph := phI) (t := t) h1.1
  have hi2 := hi1
  rw [ent_arr (c := 20) (by rw [h0.2]; rfl) (by decide)] at hi0
  rw [ent_arr (c := 20) (by rw [h1.2]; rfl) (by decide)] at hi1
  refine va_copyi (ty := .byte) hF.1.1 hF.1.2.1 (hF.1.2.2.1.trans hls.symm) hF.1.2.2.2.1 (hF.1.2.2.2.2 _ w1) (hF.1.2.2.2.2 _ w2) (hF.1.2.2.2.2 _ w3) (hF.1.2.2.2.2 _ w4) hF.2.1 hH.1.1 hH.1.2.1 hH.1.2.2.1 i0 i1 0 0 hi0 hi1 rfl rfl rfl (fun q => by have := i_lt q; have k0 : (0 : Int32).toInt = 0 := rfl; omega) (fun q => by have := i_lt q; have k0 : (0 : Int32).toInt = 0 := rfl; omega) (fun q => by have := i_lt q; have k0 : (0 : Int32).toInt = 0 := rfl; omega) (by show sp.toInt.toNat + n.toInt.toNat ≤ sN κ.1 a0; omega) (by show dp.toInt.toNat + n.toInt.toNat ≤ sN κ.1 a1; omega) (fun j hj => fit_b (hfit j hj)) hfr hlo hdg (fun H1 l1 g1 g2 g3 => kk _ H1 l1 _ _ (h3 _ rfl) ⟨h_upd (h_set hH.1.2.1 h1.1 hi2 rfl ?_ (fun x hx => ent_cpI hx)) okT g1 g2 g3, hH.2⟩)
  rw [ent_arr (σ := h_cpI κ.1 a0 a1 sp.toInt.toNat dp.toInt.toNat n.toInt.toNat) (c := 20) (by show phI (sK κ.1 a1) = 20; rw [h1.2]; rfl) (by decide), show sI (h_cpI κ.1 a0 a1 sp.toInt.toNat dp.toInt.toNat n.toInt.toNat) a1 = va_cpy (sI κ.1 a0) (sI κ.1 a1) sp.toInt.toNat dp.toInt.toNat n.toInt.toNat from va_up_self _ _ _]
  rfl
theorem lst_cl {s : State} {H : Heap} {kb y : Nat} (hF : FX p m c cc nL s args own D t) (hP : va_P D cl1 (hWd phI t κ.1) H) (hkb : 8 ≤ kb ∧ kb ≤ 12) (hy : y ∈ sL κ.1) (hk : sK κ.1 y = kb) : ∃ (Cn : String) (cell : Cell), (Cn, "java/lang/Object") ∈ castL ∧ H[y]? = some cell ∧ cell.vm.isStatics = false ∧ s.vm.findClass Cn = some cell.cls ∧ Cn = ["ShareHouse$Asked", "ShareHouse$Lock", "ShareHouse$Open", "ShareHouse$Session", "ShareHouse$TreeLink"].getD (kb - 8) "" := by
  obtain ⟨qi, hq⟩ := h_in (ph := phI) (t := t) hy
  rw [ent_obj (c := kb) (by rw [hk]; rfl) (by omega)] at hq
  rcases (show kb = 8 ∨ kb = 9 ∨ kb = 10 ∨ kb = 11 ∨ kb = 12 by omega) with z | z | z | z | z <;> subst z
  · obtain ⟨cell, g1, g2, g3⟩ := va_recv hF.2.1 hP ci_X0.1 hq
    exact ⟨_, cell, by decide, g1, g2, g3, rfl⟩
  · obtain ⟨cell, g1, g2, g3⟩ := va_recv hF.2.1 hP ci_X3.1 hq
    exact ⟨_, cell, by decide, g1, g2, g3, rfl⟩
  · obtain ⟨cell, g1, g2, g3⟩ := va_recv hF.2.1 hP ci_X5.1 hq
    exact ⟨_, cell, by decide, g1, g2, g3, rfl⟩
  · obtain ⟨cell, g1, g2, g3⟩ := va_recv hF.2.1 hP ci_X7.1 hq
    exact ⟨_, cell, by decide, g1, g2, g3, rfl⟩
  · obtain ⟨cell, g1, g2, g3⟩ := va_recv hF.2.1 hP ci_X8.1 hq
    exact ⟨_, cell, by decide, g1, g2, g3, rfl⟩
theorem cw_copyQ {P : CS → Prop} {q0 q1 : Option Nat} {sp dp n : Int32} (hF : FX p m c cc nL s args own D t) (hH : CT R D t A H0 κ H locs cells slots) (w1 : Cond.methodLink own index arraycopyName ∈ big) (w2 : Cond.native arraycopyName ∈ big) (w3 : Cond.static arraycopyName ∈ big) (w4 : Cond.initialized "java/lang/System" ∈ big) (hfr : 1 ≤ R.frames) (hlo : (rest.map fun v => v.category).sum + (nativeFrameWords "java/lang/System" "arraycopy" 5 + 11) ≤ R.locals) (hls : ls.size = nL) (hdg : decode cc pc = .ok (.invokestatic index, 3)) (hw : ∃ a0 : Nat, q0 = some a0 ∧ ∃ a1 : Nat, q1 = some a1 ∧ (a0 ∈ sL κ.1 ∧ sK κ.1 a0 = 27) ∧ (a1 ∈ sL κ.1 ∧ sK κ.1 a1 = 27) ∧ (0 ≤ sp.toInt ∧ 0 ≤ dp.toInt ∧ 0 ≤ n.toInt ∧ sp.toInt + n.toInt ≤ (sN κ.1 a0 : Int) ∧ dp.toInt + n.toInt ≤ (sN κ.1 a1 : Int)) ∧ (∃ kb : Nat, (8 ≤ kb ∧ kb ≤ 12) ∧ ∀ j : Nat, j < n.toInt.toNat → ∀ y : Nat, sP κ.1 a0 (sp.toInt.toNat + j) = some y → y ∈ sL κ.1 ∧ sK κ.1 y = kb) ∧ ∀ κ' : CS, κ' = (h_cpP κ.1 a0 a1 sp.toInt.toNat dp.toInt.toNat n.toInt.toNat, κ.2) → P κ') (kk : ∀ (κ' : CS) (H1 : Heap) (locs1 : List Loc) (cells1 slots1 : Nat), P κ' → CT R D t A H0 κ' H1 locs1 cells1 slots1 → W p l e R s m args below meth c H1 locs1 cells1 slots1 Q (F0 m (pc + 3) ls rest)) : W p l e R s m args below meth c H locs cells slots Q (F0 m pc ls (.int n :: .int dp :: va_rf q1 :: .int sp :: va_rf q0 :: rest)) := by
  obtain ⟨a0, rfl, a1, rfl, h0, h1, hb, ⟨kb, hkb, hel⟩, h3⟩ := hw
  obtain ⟨i0, hi0⟩ := h_in (ph := phI) (t := t) h0.1
  obtain ⟨i1, hi1⟩ := h_in (ph := phI) (t := t) h1.1
  have hi2 := hi1
  rw [ent_q (p := 27) h0.2 (by decide)] at hi0
  rw [ent_q (p := 27) h1.2 (by decide)] at hi1
  have hca : ((["ShareHouse$Asked", "ShareHouse$Lock", "ShareHouse$Open", "ShareHouse$Session", "ShareHouse$TreeLink"] : List String).getD (kb - 8) "", "java/lang/Object") ∈ castL := by
    rcases (show kb = 8 ∨ kb = 9 ∨ kb = 10 ∨ kb = 11 ∨ kb = 12 by omega) with z | z | z | z | z <;> subst z <;> decide
  refine va_copyq (C := (["ShareHouse$Asked", "ShareHouse$Lock", "ShareHouse$Open", "ShareHouse$Session", "ShareHouse$TreeLink"] : List String).getD (kb - 8) "") hF.1.1 hF.1.2.1 (hF.1.2.2.1.trans hls.symm) hF.1.2.2.2.1 (hF.1.2.2.2.2 _ w1) (hF.1.2.2.2.2 _ w2) (hF.1.2.2.2.2 _ w3) (hF.1.2.2.2.2 _ w4) hF.2.1 hH.1.1 hH.1.2.1 hH.1.2.2.1 i0 i1 7 7 hi0 hi1 rfl rfl (fun q => by have := i_lt q; have k0 : (0 : Int32).toInt = 0 := rfl; omega) (fun q => by have := i_lt q; have k0 : (0 : Int32).toInt = 0 := rfl; omega) (fun q => by have := i_lt q; have k0 : (0 : Int32).toInt = 0 := rfl; omega) (by show sp.toInt.toNat + n.toInt.toNat ≤ sN κ.1 a0; omega) (by show dp.toInt.toNat + n.toInt.toNat ≤ sN κ.1 a1; omega) (fun j hj y hy => ?_) (fun comp c0 f1 f2 => ?_) hfr hlo hdg (fun H1 l1 g1 g2 g3 => kk _ H1 l1 _ _ (h3 _ rfl) ⟨h_upd (h_set hH.1.2.1 h1.1 hi2 rfl ?_ (fun x hx => ent_cpP hx)) okT g1 g2 g3, hH.2⟩)
  · obtain ⟨e1, e2⟩ := hel j hj y hy
    obtain ⟨Cn, cell, -, k2, k3, k4, k5⟩ := lst_cl hF hH.1.1 hkb e1 e2
    subst k5
    exact ⟨cell, k2, k3, k4⟩
  · obtain ⟨c2, t2, z1, z2, z3⟩ := Cond.castable_spec (va_Nw.use (A := args) rfl (hF.2.2.2.1 _ hca))
    cases f2.symm.trans z1
    cases f1.symm.trans z2
    exact z3
  rw [ent_q (σ := h_cpP κ.1 a0 a1 sp.toInt.toNat dp.toInt.toNat n.toInt.toNat) (p := 27) h1.2 (by decide), show sP (h_cpP κ.1 a0 a1 sp.toInt.toNat dp.toInt.toNat n.toInt.toNat) a1 = va_cpy (sP κ.1 a0) (sP κ.1 a1) sp.toInt.toNat dp.toInt.toNat n.toInt.toNat from va_up_self _ _ _]
  rfl
theorem cw_join {β : Type} {K : β → CS → Prop} {lv0 : List (Nat × Value)} (pc2 : Nat) (L0 : β → List (Nat × Value)) (S0 : β → List Value) {g : JFrame} (_ : lv_has ls nL lv0) (_ : CT R D t A H0 κ H locs cells slots)
    (body : ∀ (x : β) (κ : CS) (ls : Array Slot) (H : Heap) (locs : List Loc) (cells slots : Nat), lv_has ls nL (L0 x) → K x κ → CT R D t A H0 κ H locs cells slots → W p l e R s m args below meth c H locs cells slots Q (F0 m pc2 ls (S0 x)))
    (kk : (∀ (x : β) (κ : CS) (ls : Array Slot) (H : Heap) (locs : List Loc) (cells slots : Nat), lv_has ls nL (L0 x) → K x κ → CT R D t A H0 κ H locs cells slots → W p l e R s m args below meth c H locs cells slots Q (F0 m pc2 ls (S0 x))) → W p l e R s m args below meth c H locs cells slots Q g) : W p l e R s m args below meth c H locs cells slots Q g := kk body
theorem cw_loop {β : Type} {B : (β → CS → Prop) → β → CS → Prop} (L0 : β → List (Nat × Value)) (x : β) (hl : lv_has ls nL (L0 x)) (hw : lc B x κ) (hH : CT R D t A H0 κ H locs cells slots)
    (step : ∀ (K : β → CS → Prop) (x : β) (κ : CS) (ls : Array Slot) (H : Heap) (locs : List Loc) (cells slots : Nat), lv_has ls nL (L0 x) → B K x κ → CT R D t A H0 κ H locs cells slots → (∀ (x' : β) (κ' : CS) (ls : Array Slot) (H : Heap) (locs : List Loc) (cells slots : Nat), lv_has ls nL (L0 x') → K x' κ' → CT R D t A H0 κ' H locs cells slots → W p l e R s m args below meth c H locs cells slots Q (F0 m pc ls [])) → W p l e R s m args below meth c H locs cells slots Q (F0 m pc ls [])) : W p l e R s m args below meth c H locs cells slots Q (F0 m pc ls []) := by
  obtain ⟨I, μ, hI, hs⟩ := hw
  have key : ∀ (n : Nat) (x : β) (κ : CS) (ls : Array Slot) (H : Heap) (locs : List Loc) (cells slots : Nat), μ x κ < n → lv_has ls nL (L0 x) → I x κ → CT R D t A H0 κ H locs cells slots → W p l e R s m args below meth c H locs cells slots Q (F0 m pc ls []) := by
    intro n
    induction n with
    | zero => exact fun _ _ _ _ _ _ _ h => absurd h (Nat.not_lt_zero _)
    | succ n ih =>
      intro x κ ls H locs cells slots hn h1 h2 h3
      exact step _ x κ ls H locs cells slots h1 (hs x κ h2) h3 (fun x' κ' ls' H' locs' c' s' h4 h5 h6 => ih x' κ' ls' H' locs' c' s' (by have := h5.2; omega) h4 h5.1 h6)
  exact key (μ x κ + 1) x κ ls H locs cells slots (by omega) hl hI hH
theorem cw_getM {P : Int32 → Prop} {a : Nat} (hF : FX p m c cc nL s args own D t) (hH : CT R D t A H0 κ H locs cells slots) (w1 : Cond.fieldLink own index RJx4a65c "modCount" "I" ∈ big) (w2 : Cond.sameField RJx4a65c "java/util/AbstractList" "modCount" "I" ∈ big) (hdg : decode cc pc = .ok (.getfield index, 3)) (hw : (a ∈ sL κ.1 ∧ sK κ.1 a = 7) ∧ ∀ z : Int32, z = sI κ.1 a 0 → P z) (kk : ∀ z : Int32, P z → W p l e R s m args below meth c H locs cells slots Q (F0 m (pc + 3) ls (.int z :: rest))) : W p l e R s m args below meth c H locs cells slots Q (F0 m pc ls (.ref a :: rest)) := by
  obtain ⟨qi, hq⟩ := h_in (ph := phI) (t := t) hw.1.1
  rw [ent_obj (c := 7) (by rw [hw.1.2]; rfl) (by decide)] at hq
  refine va_get hF.1.1 hF.1.2.1 hF.1.2.2.2.2 ci_Jx4a65c.2.1 hF.1.2.2.2.1 hF.2.1 hH.1.1 qi hq ci_Jx4a65c.1 0 (by decide) (hF.1.2.2.2.2 _ w1) (u_same (hF.1.2.2.2.2 _ w2)) (v := .int (sI κ.1 a 0)) ?_ hdg (kk _ (hw.2 _ rfl))
  rw [flds_get (by decide)]
  rfl
theorem cw_putM {P : CS → Prop} {v : Int32} {a : Nat} (hF : FX p m c cc nL s args own D t) (hH : CT R D t A H0 κ H locs cells slots) (w1 : Cond.fieldLink own index RJx4a65c "modCount" "I" ∈ big) (w2 : Cond.sameField RJx4a65c "java/util/AbstractList" "modCount" "I" ∈ big) (hdg : decode cc pc = .ok (.putfield index, 3)) (hw : (a ∈ sL κ.1 ∧ sK κ.1 a = 7) ∧ ∀ κ' : CS, κ' = (h_uI κ.1 a 0 v, κ.2) → P κ') (kk : ∀ (κ' : CS) (H1 : Heap) (locs1 : List Loc) (cells1 slots1 : Nat), P κ' → CT R D t A H0 κ' H1 locs1 cells1 slots1 → W p l e R s m args below meth c H1 locs1 cells1 slots1 Q (F0 m (pc + 3) ls rest)) : W p l e R s m args below meth c H locs cells slots Q (F0 m pc ls (.int v :: .ref a :: rest)) := by
  obtain ⟨qi, hq⟩ := h_in (ph := phI) (t := t) hw.1.1
  have hq2 := hq
  rw [ent_obj (c := 7) (by rw [hw.1.2]; rfl) (by decide)] at hq
  refine va_put hF.1.1 hF.1.2.1 hF.1.2.2.2.2 ci_Jx4a65c.2.1 tyJx4a65c ci_Jx4a65c.2.2.1 ci_Jx4a65c.2.2.2 hF.1.2.2.2.1 hF.2.1 hH.1.1 hH.1.2.1 hH.1.2.2.1 qi hq ci_Jx4a65c.1 0 (by decide) (hF.1.2.2.2.2 _ w1) (u_same (hF.1.2.2.2.2 _ w2)) rfl (ci_Jx4a65c.2.2.1 0 (by decide)) rfl rfl (by rw [flds_len]; decide) hdg (fun H1 l1 h1 h2 h3 => kk (h_uI κ.1 a 0 v, κ.2) H1 l1 _ _ (hw.2 _ rfl) ⟨h_upd (h_set hH.1.2.1 hw.1.1 hq2 rfl ?_ (fun x hx => ent_uI hx)) okT h1 h2 h3, hH.2⟩)
  rw [ent_obj (σ := h_uI κ.1 a 0 v) (c := 7) (by show phI (sK κ.1 a) = 7; rw [hw.1.2]; rfl) (by decide)]
  congr 2
  refine (flds_set (by decide) ?_ (fun i hi => ?_)).symm
  · show fv (fkc 7 0) (u2 (sI κ.1) a 0 v a 0) _ _ = _
    rw [u2_same]
    rfl
  · show fv (fkc 7 i) (u2 (sI κ.1) a 0 v a i) _ _ = _
    rw [u2_pl hi]
    rfl
variable {y : MethodName} {bytes : ByteArray} {maxL n : Nat} {ret : Option FieldType} {As st0 : List Value} {fr lo : Nat}
theorem cw_cViq {post : Int32 → CS → Prop} {Fc : Nat → Prop} (hF : FX p m c cc nL s args own D t) (hH : CT R D t A s.heap κ H locs cells slots) (hA : ∀ q, s.heap.size ≤ q → A q) (hE : EZ G A s s.heap) (hm : MV own index C y bytes maxL ret n) (hC : CI ci C T N ty) (hci : ci < 20) (hw : ∃ b : Nat, q = some b ∧ (b ∈ sL κ.1 ∧ sK κ.1 b = ci) ∧ Fc b) (hM : ∀ b, Fc b → ∀ sz, CMi l D t y bytes maxL ret fr lo G κ sz (.ref b :: As) post) (hdg : decode cc pc = .ok (.invokevirtual index, 3)) (hRm : fr + 1 ≤ R.frames ∧ 8 + (maxL + 11) + lo ≤ R.locals) (hn : As.length = n) (hls : ls.size = nL) (hW : (rest.map fun v => v.category).sum ≤ 8) (hst : st0 = As.reverse ++ va_rf q :: rest)
    (kk : ∀ (r : Int32) (κ' : CS) (H1 : Heap) (locs1 : List Loc) (cells1 slots1 : Nat), post r κ' → CT R D t A s.heap κ' H1 locs1 cells1 slots1 → W p l e R s m args below meth c H1 locs1 cells1 slots1 Q (F0 m (pc + 3) ls (.int r :: rest))) : W p l e R s m args below meth c H locs cells slots Q (F0 m pc ls st0) := by
  obtain ⟨b, rfl, hb, hw⟩ := hw
  exact cw_cVi hF hH hA hE hm hC hci (hM b hw) hdg hb hRm hn hls hW hst kk
theorem cw_cVlq {post : Int64 → CS → Prop} {Fc : Nat → Prop} (hF : FX p m c cc nL s args own D t) (hH : CT R D t A s.heap κ H locs cells slots) (hA : ∀ q, s.heap.size ≤ q → A q) (hE : EZ G A s s.heap) (hm : MV own index C y bytes maxL ret n) (hC : CI ci C T N ty) (hci : ci < 20) (hw : ∃ b : Nat, q = some b ∧ (b ∈ sL κ.1 ∧ sK κ.1 b = ci) ∧ Fc b) (hM : ∀ b, Fc b → ∀ sz, CMl l D t y bytes maxL ret fr lo G κ sz (.ref b :: As) post) (hdg : decode cc pc = .ok (.invokevirtual index, 3)) (hRm : fr + 1 ≤ R.frames ∧ 8 + (maxL + 11) + lo ≤ R.locals) (hn : As.length = n) (hls : ls.size = nL) (hW : (rest.map fun v => v.category).sum ≤ 8) (hst : st0 = As.reverse ++ va_rf q :: rest)
    (kk : ∀ (r : Int64) (κ' : CS) (H1 : Heap) (locs1 : List Loc) (cells1 slots1 : Nat), post r κ' → CT R D t A s.heap κ' H1 locs1 cells1 slots1 → W p l e R s m args below meth c H1 locs1 cells1 slots1 Q (F0 m (pc + 3) ls (.long r :: rest))) : W p l e R s m args below meth c H locs cells slots Q (F0 m pc ls st0) := by
  obtain ⟨b, rfl, hb, hw⟩ := hw
  exact cw_cVl hF hH hA hE hm hC hci (hM b hw) hdg hb hRm hn hls hW hst kk
theorem cw_cVqq {post : Option Nat → CS → Prop} {Fc : Nat → Prop} (hF : FX p m c cc nL s args own D t) (hH : CT R D t A s.heap κ H locs cells slots) (hA : ∀ q, s.heap.size ≤ q → A q) (hE : EZ G A s s.heap) (hm : MV own index C y bytes maxL ret n) (hC : CI ci C T N ty) (hci : ci < 20) (hw : ∃ b : Nat, q = some b ∧ (b ∈ sL κ.1 ∧ sK κ.1 b = ci) ∧ Fc b) (hM : ∀ b, Fc b → ∀ sz, CMq l D t y bytes maxL ret fr lo G κ sz (.ref b :: As) post) (hdg : decode cc pc = .ok (.invokevirtual index, 3)) (hRm : fr + 1 ≤ R.frames ∧ 8 + (maxL + 11) + lo ≤ R.locals) (hn : As.length = n) (hls : ls.size = nL) (hW : (rest.map fun v => v.category).sum ≤ 8) (hst : st0 = As.reverse ++ va_rf q :: rest)
    (kk : ∀ (r : Option Nat) (κ' : CS) (H1 : Heap) (locs1 : List Loc) (cells1 slots1 : Nat), post r κ' → CT R D t A s.heap κ' H1 locs1 cells1 slots1 → W p l e R s m args below meth c H1 locs1 cells1 slots1 Q (F0 m (pc + 3) ls (va_rf r :: rest))) : W p l e R s m args below meth c H locs cells slots Q (F0 m pc ls st0) := by
  obtain ⟨b, rfl, hb, hw⟩ := hw
  exact cw_cVq hF hH hA hE hm hC hci (hM b hw) hdg hb hRm hn hls hW hst kk
theorem cw_cVvq {post : CS → Prop} {Fc : Nat → Prop} (hF : FX p m c cc nL s args own D t) (hH : CT R D t A s.heap κ H locs cells slots) (hA : ∀ q, s.heap.size ≤ q → A q) (hE : EZ G A s s.heap) (hm : MV own index C y bytes maxL none n) (hC : CI ci C T N ty) (hci : ci < 20) (hw : ∃ b : Nat, q = some b ∧ (b ∈ sL κ.1 ∧ sK κ.1 b = ci) ∧ Fc b) (hM : ∀ b, Fc b → ∀ sz, CMv l D t y bytes maxL fr lo G κ sz (.ref b :: As) post) (hdg : decode cc pc = .ok (.invokevirtual index, 3)) (hRm : fr + 1 ≤ R.frames ∧ 8 + (maxL + 11) + lo ≤ R.locals) (hn : As.length = n) (hls : ls.size = nL) (hW : (rest.map fun v => v.category).sum ≤ 8) (hst : st0 = As.reverse ++ va_rf q :: rest)
    (kk : ∀ (κ' : CS) (H1 : Heap) (locs1 : List Loc) (cells1 slots1 : Nat), post κ' → CT R D t A s.heap κ' H1 locs1 cells1 slots1 → W p l e R s m args below meth c H1 locs1 cells1 slots1 Q (F0 m (pc + 3) ls (rest))) : W p l e R s m args below meth c H locs cells slots Q (F0 m pc ls st0) := by
  obtain ⟨b, rfl, hb, hw⟩ := hw
  exact cw_cVv hF hH hA hE hm hC hci (hM b hw) hdg hb hRm hn hls hW hst kk
theorem cw_mmax {P : Int32 → Prop} {x y : Int32} (hF : FX p m c cc nL s args own D t) (hH : CT R D t A H0 κ H locs cells slots) (hls : ls.size = nL) (w1 : Cond.methodLink own index Lib.Math.max.name ∈ big) (w2 : Cond.static Lib.Math.max.name ∈ big) (w3 : Cond.initialized "java/lang/Math" ∈ big) (w4 : Cond.code Lib.Math.max.name Lib.Math.max.code 2 (some .int) ∈ big) (hfr : 1 ≤ R.frames) (hlo : (rest.map fun v => v.category).sum + 13 ≤ R.locals) (hdg : decode cc pc = .ok (.invokestatic index, 3)) (hw : ∀ z : Int32, z.toInt = max x.toInt y.toInt → P z) (kk : ∀ z : Int32, P z → W p l e R s m args below meth c H locs cells slots Q (F0 m (pc + 3) ls (.int z :: rest))) : W p l e R s m args below meth c H locs cells slots Q (F0 m pc ls (.int y :: .int x :: rest)) := by
  refine va_mmax hF.1.1 hF.1.2.1 (hF.1.2.2.1.trans hls.symm) hF.1.2.2.2.1 (hF.1.2.2.2.2 _ w1) (hF.1.2.2.2.2 _ w2) (hF.1.2.2.2.2 _ w3) (hF.1.2.2.2.2 _ w4) hfr hlo (by have := hH.2.1; omega) (by have := hH.2.2; omega) hdg (kk _ (hw _ ?_))
  by_cases h : x < y
  · rw [if_pos h]
    have := Int32.lt_iff_toInt_lt.mp h
    omega
  · rw [if_neg h]
    have : ¬ _ := fun q => h (Int32.lt_iff_toInt_lt.mpr q)
    omega
theorem cw_mmin {P : Int32 → Prop} {x y : Int32} (hF : FX p m c cc nL s args own D t) (hH : CT R D t A H0 κ H locs cells slots) (hls : ls.size = nL) (w1 : Cond.methodLink own index Lib.Math.min.name ∈ big) (w2 : Cond.static Lib.Math.min.name ∈ big) (w3 : Cond.initialized "java/lang/Math" ∈ big) (w4 : Cond.code Lib.Math.min.name Lib.Math.min.code 2 (some .int) ∈ big) (hfr : 1 ≤ R.frames) (hlo : (rest.map fun v => v.category).sum + 13 ≤ R.locals) (hdg : decode cc pc = .ok (.invokestatic index, 3)) (hw : ∀ z : Int32, z.toInt = min x.toInt y.toInt → P z) (kk : ∀ z : Int32, P z → W p l e R s m args below meth c H locs cells slots Q (F0 m (pc + 3) ls (.int z :: rest))) : W p l e R s m args below meth c H locs cells slots Q (F0 m pc ls (.int y :: .int x :: rest)) := by
  refine va_mmin hF.1.1 hF.1.2.1 (hF.1.2.2.1.trans hls.symm) hF.1.2.2.2.1 (hF.1.2.2.2.2 _ w1) (hF.1.2.2.2.2 _ w2) (hF.1.2.2.2.2 _ w3) (hF.1.2.2.2.2 _ w4) hfr hlo (by have := hH.2.1; omega) (by have := hH.2.2; omega) hdg (kk _ (hw _ ?_))
  by_cases h : y < x
  · rw [if_pos h]
    have := Int32.lt_iff_toInt_lt.mp h
    omega
  · rw [if_neg h]
    have : ¬ _ := fun q => h (Int32.lt_iff_toInt_lt.mpr q)
    omega
theorem cw_mminl {P : Int64 → Prop} {x y : Int64} (hF : FX p m c cc nL s args own D t) (hH : CT R D t A H0 κ H locs cells slots) (hls : ls.size = nL) (w1 : Cond.methodLink own index Lib.MathLoose.min_long.x ∈ big) (w2 : Cond.static Lib.MathLoose.min_long.x ∈ big) (w3 : Cond.initialized "java/lang/Math" ∈ big) (w4 : Cond.code Lib.MathLoose.min_long.x Lib.MathLoose.min_long.code 4 (some .long) ∈ big) (hfr : 1 ≤ R.frames) (hlo : (rest.map fun v => v.category).sum + 15 ≤ R.locals) (hdg : decode cc pc = .ok (.invokestatic index, 3)) (hw : ∀ z : Int64, z.toInt = min x.toInt y.toInt → P z) (kk : ∀ z : Int64, P z → W p l e R s m args below meth c H locs cells slots Q (F0 m (pc + 3) ls (.long z :: rest))) : W p l e R s m args below meth c H locs cells slots Q (F0 m pc ls (.long y :: .long x :: rest)) := by
  refine va_mmin_long hF.1.1 hF.1.2.1 (hF.1.2.2.1.trans hls.symm) hF.1.2.2.2.1 (hF.1.2.2.2.2 _ w1) (hF.1.2.2.2.2 _ w2) (hF.1.2.2.2.2 _ w3) (hF.1.2.2.2.2 _ w4) hfr hlo (by have := hH.2.1; omega) (by have := hH.2.2; omega) hdg (kk _ (hw _ ?_))
  by_cases h : y < x
  · rw [if_pos h]
    have := Int64.lt_iff_toInt_lt.mp h
    omega
  · rw [if_neg h]
    have : ¬ _ := fun q => h (Int64.lt_iff_toInt_lt.mpr q)
    omega
theorem cw_mabsl {P : Int64 → Prop} {x : Int64} (hF : FX p m c cc nL s args own D t) (hH : CT R D t A H0 κ H locs cells slots) (hls : ls.size = nL) (w1 : Cond.methodLink own index Lib.MathLoose.abs_long.x ∈ big) (w2 : Cond.static Lib.MathLoose.abs_long.x ∈ big) (w3 : Cond.initialized "java/lang/Math" ∈ big) (w4 : Cond.code Lib.MathLoose.abs_long.x Lib.MathLoose.abs_long.code 2 (some .long) ∈ big) (hfr : 1 ≤ R.frames) (hlo : (rest.map fun v => v.category).sum + 13 ≤ R.locals) (hdg : decode cc pc = .ok (.invokestatic index, 3)) (hw : ∀ z : Int64, z = (if 0 < x then x else -x) → P z) (kk : ∀ z : Int64, P z → W p l e R s m args below meth c H locs cells slots Q (F0 m (pc + 3) ls (.long z :: rest))) : W p l e R s m args below meth c H locs cells slots Q (F0 m pc ls (.long x :: rest)) := by
  refine va_mabs_long hF.1.1 hF.1.2.1 (hF.1.2.2.1.trans hls.symm) hF.1.2.2.2.1 (hF.1.2.2.2.2 _ w1) (hF.1.2.2.2.2 _ w2) (hF.1.2.2.2.2 _ w3) (hF.1.2.2.2.2 _ w4) hfr hlo (by have := hH.2.1; omega) (by have := hH.2.2; omega) hdg (kk _ (hw _ ?_))
  rfl
theorem cw_ldcS (hF : FX p m c cc nL s args own D t) (hH : CT R D t A s.heap κ H locs cells slots) (hE : EZ G A s s.heap) (ho : own = "ShareHouse$Wish") (hi : index = 64) (hdg : decode cc pc = .ok (.ldc index, 2)) (kk : W p l e R s m args below meth c H locs cells slots Q (F0 m (pc + 2) ls (.ref G.2.2.2.2.2.1 :: rest))) : W p l e R s m args below meth c H locs cells slots Q (F0 m pc ls rest) := by
  subst ho
  subst hi
  exact va_ldcS hF.1.1 hF.1.2.1 hF.1.2.2.2.1 hE.2.2.2.2.2.2.2.2.2.1 hdg kk
theorem cw_strV (hF : FX p m c cc nL s args own D t) (hH : CT R D t A s.heap κ H locs cells slots) (hE : EZ G A s s.heap) (w1 : Cond.fieldLink own index "java/lang/String" "value" "[B" ∈ big) (hdg : decode cc pc = .ok (.getfield index, 3)) (kk : W p l e R s m args below meth c H locs cells slots Q (F0 m (pc + 3) ls (.ref G.2.2.2.2.2.2 :: rest))) : W p l e R s m args below meth c H locs cells slots Q (F0 m pc ls (.ref G.2.2.2.2.2.1 :: rest)) :=
  vk_getf hF.1.1 hF.1.2.1 hE.2.2.2.2.2.2.2.1 hH.1.2.2.1 hF.1.2.2.2.1 (hF.1.2.2.2.2 _ w1) (fun _ h => h) hdg kk
theorem cw_strC (hF : FX p m c cc nL s args own D t) (hH : CT R D t A s.heap κ H locs cells slots) (hE : EZ G A s s.heap) (w1 : Cond.fieldLink own index "java/lang/String" "coder" "B" ∈ big) (hdg : decode cc pc = .ok (.getfield index, 3)) (kk : W p l e R s m args below meth c H locs cells slots Q (F0 m (pc + 3) ls (.int 0 :: rest))) : W p l e R s m args below meth c H locs cells slots Q (F0 m pc ls (.ref G.2.2.2.2.2.1 :: rest)) :=
  vk_getf hF.1.1 hF.1.2.1 hE.2.2.2.2.2.2.1 hH.1.2.2.1 hF.1.2.2.2.1 (hF.1.2.2.2.2 _ w1) (fun _ h => h) hdg kk
theorem cw_getsC (hF : FX p m c cc nL s args own D t) (hH : CT R D t A s.heap κ H locs cells slots) (hE : EZ G A s s.heap) (w1 : Cond.fieldLink own index "java/lang/String" "COMPACT_STRINGS" "Z" ∈ big) (hdg : decode cc pc = .ok (.getstatic index, 3)) (kk : W p l e R s m args below meth c H locs cells slots Q (F0 m (pc + 3) ls (.int 1 :: rest))) : W p l e R s m args below meth c H locs cells slots Q (F0 m pc ls rest) :=
  va_gets hF.1.1 hF.1.2.1 hE.2.2.2.2.2.2.2.2.2.2 hH.1.2.2.1 hF.1.2.2.2.1 (hF.1.2.2.2.2 _ w1) (fun _ h => h) hdg kk
theorem cw_ldcM (hF : FX p m c cc nL s args own D t) (hH : CT R D t A s.heap κ H locs cells slots) (hE : EZ G A s s.heap) (w1 : Cond.classLink own index "[Ljava/lang/Object;" ∈ big) (hdg : decode cc pc = .ok (.ldc index, 2)) (kk : W p l e R s m args below meth c H locs cells slots Q (F0 m (pc + 2) ls (.ref G.2.2.2.2.1 :: rest))) : W p l e R s m args below meth c H locs cells slots Q (F0 m pc ls rest) :=
  va_ldcM hF.1.1 hF.1.2.1 hF.1.2.2.2.1 (hF.1.2.2.2.2 _ w1) hE.2.2.2.2.1.1 hdg kk
theorem cw_getC {P1 : Prop} (hF : FX p m c cc nL s args own D t) (hH : CT R D t A s.heap κ H locs cells slots) (hE : EZ G A s s.heap) (hls : ls.size = nL) (w1 : Cond.methodLink own index gcN ∈ big) (hfr : 1 ≤ R.frames) (hlo : (rest.map fun v => v.category).sum + 14 ≤ R.locals) (hdg : decode cc pc = .ok (.invokevirtual index, 3)) (hw : ∃ a : Nat, q = some a ∧ (a ∈ sL κ.1 ∧ sK κ.1 a = 27) ∧ P1) (kk : P1 → W p l e R s m args below meth c H locs cells slots Q (F0 m (pc + 3) ls (.ref G.2.2.2.2.1 :: rest))) : W p l e R s m args below meth c H locs cells slots Q (F0 m pc ls (va_rf q :: rest)) := by
  obtain ⟨a, rfl, h1, hw⟩ := hw
  obtain ⟨e1, e2, e3, e4, e5⟩ := hE.2.2.2.2.1
  obtain ⟨qi, hq⟩ := h_in (ph := phI) (t := t) h1.1
  rw [ent_q (p := 27) h1.2 (by decide)] at hq
  have hcell := hH.1.1 qi _ hq
  refine va_getC (C := "[Ljava/lang/Object;") hF.1.1 hF.1.2.1 (hF.1.2.2.1.trans hls.symm) hF.1.2.2.2.1 (hF.1.2.2.2.2 _ w1) (va_Dc.use e2) (word_at (State.WarmedH.refl s) (Or.inl rfl) e3) (word_at (State.WarmedH.refl s) (Or.inl rfl) e4) (word_at (State.WarmedH.refl s) (Or.inl rfl) e5) e1 ⟨_, hcell, rfl, ?_⟩ hfr hlo hdg (kk hw)
  obtain ⟨kA, comp, k1, k2, k3, k4⟩ := (hF.2.1.2 7 (t 7, .object "java/lang/Object") rfl).2
  exact k4
variable {y : MethodName} {bytes : ByteArray} {maxL n : Nat} {ret : Option FieldType} {As st0 : List Value} {fr lo : Nat}
theorem cw_cViS {post : Int32 → CS → Prop} (hF : FX p m c cc nL s args own D t) (hH : CT R D t A s.heap κ H locs cells slots) (hA : ∀ q, s.heap.size ≤ q → A q) (hE : EZ G A s s.heap) (hm : MV own index "java/lang/String" y bytes maxL ret n) (hM : ∀ sz, CMi l D t y bytes maxL ret fr lo G κ sz (.ref G.2.2.2.2.2.1 :: As) post) (hdg : decode cc pc = .ok (.invokevirtual index, 3)) (hRm : fr + 1 ≤ R.frames ∧ 8 + (maxL + 11) + lo ≤ R.locals) (hn : As.length = n) (hls : ls.size = nL) (hW : (rest.map fun v => v.category).sum ≤ 8) (hst : st0 = As.reverse ++ .ref G.2.2.2.2.2.1 :: rest)
    (kk : ∀ (r : Int32) (κ' : CS) (H1 : Heap) (locs1 : List Loc) (cells1 slots1 : Nat), post r κ' → CT R D t A s.heap κ' H1 locs1 cells1 slots1 → W p l e R s m args below meth c H1 locs1 cells1 slots1 Q (F0 m (pc + 3) ls (.int r :: rest))) : W p l e R s m args below meth c H locs cells slots Q (F0 m pc ls st0) := by
  obtain ⟨⟨w1, w2, w3, w4, w5⟩, hd⟩ := hm
  obtain ⟨cell, c1, c2, c3, -⟩ := hE.2.2.2.2.2.1.kept hH.1.2.2.1.2.1
  refine callB_i (runB_V hF.1 (hM H.size) (cwV n hF.1.2.2.2.2 (gwV w1 w2 w3 w4 w5) rfl rfl rfl hd hRm) ⟨CPc_blind, ⟨cell, c1, c2, c3⟩, CPc_at hF hH hA hE⟩ rfl hn hls hst (lv_room hW) hdg ⟨hH.2.1, hH.2.2⟩) hH.1.2.2.1 (fun q _ h => c_ain hH hA q h) (c_ain hH hA) (fun mc ms x u t1 H1 locs1 ht _ hw hB _ _ hS1 => ?_)
  obtain ⟨h2, h3, h4⟩ := hw
  obtain ⟨b1, b2⟩ := hB
  rw [ht] at b1
  obtain ⟨g1, g2⟩ := hH.2
  exact kk x u H1 locs1 _ _ h2 ⟨⟨b1, b2.weaken (fun k q _ h => c_ain hH hA q.1 h), hS1, okT⟩, by omega, by omega⟩
theorem nar_b {x : Int32} (h : -128 ≤ x.toInt ∧ x.toInt ≤ 127) : narrow .byte (.int x) = .int x := by
  have e : x.toInt8.toInt32 = x := by
    apply Int32.toInt_inj.mp
    rw [Int8.toInt_toInt32, Int32.toInt_toInt8]
    rw [Int.bmod_def]
    have e : ((2 ^ 8 : Nat) : Int) = 256 := rfl
    rw [e]
    split <;> omega
  rw [← e]
  exact pk_nb x
end R43
theorem df_X11 : ∀ j, j < 18 → defaultValue (tyX11 j) = fv (fkc 1 j) 0 0 none := fun j hj => by
  rcases (show j = 0 ∨ j = 1 ∨ j = 2 ∨ j = 3 ∨ j = 4 ∨ j = 5 ∨ j = 6 ∨ j = 7 ∨ j = 8 ∨ j = 9 ∨ j = 10 ∨ j = 11 ∨ j = 12 ∨ j = 13 ∨ j = 14 ∨ j = 15 ∨ j = 16 ∨ j = 17 by omega) with z | z | z | z | z | z | z | z | z | z | z | z | z | z | z | z | z | z <;> (subst z; rfl)
theorem df_X6 : ∀ j, j < 2 → defaultValue (tyX6 j) = fv (fkc 2 j) 0 0 none := fun j hj => by
  rcases (show j = 0 ∨ j = 1 by omega) with z | z <;> (subst z; rfl)
theorem df_X2 : ∀ j, j < 15 → defaultValue (tyX2 j) = fv (fkc 3 j) 0 0 none := fun j hj => by
  rcases (show j = 0 ∨ j = 1 ∨ j = 2 ∨ j = 3 ∨ j = 4 ∨ j = 5 ∨ j = 6 ∨ j = 7 ∨ j = 8 ∨ j = 9 ∨ j = 10 ∨ j = 11 ∨ j = 12 ∨ j = 13 ∨ j = 14 by omega) with z | z | z | z | z | z | z | z | z | z | z | z | z | z | z <;> (subst z; rfl)
theorem df_X1 : ∀ j, j < 15 → defaultValue (tyX1 j) = fv (fkc 4 j) 0 0 none := fun j hj => by
  rcases (show j = 0 ∨ j = 1 ∨ j = 2 ∨ j = 3 ∨ j = 4 ∨ j = 5 ∨ j = 6 ∨ j = 7 ∨ j = 8 ∨ j = 9 ∨ j = 10 ∨ j = 11 ∨ j = 12 ∨ j = 13 ∨ j = 14 by omega) with z | z | z | z | z | z | z | z | z | z | z | z | z | z | z <;> (subst z; rfl)
theorem df_X4 : ∀ j, j < 14 → defaultValue (tyX4 j) = fv (fkc 5 j) 0 0 none := fun j hj => by
  rcases (show j = 0 ∨ j = 1 ∨ j = 2 ∨ j = 3 ∨ j = 4 ∨ j = 5 ∨ j = 6 ∨ j = 7 ∨ j = 8 ∨ j = 9 ∨ j = 10 ∨ j = 11 ∨ j = 12 ∨ j = 13 by omega) with z | z | z | z | z | z | z | z | z | z | z | z | z | z <;> (subst z; rfl)
theorem df_X9 : ∀ j, j < 2 → defaultValue (tyX9 j) = fv (fkc 6 j) 0 0 none := fun j hj => by
  rcases (show j = 0 ∨ j = 1 by omega) with z | z <;> (subst z; rfl)
theorem df_Jx4a65c : ∀ j, j < 3 → defaultValue (tyJx4a65c j) = fv (fkc 7 j) 0 0 none := fun j hj => by
  rcases (show j = 0 ∨ j = 1 ∨ j = 2 by omega) with z | z | z <;> (subst z; rfl)
theorem df_X0 : ∀ j, j < 21 → defaultValue (tyX0 j) = fv (fkc 8 j) 0 0 none := fun j hj => by
  rcases (show j = 0 ∨ j = 1 ∨ j = 2 ∨ j = 3 ∨ j = 4 ∨ j = 5 ∨ j = 6 ∨ j = 7 ∨ j = 8 ∨ j = 9 ∨ j = 10 ∨ j = 11 ∨ j = 12 ∨ j = 13 ∨ j = 14 ∨ j = 15 ∨ j = 16 ∨ j = 17 ∨ j = 18 ∨ j = 19 ∨ j = 20 by omega) with z | z | z | z | z | z | z | z | z | z | z | z | z | z | z | z | z | z | z | z | z <;> (subst z; rfl)
theorem df_X3 : ∀ j, j < 4 → defaultValue (tyX3 j) = fv (fkc 9 j) 0 0 none := fun j hj => by
  rcases (show j = 0 ∨ j = 1 ∨ j = 2 ∨ j = 3 by omega) with z | z | z | z <;> (subst z; rfl)
theorem df_X5 : ∀ j, j < 15 → defaultValue (tyX5 j) = fv (fkc 10 j) 0 0 none := fun j hj => by
  rcases (show j = 0 ∨ j = 1 ∨ j = 2 ∨ j = 3 ∨ j = 4 ∨ j = 5 ∨ j = 6 ∨ j = 7 ∨ j = 8 ∨ j = 9 ∨ j = 10 ∨ j = 11 ∨ j = 12 ∨ j = 13 ∨ j = 14 by omega) with z | z | z | z | z | z | z | z | z | z | z | z | z | z | z <;> (subst z; rfl)
theorem df_X7 : ∀ j, j < 5 → defaultValue (tyX7 j) = fv (fkc 11 j) 0 0 none := fun j hj => by
  rcases (show j = 0 ∨ j = 1 ∨ j = 2 ∨ j = 3 ∨ j = 4 by omega) with z | z | z | z | z <;> (subst z; rfl)
theorem df_X8 : ∀ j, j < 4 → defaultValue (tyX8 j) = fv (fkc 12 j) 0 0 none := fun j hj => by
  rcases (show j = 0 ∨ j = 1 ∨ j = 2 ∨ j = 3 by omega) with z | z | z | z <;> (subst z; rfl)
theorem df_X10 : ∀ j, j < 13 → defaultValue (tyX10 j) = fv (fkc 13 j) 0 0 none := fun j hj => by
  rcases (show j = 0 ∨ j = 1 ∨ j = 2 ∨ j = 3 ∨ j = 4 ∨ j = 5 ∨ j = 6 ∨ j = 7 ∨ j = 8 ∨ j = 9 ∨ j = 10 ∨ j = 11 ∨ j = 12 by omega) with z | z | z | z | z | z | z | z | z | z | z | z | z <;> (subst z; rfl)
theorem min_X11_9 : MIN RX11 9 yX6_init cX6_init 1 0 "ShareHouse" := ⟨⟨List.mem_of_getElem? (i := 0) rfl, wc_5 28 rfl, wc_5 6 rfl, wc_5 27 rfl⟩, by decide +kernel⟩
theorem min_X11_77 : MIN RX11 77 yX2_init cX2_init 1 0 "ShareHouse" := ⟨⟨List.mem_of_getElem? (i := 1) rfl, wc_7 28 rfl, wc_7 25 rfl, wc_7 27 rfl⟩, by decide +kernel⟩
theorem min_X2_11 : MIN RX2 11 yX6_init cX6_init 1 0 "ShareHouse" := ⟨⟨List.mem_of_getElem? (i := 2) rfl, wc_5 28 rfl, wc_5 6 rfl, wc_5 27 rfl⟩, by decide +kernel⟩
theorem min_X11_78 : MIN RX11 78 yX1_init cX1_init 1 0 "ShareHouse" := ⟨⟨List.mem_of_getElem? (i := 3) rfl, wc_12 1 rfl, wc_7 29 rfl, wc_12 0 rfl⟩, by decide +kernel⟩
theorem msn_X3_24 : MSN RX3 24 yX11_below cX11_below 4 (some .boolean) 2 "ShareHouse" := ⟨⟨List.mem_of_getElem? (i := 4) rfl, wc_15 7 rfl, wc_6 3 rfl, wc_15 6 rfl⟩, by decide +kernel⟩
theorem msn_X9_41 : MSN RX9 41 yX11_upper cX11_upper 1 (some .int) 1 "ShareHouse" := ⟨⟨List.mem_of_getElem? (i := 5) rfl, wc_10 30 rfl, wc_6 3 rfl, wc_10 29 rfl⟩, by decide +kernel⟩
theorem min_X11_633 : MIN RX11 633 yX10_init cX10_init 1 0 "ShareHouse" := ⟨⟨List.mem_of_getElem? (i := 6) rfl, wc_27 14 rfl, wc_6 37 rfl, wc_27 13 rfl⟩, by decide +kernel⟩
theorem msn_X5_67 : MSN RX5 67 yX11_upper cX11_upper 1 (some .int) 1 "ShareHouse" := ⟨⟨List.mem_of_getElem? (i := 7) rfl, wc_10 30 rfl, wc_6 3 rfl, wc_10 29 rfl⟩, by decide +kernel⟩
theorem msn_X4_73 : MSN RX4 73 yX11_upper cX11_upper 1 (some .int) 1 "ShareHouse" := ⟨⟨List.mem_of_getElem? (i := 8) rfl, wc_10 30 rfl, wc_6 3 rfl, wc_10 29 rfl⟩, by decide +kernel⟩

/-! lifting: each method has a formula of its own; rows that go in step with it -/
def τT : TS := (fun _ _ => -2147483648, fun _ _ => 2147483647, fun _ _ => 999, fun _ _ => true, fun _ _ => True)
theorem okT {ph : Nat → Nat} {σ : HS} : OK ph τT σ := fun _ _ => ⟨Or.inr trivial, fun _ _ => ⟨fun _ => i_range _, fun _ => Or.inl rfl⟩⟩
/-- what comes behind a place where ways meet -/
def jn {β : Type} (B : (β → HS → Prop) → Prop) (D : β → HS → Prop) : Prop := B D
theorem jn_open {β : Type} {B : (β → HS → Prop) → Prop} {D : β → HS → Prop} (h : jn B D) : ∃ K : β → HS → Prop, (∀ x σ, K x σ → D x σ) ∧ B K := ⟨D, fun _ _ h => h, h⟩
theorem jn_in {β : Type} {B : (β → HS → Prop) → Prop} {D : β → HS → Prop} (J : β → HS → Prop) (hD : ∀ x σ, J x σ → D x σ) (hB : ∀ K : β → HS → Prop, (∀ x σ, J x σ → K x σ) → B K) : jn B D := hB D hD
/-- a loop: something holds at its head, and something falls -/
def lw {β : Type} (B : (β → HS → Prop) → β → HS → Prop) (x : β) (σ : HS) : Prop := ∃ (I : β → HS → Prop) (μ : β → HS → Nat), I x σ ∧ ∀ x σ, I x σ → B (fun x' σ' => I x' σ' ∧ μ x' σ' < μ x σ) x σ
theorem lw_in {β : Type} {B : (β → HS → Prop) → β → HS → Prop} {x : β} {σ : HS} (I : β → HS → Prop) (μ : β → HS → Nat) (h0 : I x σ) (hs : ∀ x σ, I x σ → ∀ K : β → HS → Prop, (∀ x' σ', I x' σ' → μ x' σ' < μ x σ → K x' σ') → B K x σ) : lw B x σ := ⟨I, μ, h0, fun x σ h => hs x σ h _ (fun _ _ a b => ⟨a, b⟩)⟩
def RT (D : va_G) (t : Nat → ClassId) (A : Nat → Prop) (H0 : Heap) (h0 : Nat) (L : Nat → Nat) (σ : HS) (H : Heap) (locs : List Loc) : Prop := HT ph τT D t A H0 σ H locs ∧ MdI h0 L σ
abbrev RMv (l : Launch) (D : va_G) (t : Nat → ClassId) (y : MethodName) (bytes : ByteArray) (maxL : Nat) (rm : Room) (h0 : Nat) (L : Nat → Nat) (σ : HS) (sz : Nat) (av : List Value) (post : HS → Prop) : Prop := Met l y (Cond.code y bytes maxL none :: big) rm (PC D t (hWd ph t σ) sz av) (va_Qv (fun σ' => MdI h0 L σ' ∧ post σ') (hB ph D t σ sz) (va_A (hWd ph t σ) sz)) 0 0 (va_A (hWd ph t σ) sz)
abbrev RMi (l : Launch) (D : va_G) (t : Nat → ClassId) (y : MethodName) (bytes : ByteArray) (maxL : Nat) (ret : Option FieldType) (rm : Room) (h0 : Nat) (L : Nat → Nat) (σ : HS) (sz : Nat) (av : List Value) (post : Int32 → HS → Prop) : Prop := Met l y (Cond.code y bytes maxL ret :: big) rm (PC D t (hWd ph t σ) sz av) (va_Qi (fun r σ' => MdI h0 L σ' ∧ post r σ') (hB ph D t σ sz) (va_A (hWd ph t σ) sz)) 0 0 (va_A (hWd ph t σ) sz)
abbrev RMl (l : Launch) (D : va_G) (t : Nat → ClassId) (y : MethodName) (bytes : ByteArray) (maxL : Nat) (ret : Option FieldType) (rm : Room) (h0 : Nat) (L : Nat → Nat) (σ : HS) (sz : Nat) (av : List Value) (post : Int64 → HS → Prop) : Prop := Met l y (Cond.code y bytes maxL ret :: big) rm (PC D t (hWd ph t σ) sz av) (va_Ql (fun r σ' => MdI h0 L σ' ∧ post r σ') (hB ph D t σ sz) (va_A (hWd ph t σ) sz)) 0 0 (va_A (hWd ph t σ) sz)
theorem slF_ne : ∀ j, j < 80 → slF.getD j 0 ≠ 85 := by decide
theorem nar_in (v : Option Nat) : narrow (tyX12 85) (va_rf v) = va_rf v ∧ fits (tyX12 85) (va_rf v) = true := by cases v <;> exact ⟨rfl, rfl⟩
section R20L
variable {p : Program} {l : Launch} {e : Env} {R : Room} {s : State} {m : MethodId} {args : Array Value} {below : List Frame} {meth : Method} {c : Code} {H : Heap} {locs : List Loc} {cells slots : Nat} {Q : State → Prop} {cc : ByteArray} {pc : Nat} {ls : Array Slot} {rest : List Value} {D : va_G} {t : Nat → ClassId} {A : Nat → Prop} {H0 : Heap} {own : String} {nL : Nat} {σ : HS} {h0 : Nat} {L : Nat → Nat} {index k j : Nat} {i : Int32}
theorem w_nmi {P : Int32 → Prop} {x : Int32} (hw : ∀ z : Int32, z = x → P z) (kk : ∀ z : Int32, P z → W p l e R s m args below meth c H locs cells slots Q (F0 m pc ls (.int z :: rest))) : W p l e R s m args below meth c H locs cells slots Q (F0 m pc ls (.int x :: rest)) := kk x (hw x rfl)
theorem w_nml {P : Int64 → Prop} {x : Int64} (hw : ∀ z : Int64, z = x → P z) (kk : ∀ z : Int64, P z → W p l e R s m args below meth c H locs cells slots Q (F0 m pc ls (.long z :: rest))) : W p l e R s m args below meth c H locs cells slots Q (F0 m pc ls (.long x :: rest)) := kk x (hw x rfl)
theorem w_getI {P : Int32 → Prop} (hF : FX p m c cc nL s args own D t) (hH : RT D t A H0 h0 L σ H locs) (hK : FK own index 0 RX12 TX12 120 tyX12 k 0) (hdg : decode cc pc = .ok (.getfield index, 3)) (hw : ∀ z : Int32, z = sI σ h0 k → P z) (kk : ∀ z : Int32, P z → W p l e R s m args below meth c H locs cells slots Q (F0 m (pc + 3) ls (.int z :: rest))) : W p l e R s m args below meth c H locs cells slots Q (F0 m pc ls (.ref h0 :: rest)) :=
  h_getI hF hH.1 hK hdg hH.2.1.1 hH.2.1.2 rfl (fun z hz _ => kk z (hw z hz))
theorem w_getJ {P : Int64 → Prop} (hF : FX p m c cc nL s args own D t) (hH : RT D t A H0 h0 L σ H locs) (hK : FK own index 0 RX12 TX12 120 tyX12 k 1) (hdg : decode cc pc = .ok (.getfield index, 3)) (hw : ∀ z : Int64, z = sJ σ h0 k → P z) (kk : ∀ z : Int64, P z → W p l e R s m args below meth c H locs cells slots Q (F0 m (pc + 3) ls (.long z :: rest))) : W p l e R s m args below meth c H locs cells slots Q (F0 m pc ls (.ref h0 :: rest)) :=
  h_getJ hF hH.1 hK hdg hH.2.1.1 hH.2.1.2 rfl (fun z hz => kk z (hw z hz))
theorem w_getQ {P : Option Nat → Prop} (hF : FX p m c cc nL s args own D t) (hH : RT D t A H0 h0 L σ H locs) (hK : FK own index 0 RX12 TX12 120 tyX12 k 2) (hdg : decode cc pc = .ok (.getfield index, 3)) (hw : ∀ z : Option Nat, z = sP σ h0 k → P z) (kk : ∀ z : Option Nat, P z → W p l e R s m args below meth c H locs cells slots Q (F0 m (pc + 3) ls (va_rf z :: rest))) : W p l e R s m args below meth c H locs cells slots Q (F0 m pc ls (.ref h0 :: rest)) :=
  h_getQ hF hH.1 hK hdg hH.2.1.1 hH.2.1.2 rfl (fun z hz _ => kk z (hw z hz))
theorem w_getA (j : Nat) (hF : FX p m c cc nL s args own D t) (hH : RT D t A H0 h0 L σ H locs) (hK : FK own index 0 RX12 TX12 120 tyX12 k 2) (hdg : decode cc pc = .ok (.getfield index, 3)) (hj : j < 80) (hk : slF.getD j 0 = k) (kk : W p l e R s m args below meth c H locs cells slots Q (F0 m (pc + 3) ls (.ref (L j) :: rest))) : W p l e R s m args below meth c H locs cells slots Q (F0 m pc ls (.ref h0 :: rest)) := by
  refine h_getQ hF hH.1 hK hdg hH.2.1.1 hH.2.1.2 rfl (fun q hq _ => ?_)
  have h1 := (hH.2.2 j hj).1
  rw [hk, ← hq] at h1
  rw [h1]
  exact kk
theorem w_putI {P : HS → Prop} {v : Int32} (hF : FX p m c cc nL s args own D t) (hH : RT D t A H0 h0 L σ H locs) (hK : FK own index 0 RX12 TX12 120 tyX12 k 0) (hdg : decode cc pc = .ok (.putfield index, 3)) (hfin : (TX12 k).2.2.2 = false) (hn : narrow (tyX12 k) (.int v) = .int v) (hfit : fits (tyX12 k) (.int v) = true) (hw : ∀ σ' : HS, σ' = h_uI σ h0 k v → P σ') (kk : ∀ (σ' : HS) (H1 : Heap) (locs1 : List Loc), P σ' → RT D t A H0 h0 L σ' H1 locs1 → W p l e R s m args below meth c H1 locs1 cells slots Q (F0 m (pc + 3) ls rest)) : W p l e R s m args below meth c H locs cells slots Q (F0 m pc ls (.int v :: .ref h0 :: rest)) :=
  h_putI hF hH.1 hK hdg hH.2.1.1 hH.2.1.2 rfl hfin hn hfit (i_range v) (fun H1 l1 h => kk _ H1 l1 (hw _ rfl) ⟨h, hH.2⟩)
theorem w_putZ {P : HS → Prop} {v : Int32} (hF : FX p m c cc nL s args own D t) (hH : RT D t A H0 h0 L σ H locs) (hK : FK own index 0 RX12 TX12 120 tyX12 k 0) (hdg : decode cc pc = .ok (.putfield index, 3)) (hfin : (TX12 k).2.2.2 = false) (ht : tyX12 k = .boolean) (hw : (0 ≤ v.toInt ∧ v.toInt ≤ 1) ∧ ∀ σ' : HS, σ' = h_uI σ h0 k v → P σ') (kk : ∀ (σ' : HS) (H1 : Heap) (locs1 : List Loc), P σ' → RT D t A H0 h0 L σ' H1 locs1 → W p l e R s m args below meth c H1 locs1 cells slots Q (F0 m (pc + 3) ls rest)) : W p l e R s m args below meth c H locs cells slots Q (F0 m pc ls (.int v :: .ref h0 :: rest)) :=
  w_putI hF hH hK hdg hfin (by rw [ht]; exact (i_01 hw.1).1) (by rw [ht]; exact (i_01 hw.1).2) hw.2 kk
theorem w_putJ {P : HS → Prop} {v : Int64} (hF : FX p m c cc nL s args own D t) (hH : RT D t A H0 h0 L σ H locs) (hK : FK own index 0 RX12 TX12 120 tyX12 k 1) (hdg : decode cc pc = .ok (.putfield index, 3)) (hfin : (TX12 k).2.2.2 = false) (hn : narrow (tyX12 k) (.long v) = .long v) (hfit : fits (tyX12 k) (.long v) = true) (hw : ∀ σ' : HS, σ' = h_uJ σ h0 k v → P σ') (kk : ∀ (σ' : HS) (H1 : Heap) (locs1 : List Loc), P σ' → RT D t A H0 h0 L σ' H1 locs1 → W p l e R s m args below meth c H1 locs1 cells slots Q (F0 m (pc + 3) ls rest)) : W p l e R s m args below meth c H locs cells slots Q (F0 m pc ls (.long v :: .ref h0 :: rest)) :=
  h_putJ hF hH.1 hK hdg hH.2.1.1 hH.2.1.2 rfl hfin hn hfit (fun H1 l1 h => kk _ H1 l1 (hw _ rfl) ⟨h, hH.2⟩)
theorem w_putQ {P : HS → Prop} {v : Option Nat} (hF : FX p m c cc nL s args own D t) (hH : RT D t A H0 h0 L σ H locs) (hK : FK own index 0 RX12 TX12 120 tyX12 85 2) (hdg : decode cc pc = .ok (.putfield index, 3)) (hw : ∀ σ' : HS, σ' = h_uP σ h0 85 v → P σ') (kk : ∀ (σ' : HS) (H1 : Heap) (locs1 : List Loc), P σ' → RT D t A H0 h0 L σ' H1 locs1 → W p l e R s m args below meth c H1 locs1 cells slots Q (F0 m (pc + 3) ls rest)) : W p l e R s m args below meth c H locs cells slots Q (F0 m pc ls (va_rf v :: .ref h0 :: rest)) := by
  refine h_putP hF hH.1 hK hdg hH.2.1.1 hH.2.1.2 rfl rfl (nar_in v).1 (nar_in v).2 (Or.inl rfl) (fun H1 l1 h => kk _ H1 l1 (hw _ rfl) ⟨h, hH.2.1, fun j hj => ?_⟩)
  refine ⟨?_, (hH.2.2 j hj).2⟩
  show u2 (sP σ) h0 85 v h0 (slF.getD j 0) = _
  rw [u2_pl (slF_ne j hj)]
  exact (hH.2.2 j hj).1
theorem w_putQr {P : HS → Prop} {v : Nat} (hF : FX p m c cc nL s args own D t) (hH : RT D t A H0 h0 L σ H locs) (hK : FK own index 0 RX12 TX12 120 tyX12 85 2) (hdg : decode cc pc = .ok (.putfield index, 3)) (hw : ∀ σ' : HS, σ' = h_uP σ h0 85 (some v) → P σ') (kk : ∀ (σ' : HS) (H1 : Heap) (locs1 : List Loc), P σ' → RT D t A H0 h0 L σ' H1 locs1 → W p l e R s m args below meth c H1 locs1 cells slots Q (F0 m (pc + 3) ls rest)) : W p l e R s m args below meth c H locs cells slots Q (F0 m pc ls (.ref v :: .ref h0 :: rest)) := w_putQ (v := some v) hF hH hK hdg hw kk
theorem w_iald {P : Int32 → Prop} (j N : Nat) (hF : FX p m c cc nL s args own D t) (hH : RT D t A H0 h0 L σ H locs) (hdg : decode cc pc = .ok (.iaload, 1)) (hj : j < 80) (hp : ph (30 + j) = 21) (hN : lnL.getD j 0 = N) (hw : (0 ≤ i.toInt ∧ i.toInt < N) ∧ ∀ z : Int32, z = sI σ (L j) i.toInt.toNat → P z) (kk : ∀ z : Int32, P z → W p l e R s m args below meth c H locs cells slots Q (F0 m (pc + 1) ls (.int z :: rest))) : W p l e R s m args below meth c H locs cells slots Q (F0 m pc ls (.int i :: .ref (L j) :: rest)) := by
  obtain ⟨-, a1, a2, a3⟩ := hH.2.2 j hj
  exact h_iald hF hH.1 hdg a1 a2 hp (i_in hw.1.1 (by rw [a3, hN]; exact hw.1.2)) (fun z hz _ => kk z (hw.2 z hz))
theorem w_bald {P : Int32 → Prop} (j N : Nat) (hF : FX p m c cc nL s args own D t) (hH : RT D t A H0 h0 L σ H locs) (hdg : decode cc pc = .ok (.baload, 1)) (hj : j < 80) (hp : ph (30 + j) = 20) (hN : lnL.getD j 0 = N) (hw : (0 ≤ i.toInt ∧ i.toInt < N) ∧ ∀ z : Int32, z = sI σ (L j) i.toInt.toNat → P z) (kk : ∀ z : Int32, P z → W p l e R s m args below meth c H locs cells slots Q (F0 m (pc + 1) ls (.int z :: rest))) : W p l e R s m args below meth c H locs cells slots Q (F0 m pc ls (.int i :: .ref (L j) :: rest)) := by
  obtain ⟨-, a1, a2, a3⟩ := hH.2.2 j hj
  exact h_bald hF hH.1 hdg a1 a2 hp (i_in hw.1.1 (by rw [a3, hN]; exact hw.1.2)) (fun z hz _ => kk z (hw.2 z hz))
theorem w_zald {P : Int32 → Prop} (j N : Nat) (hF : FX p m c cc nL s args own D t) (hH : RT D t A H0 h0 L σ H locs) (hdg : decode cc pc = .ok (.baload, 1)) (hj : j < 80) (hp : ph (30 + j) = 23) (hN : lnL.getD j 0 = N) (hw : (0 ≤ i.toInt ∧ i.toInt < N) ∧ ∀ z : Int32, z = sI σ (L j) i.toInt.toNat → P z) (kk : ∀ z : Int32, P z → W p l e R s m args below meth c H locs cells slots Q (F0 m (pc + 1) ls (.int z :: rest))) : W p l e R s m args below meth c H locs cells slots Q (F0 m pc ls (.int i :: .ref (L j) :: rest)) := by
  obtain ⟨-, a1, a2, a3⟩ := hH.2.2 j hj
  exact h_zald hF hH.1 hdg a1 a2 hp (i_in hw.1.1 (by rw [a3, hN]; exact hw.1.2)) (fun z hz _ => kk z (hw.2 z hz))
theorem w_lald {P : Int64 → Prop} (j N : Nat) (hF : FX p m c cc nL s args own D t) (hH : RT D t A H0 h0 L σ H locs) (hdg : decode cc pc = .ok (.laload, 1)) (hj : j < 80) (hp : ph (30 + j) = 22) (hN : lnL.getD j 0 = N) (hw : (0 ≤ i.toInt ∧ i.toInt < N) ∧ ∀ z : Int64, z = sJ σ (L j) i.toInt.toNat → P z) (kk : ∀ z : Int64, P z → W p l e R s m args below meth c H locs cells slots Q (F0 m (pc + 1) ls (.long z :: rest))) : W p l e R s m args below meth c H locs cells slots Q (F0 m pc ls (.int i :: .ref (L j) :: rest)) := by
  obtain ⟨-, a1, a2, a3⟩ := hH.2.2 j hj
  exact h_lald hF hH.1 hdg a1 a2 hp (i_in hw.1.1 (by rw [a3, hN]; exact hw.1.2)) (fun z hz => kk z (hw.2 z hz))
theorem w_inald {P : Int32 → Prop} {q : Option Nat} (hF : FX p m c cc nL s args own D t) (hH : RT D t A H0 h0 L σ H locs) (hdg : decode cc pc = .ok (.baload, 1)) (hw : ∃ j : Nat, (j = 29 ∨ j = 75) ∧ q = some (L j) ∧ (0 ≤ i.toInt ∧ i.toInt < (lnL.getD j 0 : Int)) ∧ ∀ z : Int32, z = sI σ (L j) i.toInt.toNat → P z) (kk : ∀ z : Int32, P z → W p l e R s m args below meth c H locs cells slots Q (F0 m (pc + 1) ls (.int z :: rest))) : W p l e R s m args below meth c H locs cells slots Q (F0 m pc ls (.int i :: va_rf q :: rest)) := by
  obtain ⟨j, hj, rfl, h1, h2⟩ := hw
  exact w_bald j (lnL.getD j 0) hF hH hdg (by omega) (by rcases hj with rfl | rfl <;> rfl) rfl ⟨h1, h2⟩ kk
theorem w_iast {P : HS → Prop} {x : Int32} (j N : Nat) (hF : FX p m c cc nL s args own D t) (hH : RT D t A H0 h0 L σ H locs) (hdg : decode cc pc = .ok (.iastore, 1)) (hj : j < 80) (hp : ph (30 + j) = 21) (hN : lnL.getD j 0 = N) (hw : (0 ≤ i.toInt ∧ i.toInt < N) ∧ ∀ σ' : HS, σ' = h_uI σ (L j) i.toInt.toNat x → P σ') (kk : ∀ (σ' : HS) (H1 : Heap) (locs1 : List Loc), P σ' → RT D t A H0 h0 L σ' H1 locs1 → W p l e R s m args below meth c H1 locs1 cells slots Q (F0 m (pc + 1) ls rest)) : W p l e R s m args below meth c H locs cells slots Q (F0 m pc ls (.int x :: .int i :: .ref (L j) :: rest)) := by
  obtain ⟨-, a1, a2, a3⟩ := hH.2.2 j hj
  exact h_iast hF hH.1 hdg a1 a2 hp (i_in hw.1.1 (by rw [a3, hN]; exact hw.1.2)) (i_range _) (fun H1 l1 h => kk _ H1 l1 (hw.2 _ rfl) ⟨h, hH.2⟩)
theorem w_bast {P : HS → Prop} {x : Int32} (j N : Nat) (hF : FX p m c cc nL s args own D t) (hH : RT D t A H0 h0 L σ H locs) (hdg : decode cc pc = .ok (.bastore, 1)) (hj : j < 80) (hp : ph (30 + j) = 20) (hN : lnL.getD j 0 = N) (hw : (0 ≤ i.toInt ∧ i.toInt < N) ∧ ∀ σ' : HS, σ' = h_uI σ (L j) i.toInt.toNat (vp_nar .byte x) → P σ') (kk : ∀ (σ' : HS) (H1 : Heap) (locs1 : List Loc), P σ' → RT D t A H0 h0 L σ' H1 locs1 → W p l e R s m args below meth c H1 locs1 cells slots Q (F0 m (pc + 1) ls rest)) : W p l e R s m args below meth c H locs cells slots Q (F0 m pc ls (.int x :: .int i :: .ref (L j) :: rest)) := by
  obtain ⟨-, a1, a2, a3⟩ := hH.2.2 j hj
  exact h_bast hF hH.1 hdg a1 a2 hp (i_in hw.1.1 (by rw [a3, hN]; exact hw.1.2)) (i_range _) (fun H1 l1 h => kk _ H1 l1 (hw.2 _ rfl) ⟨h, hH.2⟩)
theorem w_zast {P : HS → Prop} {x : Int32} (j N : Nat) (hF : FX p m c cc nL s args own D t) (hH : RT D t A H0 h0 L σ H locs) (hdg : decode cc pc = .ok (.bastore, 1)) (hj : j < 80) (hp : ph (30 + j) = 23) (hN : lnL.getD j 0 = N) (hw : (0 ≤ i.toInt ∧ i.toInt < N) ∧ ∀ σ' : HS, σ' = h_uI σ (L j) i.toInt.toNat (vp_nar .boolean x) → P σ') (kk : ∀ (σ' : HS) (H1 : Heap) (locs1 : List Loc), P σ' → RT D t A H0 h0 L σ' H1 locs1 → W p l e R s m args below meth c H1 locs1 cells slots Q (F0 m (pc + 1) ls rest)) : W p l e R s m args below meth c H locs cells slots Q (F0 m pc ls (.int x :: .int i :: .ref (L j) :: rest)) := by
  obtain ⟨-, a1, a2, a3⟩ := hH.2.2 j hj
  exact h_zast hF hH.1 hdg a1 a2 hp (i_in hw.1.1 (by rw [a3, hN]; exact hw.1.2)) (i_range _) (fun H1 l1 h => kk _ H1 l1 (hw.2 _ rfl) ⟨h, hH.2⟩)
theorem w_last {P : HS → Prop} {x : Int64} (j N : Nat) (hF : FX p m c cc nL s args own D t) (hH : RT D t A H0 h0 L σ H locs) (hdg : decode cc pc = .ok (.lastore, 1)) (hj : j < 80) (hp : ph (30 + j) = 22) (hN : lnL.getD j 0 = N) (hw : (0 ≤ i.toInt ∧ i.toInt < N) ∧ ∀ σ' : HS, σ' = h_uJ σ (L j) i.toInt.toNat x → P σ') (kk : ∀ (σ' : HS) (H1 : Heap) (locs1 : List Loc), P σ' → RT D t A H0 h0 L σ' H1 locs1 → W p l e R s m args below meth c H1 locs1 cells slots Q (F0 m (pc + 1) ls rest)) : W p l e R s m args below meth c H locs cells slots Q (F0 m pc ls (.long x :: .int i :: .ref (L j) :: rest)) := by
  obtain ⟨-, a1, a2, a3⟩ := hH.2.2 j hj
  exact h_last hF hH.1 hdg a1 a2 hp (i_in hw.1.1 (by rw [a3, hN]; exact hw.1.2)) (fun H1 l1 h => kk _ H1 l1 (hw.2 _ rfl) ⟨h, hH.2⟩)
theorem w_alen {P : Int32 → Prop} (j N : Nat) (hF : FX p m c cc nL s args own D t) (hH : RT D t A H0 h0 L σ H locs) (hdg : decode cc pc = .ok (.arraylength, 1)) (hj : j < 80) (hp : ph (30 + j) = 22) (hN : lnL.getD j 0 = N) (hb : N < 2 ^ 31) (hw : ∀ z : Int32, z.toInt = (N : Int) → P z) (kk : ∀ z : Int32, P z → W p l e R s m args below meth c H locs cells slots Q (F0 m (pc + 1) ls (.int z :: rest))) : W p l e R s m args below meth c H locs cells slots Q (F0 m pc ls (.ref (L j) :: rest)) := by
  obtain ⟨-, a1, a2, a3⟩ := hH.2.2 j hj
  refine h_alen hF hH.1 hdg a1 a2 hp (by decide) (by decide) (kk _ (hw _ ?_))
  rw [a3, hN]
  exact nI_toInt hb
theorem w_join {β : Type} {K : β → HS → Prop} {lv0 : List (Nat × Value)} (pc2 : Nat) (L0 : β → List (Nat × Value)) (S0 : β → List Value) {g : JFrame} (_ : lv_has ls nL lv0) (_ : RT D t A H0 h0 L σ H locs)
    (body : ∀ (x : β) (σ : HS) (ls : Array Slot) (H : Heap) (locs : List Loc), lv_has ls nL (L0 x) → K x σ → RT D t A H0 h0 L σ H locs → W p l e R s m args below meth c H locs cells slots Q (F0 m pc2 ls (S0 x)))
    (kk : (∀ (x : β) (σ : HS) (ls : Array Slot) (H : Heap) (locs : List Loc), lv_has ls nL (L0 x) → K x σ → RT D t A H0 h0 L σ H locs → W p l e R s m args below meth c H locs cells slots Q (F0 m pc2 ls (S0 x))) → W p l e R s m args below meth c H locs cells slots Q g) : W p l e R s m args below meth c H locs cells slots Q g := kk body
theorem w_loop {β : Type} {B : (β → HS → Prop) → β → HS → Prop} (L0 : β → List (Nat × Value)) (x : β) (hl : lv_has ls nL (L0 x)) (hw : lw B x σ) (hH : RT D t A H0 h0 L σ H locs)
    (step : ∀ (K : β → HS → Prop) (x : β) (σ : HS) (ls : Array Slot) (H : Heap) (locs : List Loc), lv_has ls nL (L0 x) → B K x σ → RT D t A H0 h0 L σ H locs → (∀ (x' : β) (σ' : HS) (ls : Array Slot) (H : Heap) (locs : List Loc), lv_has ls nL (L0 x') → K x' σ' → RT D t A H0 h0 L σ' H locs → W p l e R s m args below meth c H locs cells slots Q (F0 m pc ls [])) → W p l e R s m args below meth c H locs cells slots Q (F0 m pc ls [])) : W p l e R s m args below meth c H locs cells slots Q (F0 m pc ls []) := by
  obtain ⟨I, μ, hI, hs⟩ := hw
  have key : ∀ (n : Nat) (x : β) (σ : HS) (ls : Array Slot) (H : Heap) (locs : List Loc), μ x σ < n → lv_has ls nL (L0 x) → I x σ → RT D t A H0 h0 L σ H locs → W p l e R s m args below meth c H locs cells slots Q (F0 m pc ls []) := by
    intro n
    induction n with
    | zero => exact fun _ _ _ _ _ h => absurd h (Nat.not_lt_zero _)
    | succ n ih =>
      intro x σ ls H locs hn h1 h2 h3
      exact step _ x σ ls H locs h1 (hs x σ h2) h3 (fun x' σ' ls' H' locs' h4 h5 h6 => ih x' σ' ls' H' locs' (by have := h5.2; omega) h4 h5.1 h6)
  exact key (μ x σ + 1) x σ ls H locs (by omega) hl hI hH
end R20L
section R20M
variable {p : Program} {l : Launch} {e : Env} {R : Room} {s : State} {m : MethodId} {args : Array Value} {below : List Frame} {meth : Method} {c : Code} {H : Heap} {locs : List Loc} {cells slots : Nat} {Q : State → Prop} {cc : ByteArray} {pc : Nat} {ls : Array Slot} {rest : List Value} {D : va_G} {t : Nat → ClassId} {A : Nat → Prop} {H0 : Heap} {own : String} {nL : Nat} {σ : HS} {h0 : Nat} {L : Nat → Nat} {index k j : Nat} {i : Int32}
variable {C : String} {y : MethodName} {bytes : ByteArray} {maxL n : Nat} {ret : Option FieldType} {rm : Room} {As st0 : List Value}
theorem w_cVi {post : Int32 → HS → Prop} (hF : FX p m c cc nL s args own D t) (hH : RT D t A H0 h0 L σ H locs) (hA : ∀ q, H0.size ≤ q → A q) (hm : MV own index RX12 y bytes maxL ret n) (hM : ∀ sz, RMi l D t y bytes maxL ret rm h0 L σ sz (.ref h0 :: As) post) (hdg : decode cc pc = .ok (.invokevirtual index, 3)) (hrc : rm.cells = 0) (hrs : rm.slots = 0) (hR : rm.frames + 1 ≤ R.frames ∧ 8 + (maxL + 11) + rm.locals ≤ R.locals) (hn : As.length = n) (hls : ls.size = nL) (hW : (rest.map fun v => v.category).sum ≤ 8) (hf : cells ≤ R.cells ∧ slots ≤ R.slots) (hst : st0 = As.reverse ++ .ref h0 :: rest)
    (kk : ∀ (r : Int32) (σ' : HS) (H1 : Heap) (locs1 : List Loc), post r σ' → RT D t A H0 h0 L σ' H1 locs1 → W p l e R s m args below meth c H1 locs1 cells slots Q (F0 m (pc + 3) ls (.int r :: rest))) : W p l e R s m args below meth c H locs cells slots Q (F0 m pc ls st0) := by
  obtain ⟨q, hq⟩ := h_in (ph := ph) (t := t) hH.2.1.1
  rw [ent_obj (c := 0) (by rw [hH.2.1.2]; rfl) (by decide)] at hq
  refine va_calli (r_runV hF hm ci_X12 (hM H.size) hdg hrc hrs hR hn hls hW hH.1.1 hH.1.2.1 hq hf hst) hH.1.2.2.1 (fun q _ h => h_ain hH.1 hA q h) (h_ain hH.1 hA) (fun x u t1 H1 locs1 ht _ hw hB _ _ hS1 => ?_)
  obtain ⟨h1, h2⟩ := hw
  obtain ⟨b1, b2⟩ := hB
  rw [ht] at b1
  exact kk x u H1 locs1 h2 ⟨⟨b1, b2.weaken (fun k q _ h => h_ain hH.1 hA q.1 h), hS1, okT⟩, h1⟩
theorem w_cVl {post : Int64 → HS → Prop} (hF : FX p m c cc nL s args own D t) (hH : RT D t A H0 h0 L σ H locs) (hA : ∀ q, H0.size ≤ q → A q) (hm : MV own index RX12 y bytes maxL ret n) (hM : ∀ sz, RMl l D t y bytes maxL ret rm h0 L σ sz (.ref h0 :: As) post) (hdg : decode cc pc = .ok (.invokevirtual index, 3)) (hrc : rm.cells = 0) (hrs : rm.slots = 0) (hR : rm.frames + 1 ≤ R.frames ∧ 8 + (maxL + 11) + rm.locals ≤ R.locals) (hn : As.length = n) (hls : ls.size = nL) (hW : (rest.map fun v => v.category).sum ≤ 8) (hf : cells ≤ R.cells ∧ slots ≤ R.slots) (hst : st0 = As.reverse ++ .ref h0 :: rest)
    (kk : ∀ (r : Int64) (σ' : HS) (H1 : Heap) (locs1 : List Loc), post r σ' → RT D t A H0 h0 L σ' H1 locs1 → W p l e R s m args below meth c H1 locs1 cells slots Q (F0 m (pc + 3) ls (.long r :: rest))) : W p l e R s m args below meth c H locs cells slots Q (F0 m pc ls st0) := by
  obtain ⟨q, hq⟩ := h_in (ph := ph) (t := t) hH.2.1.1
  rw [ent_obj (c := 0) (by rw [hH.2.1.2]; rfl) (by decide)] at hq
  refine va_calll (r_runV hF hm ci_X12 (hM H.size) hdg hrc hrs hR hn hls hW hH.1.1 hH.1.2.1 hq hf hst) hH.1.2.2.1 (fun q _ h => h_ain hH.1 hA q h) (h_ain hH.1 hA) (fun x u t1 H1 locs1 ht _ hw hB _ _ hS1 => ?_)
  obtain ⟨h1, h2⟩ := hw
  obtain ⟨b1, b2⟩ := hB
  rw [ht] at b1
  exact kk x u H1 locs1 h2 ⟨⟨b1, b2.weaken (fun k q _ h => h_ain hH.1 hA q.1 h), hS1, okT⟩, h1⟩
theorem w_cVv {post : HS → Prop} (hF : FX p m c cc nL s args own D t) (hH : RT D t A H0 h0 L σ H locs) (hA : ∀ q, H0.size ≤ q → A q) (hm : MV own index RX12 y bytes maxL none n) (hM : ∀ sz, RMv l D t y bytes maxL rm h0 L σ sz (.ref h0 :: As) post) (hdg : decode cc pc = .ok (.invokevirtual index, 3)) (hrc : rm.cells = 0) (hrs : rm.slots = 0) (hR : rm.frames + 1 ≤ R.frames ∧ 8 + (maxL + 11) + rm.locals ≤ R.locals) (hn : As.length = n) (hls : ls.size = nL) (hW : (rest.map fun v => v.category).sum ≤ 8) (hf : cells ≤ R.cells ∧ slots ≤ R.slots) (hst : st0 = As.reverse ++ .ref h0 :: rest)
    (kk : ∀ (σ' : HS) (H1 : Heap) (locs1 : List Loc), post σ' → RT D t A H0 h0 L σ' H1 locs1 → W p l e R s m args below meth c H1 locs1 cells slots Q (F0 m (pc + 3) ls (rest))) : W p l e R s m args below meth c H locs cells slots Q (F0 m pc ls st0) := by
  obtain ⟨q, hq⟩ := h_in (ph := ph) (t := t) hH.2.1.1
  rw [ent_obj (c := 0) (by rw [hH.2.1.2]; rfl) (by decide)] at hq
  refine va_callv (r_runV hF hm ci_X12 (hM H.size) hdg hrc hrs hR hn hls hW hH.1.1 hH.1.2.1 hq hf hst) hH.1.2.2.1 (fun q _ h => h_ain hH.1 hA q h) (h_ain hH.1 hA) (fun u t1 H1 locs1 ht _ hw hB _ _ hS1 => ?_)
  obtain ⟨h1, h2⟩ := hw
  obtain ⟨b1, b2⟩ := hB
  rw [ht] at b1
  exact kk u H1 locs1 h2 ⟨⟨b1, b2.weaken (fun k q _ h => h_ain hH.1 hA q.1 h), hS1, okT⟩, h1⟩
theorem w_cSi {post : Int32 → HS → Prop} (hF : FX p m c cc nL s args own D t) (hH : RT D t A H0 h0 L σ H locs) (hA : ∀ q, H0.size ≤ q → A q) (hm : MS own index y bytes maxL ret n) (hM : ∀ sz, RMi l D t y bytes maxL ret rm h0 L σ sz As post) (hdg : decode cc pc = .ok (.invokestatic index, 3)) (hrc : rm.cells = 0) (hrs : rm.slots = 0) (hR : rm.frames + 1 ≤ R.frames ∧ 8 + (maxL + 11) + rm.locals ≤ R.locals) (hn : As.length = n) (hls : ls.size = nL) (hW : (rest.map fun v => v.category).sum ≤ 8) (hf : cells ≤ R.cells ∧ slots ≤ R.slots) (hst : st0 = As.reverse ++ rest)
    (kk : ∀ (r : Int32) (σ' : HS) (H1 : Heap) (locs1 : List Loc), post r σ' → RT D t A H0 h0 L σ' H1 locs1 → W p l e R s m args below meth c H1 locs1 cells slots Q (F0 m (pc + 3) ls (.int r :: rest))) : W p l e R s m args below meth c H locs cells slots Q (F0 m pc ls st0) := by
  refine va_calli (r_runS hF hm (hM H.size) hdg hrc hrs hR hn hls hW hH.1.1 hH.1.2.1 hf hst) hH.1.2.2.1 (fun q _ h => h_ain hH.1 hA q h) (h_ain hH.1 hA) (fun x u t1 H1 locs1 ht _ hw hB _ _ hS1 => ?_)
  obtain ⟨h1, h2⟩ := hw
  obtain ⟨b1, b2⟩ := hB
  rw [ht] at b1
  exact kk x u H1 locs1 h2 ⟨⟨b1, b2.weaken (fun k q _ h => h_ain hH.1 hA q.1 h), hS1, okT⟩, h1⟩
theorem w_reti {v : Int32} {ty : FieldType} {post : Int32 → HS → Prop} (hF : FX p m c cc nL s args own D t) (hH : RT D t A s.heap h0 L σ H locs) (hr : meth.sig.returnType = some ty) (hlk : meth.locks = false) (hn : narrow ty (.int v) = .int v) (hdg : decode cc pc = .ok (.ireturn, 1)) (hw : post v σ) : W p l e R s m args below meth c H locs cells slots (MQ below (va_Qi (fun r σ' => MdI h0 L σ' ∧ post r σ') (fun σ' u => va_P D cl1 (hWd ph t σ') u.heap ∧ va_D A (hWd ph t σ')) A) args s cells slots A) (F0 m pc ls [.int v]) :=
  W.zret hF.1.1 hF.1.2.1 hr hn (fun t1 ht _ => ⟨⟨v, σ, rfl, ⟨hH.2, hw⟩, by rw [ht]; exact hH.1.1, hH.1.2.1⟩, hH.1.2.2.1.F ht⟩) hH.1.2.2.1.2.2 hdg hlk
theorem w_retz {v : Int32} {post : Int32 → HS → Prop} (hF : FX p m c cc nL s args own D t) (hH : RT D t A s.heap h0 L σ H locs) (hr : meth.sig.returnType = some .boolean) (hlk : meth.locks = false) (hdg : decode cc pc = .ok (.ireturn, 1)) (hw : (0 ≤ v.toInt ∧ v.toInt ≤ 1) ∧ post v σ) : W p l e R s m args below meth c H locs cells slots (MQ below (va_Qi (fun r σ' => MdI h0 L σ' ∧ post r σ') (fun σ' u => va_P D cl1 (hWd ph t σ') u.heap ∧ va_D A (hWd ph t σ')) A) args s cells slots A) (F0 m pc ls [.int v]) := w_reti hF hH hr hlk (i_01 hw.1).1 hdg hw.2
theorem w_retl {v : Int64} {post : Int64 → HS → Prop} (hF : FX p m c cc nL s args own D t) (hH : RT D t A s.heap h0 L σ H locs) (hr : meth.sig.returnType = some .long) (hlk : meth.locks = false) (hdg : decode cc pc = .ok (.lreturn, 1)) (hw : post v σ) : W p l e R s m args below meth c H locs cells slots (MQ below (va_Ql (fun r σ' => MdI h0 L σ' ∧ post r σ') (fun σ' u => va_P D cl1 (hWd ph t σ') u.heap ∧ va_D A (hWd ph t σ')) A) args s cells slots A) (F0 m pc ls [.long v]) :=
  W.lret hF.1.1 hF.1.2.1 hr (fun t1 ht _ => ⟨⟨v, σ, rfl, ⟨hH.2, hw⟩, by rw [ht]; exact hH.1.1, hH.1.2.1⟩, hH.1.2.2.1.F ht⟩) hH.1.2.2.1.2.2 hdg hlk
theorem w_retv {post : HS → Prop} (hF : FX p m c cc nL s args own D t) (hH : RT D t A s.heap h0 L σ H locs) (hr : meth.sig.returnType = none) (hlk : meth.locks = false) (hdg : decode cc pc = .ok (.return_, 1)) (hw : post σ) : W p l e R s m args below meth c H locs cells slots (MQ below (va_Qv (fun σ' => MdI h0 L σ' ∧ post σ') (fun σ' u => va_P D cl1 (hWd ph t σ') u.heap ∧ va_D A (hWd ph t σ')) A) args s cells slots A) (F0 m pc ls []) :=
  W.vret hF.1.1 hF.1.2.1 hr (fun t1 ht _ => ⟨⟨σ, rfl, ⟨hH.2, hw⟩, by rw [ht]; exact hH.1.1, hH.1.2.1⟩, hH.1.2.2.1.F ht⟩) hH.1.2.2.1.2.2 hdg hlk
end R20M

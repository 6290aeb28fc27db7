/-! numbers by their Int; rows for the reference's object -/
theorem bm {x : Int} (h1 : -2147483648 ≤ x) (h2 : x ≤ 2147483647) : x.bmod (2 ^ 32) = x := by
  rw [Int.bmod_def]
  have e : ((2 ^ 32 : Nat) : Int) = 4294967296 := rfl
  rw [e]
  split <;> omega
theorem i_add {x y z : Int32} (h : z = x + y) (h1 : -2147483648 ≤ x.toInt + y.toInt) (h2 : x.toInt + y.toInt ≤ 2147483647) : z.toInt = x.toInt + y.toInt := by
  rw [h, Int32.toInt_add]
  exact bm h1 h2
theorem i_sub {x y z : Int32} (h : z = x - y) (h1 : -2147483648 ≤ x.toInt - y.toInt) (h2 : x.toInt - y.toInt ≤ 2147483647) : z.toInt = x.toInt - y.toInt := by
  rw [h, Int32.toInt_sub]
  exact bm h1 h2
theorem i_mulk {x k z : Int32} (K : Int) (hk : k.toInt = K) (h : z = k * x) (h1 : -2147483648 ≤ K * x.toInt) (h2 : K * x.toInt ≤ 2147483647) : z.toInt = K * x.toInt := by
  rw [h, Int32.toInt_mul, hk]
  exact bm h1 h2
theorem i_eq {x y : Int32} (h : x = y) : x.toInt = y.toInt := by rw [h]
theorem i_ne {x y : Int32} (h : ¬ x = y) : x.toInt ≠ y.toInt := fun q => h (Int32.toInt_inj.mp q)
theorem i_lt {x y : Int32} (h : x < y) : x.toInt < y.toInt := Int32.lt_iff_toInt_lt.mp h
theorem i_nlt {x y : Int32} (h : ¬ x < y) : y.toInt ≤ x.toInt := Int.not_lt.mp (fun q => h (Int32.lt_iff_toInt_lt.mpr q))
theorem i_le {x y : Int32} (h : x ≤ y) : x.toInt ≤ y.toInt := Int32.le_iff_toInt_le.mp h
theorem i_nle {x y : Int32} (h : ¬ x ≤ y) : y.toInt < x.toInt := Int.not_le.mp (fun q => h (Int32.le_iff_toInt_le.mpr q))
theorem i_range (x : Int32) : -2147483648 ≤ x.toInt ∧ x.toInt ≤ 2147483647 := ⟨Int32.le_toInt x, by have := Int32.toInt_lt x; omega⟩
theorem i_clamp {x : Int32} : x.toNatClampNeg = x.toInt.toNat := rfl
theorem i_in {x : Int32} {n : Nat} (h1 : 0 ≤ x.toInt) (h2 : x.toInt < n) : vp_in x n := vp_in_iff.mpr ⟨h1, h2⟩
theorem i_byte (x : Int32) : -128 ≤ (vp_nar .byte x).toInt ∧ (vp_nar .byte x).toInt ≤ 127 := by
  rw [vp_nar_byte]
  have h1 := Int8.le_toInt x.toInt8
  have h2 := Int8.toInt_lt x.toInt8
  rw [Int8.toInt_toInt32]
  omega
theorem i_bool (x : Int32) : 0 ≤ (vp_nar .boolean x).toInt ∧ (vp_nar .boolean x).toInt ≤ 1 := by
  have h : vp_nar .boolean x = x &&& 1 := rfl
  rw [h]
  obtain ⟨j, hj, e⟩ := pk_andE x (m := 1) 1 (by decide)
  rw [e, nI_toInt (by omega)]
  omega
theorem i_01 {x : Int32} (h : 0 ≤ x.toInt ∧ x.toInt ≤ 1) : narrow .boolean (.int x) = .int x ∧ fits .boolean (.int x) = true := by
  rcases (show x.toInt = 0 ∨ x.toInt = 1 by omega) with e | e
  · have : x = 0 := Int32.toInt_inj.mp e
    subst this
    exact ⟨rfl, rfl⟩
  · have : x = 1 := Int32.toInt_inj.mp e
    subst this
    exact ⟨rfl, rfl⟩
def MT (D : va_G) (t : Nat → ClassId) (A : Nat → Prop) (H0 : Heap) (h0 : Nat) (L : Nat → Nat) (σ : HS) (H : Heap) (locs : List Loc) : Prop := HT ph τ0 D t A H0 σ H locs ∧ MdI h0 L σ
section R14
variable {p : Program} {l : Launch} {e : Env} {R : Room} {s : State} {m : MethodId} {args : Array Value} {below : List Frame} {meth : Method} {c : Code} {H : Heap} {locs : List Loc} {cells slots : Nat} {Q : State → Prop} {cc : ByteArray} {pc : Nat} {ls : Array Slot} {rest : List Value} {D : va_G} {t : Nat → ClassId} {A : Nat → Prop} {H0 : Heap} {own : String} {nL : Nat} {σ : HS} {h0 : Nat} {L : Nat → Nat} {index k j : Nat} {i : Int32}
theorem m_getI (hF : FX p m c cc nL s args own D t) (hH : MT D t A H0 h0 L σ H locs) (hK : FK own index 0 RX12 TX12 120 tyX12 k 0) (hdg : decode cc pc = .ok (.getfield index, 3)) (lo hi : Int) (hlo : τ0.1 0 k = lo) (hhi : τ0.2.1 0 k = hi)
    (kk : ∀ z : Int32, z = sI σ h0 k → lo ≤ z.toInt ∧ z.toInt ≤ hi → W p l e R s m args below meth c H locs cells slots Q (F0 m (pc + 3) ls (.int z :: rest))) : W p l e R s m args below meth c H locs cells slots Q (F0 m pc ls (.ref h0 :: rest)) :=
  h_getI hF hH.1 hK hdg hH.2.1.1 hH.2.1.2 rfl (fun z hz hv => kk z hz (by rw [← hlo, ← hhi]; exact hv))
theorem m_getJ (hF : FX p m c cc nL s args own D t) (hH : MT D t A H0 h0 L σ H locs) (hK : FK own index 0 RX12 TX12 120 tyX12 k 1) (hdg : decode cc pc = .ok (.getfield index, 3))
    (kk : ∀ z : Int64, z = sJ σ h0 k → W p l e R s m args below meth c H locs cells slots Q (F0 m (pc + 3) ls (.long z :: rest))) : W p l e R s m args below meth c H locs cells slots Q (F0 m pc ls (.ref h0 :: rest)) :=
  h_getJ hF hH.1 hK hdg hH.2.1.1 hH.2.1.2 rfl kk
theorem m_getA (j : Nat) (hF : FX p m c cc nL s args own D t) (hH : MT D t A H0 h0 L σ H locs) (hK : FK own index 0 RX12 TX12 120 tyX12 k 2) (hdg : decode cc pc = .ok (.getfield index, 3)) (hj : j < 80) (hk : slF.getD j 0 = k)
    (kk : W p l e R s m args below meth c H locs cells slots Q (F0 m (pc + 3) ls (.ref (L j) :: rest))) : W p l e R s m args below meth c H locs cells slots Q (F0 m pc ls (.ref h0 :: rest)) := by
  refine h_getQ hF hH.1 hK hdg hH.2.1.1 hH.2.1.2 rfl (fun q hq _ => ?_)
  have h1 := (hH.2.2 j hj).1
  rw [hk, ← hq] at h1
  rw [h1]
  exact kk
theorem m_putI {v : Int32} (hF : FX p m c cc nL s args own D t) (hH : MT D t A H0 h0 L σ H locs) (hK : FK own index 0 RX12 TX12 120 tyX12 k 0) (hdg : decode cc pc = .ok (.putfield index, 3)) (lo hi : Int) (hlo : τ0.1 0 k = lo) (hhi : τ0.2.1 0 k = hi) (hv : lo ≤ v.toInt ∧ v.toInt ≤ hi) (hfin : (TX12 k).2.2.2 = false) (hn : narrow (tyX12 k) (.int v) = .int v) (hfit : fits (tyX12 k) (.int v) = true)
    (kk : ∀ (σ' : HS) (H1 : Heap) (locs1 : List Loc), σ' = h_uI σ h0 k v → MT D t A H0 h0 L σ' H1 locs1 → W p l e R s m args below meth c H1 locs1 cells slots Q (F0 m (pc + 3) ls rest)) : W p l e R s m args below meth c H locs cells slots Q (F0 m pc ls (.int v :: .ref h0 :: rest)) :=
  h_putI hF hH.1 hK hdg hH.2.1.1 hH.2.1.2 rfl hfin hn hfit (by show τ0.1 0 k ≤ _ ∧ _ ≤ τ0.2.1 0 k; rw [hlo, hhi]; exact hv) (fun H1 l1 h => kk _ H1 l1 rfl ⟨h, hH.2⟩)
theorem m_putJ {v : Int64} (hF : FX p m c cc nL s args own D t) (hH : MT D t A H0 h0 L σ H locs) (hK : FK own index 0 RX12 TX12 120 tyX12 k 1) (hdg : decode cc pc = .ok (.putfield index, 3)) (hfin : (TX12 k).2.2.2 = false) (hn : narrow (tyX12 k) (.long v) = .long v) (hfit : fits (tyX12 k) (.long v) = true)
    (kk : ∀ (σ' : HS) (H1 : Heap) (locs1 : List Loc), σ' = h_uJ σ h0 k v → MT D t A H0 h0 L σ' H1 locs1 → W p l e R s m args below meth c H1 locs1 cells slots Q (F0 m (pc + 3) ls rest)) : W p l e R s m args below meth c H locs cells slots Q (F0 m pc ls (.long v :: .ref h0 :: rest)) :=
  h_putJ hF hH.1 hK hdg hH.2.1.1 hH.2.1.2 rfl hfin hn hfit (fun H1 l1 h => kk _ H1 l1 rfl ⟨h, hH.2⟩)
theorem m_iald (j N : Nat) (hF : FX p m c cc nL s args own D t) (hH : MT D t A H0 h0 L σ H locs) (hdg : decode cc pc = .ok (.iaload, 1)) (hj : j < 80) (hp : ph (30 + j) = 21) (hN : lnL.getD j 0 = N) (lo hi : Int) (hlo : τ0.1 (30 + j) 0 = lo) (hhi : τ0.2.1 (30 + j) 0 = hi) (h1 : 0 ≤ i.toInt) (h2 : i.toInt < N)
    (kk : ∀ z : Int32, z = sI σ (L j) i.toInt.toNat → lo ≤ z.toInt ∧ z.toInt ≤ hi → W p l e R s m args below meth c H locs cells slots Q (F0 m (pc + 1) ls (.int z :: rest))) : W p l e R s m args below meth c H locs cells slots Q (F0 m pc ls (.int i :: .ref (L j) :: rest)) := by
  obtain ⟨-, a1, a2, a3⟩ := hH.2.2 j hj
  exact h_iald hF hH.1 hdg a1 a2 hp (i_in h1 (by rw [a3, hN]; exact h2)) (fun z hz hv => kk z hz (by rw [← hlo, ← hhi]; exact hv))
theorem m_bald (j N : Nat) (hF : FX p m c cc nL s args own D t) (hH : MT D t A H0 h0 L σ H locs) (hdg : decode cc pc = .ok (.baload, 1)) (hj : j < 80) (hp : ph (30 + j) = 20) (hN : lnL.getD j 0 = N) (lo hi : Int) (hlo : τ0.1 (30 + j) 0 = lo) (hhi : τ0.2.1 (30 + j) 0 = hi) (h1 : 0 ≤ i.toInt) (h2 : i.toInt < N)
    (kk : ∀ z : Int32, z = sI σ (L j) i.toInt.toNat → lo ≤ z.toInt ∧ z.toInt ≤ hi → W p l e R s m args below meth c H locs cells slots Q (F0 m (pc + 1) ls (.int z :: rest))) : W p l e R s m args below meth c H locs cells slots Q (F0 m pc ls (.int i :: .ref (L j) :: rest)) := by
  obtain ⟨-, a1, a2, a3⟩ := hH.2.2 j hj
  exact h_bald hF hH.1 hdg a1 a2 hp (i_in h1 (by rw [a3, hN]; exact h2)) (fun z hz hv => kk z hz (by rw [← hlo, ← hhi]; exact hv))
theorem m_zald (j N : Nat) (hF : FX p m c cc nL s args own D t) (hH : MT D t A H0 h0 L σ H locs) (hdg : decode cc pc = .ok (.baload, 1)) (hj : j < 80) (hp : ph (30 + j) = 23) (hN : lnL.getD j 0 = N) (lo hi : Int) (hlo : τ0.1 (30 + j) 0 = lo) (hhi : τ0.2.1 (30 + j) 0 = hi) (h1 : 0 ≤ i.toInt) (h2 : i.toInt < N)
    (kk : ∀ z : Int32, z = sI σ (L j) i.toInt.toNat → lo ≤ z.toInt ∧ z.toInt ≤ hi → W p l e R s m args below meth c H locs cells slots Q (F0 m (pc + 1) ls (.int z :: rest))) : W p l e R s m args below meth c H locs cells slots Q (F0 m pc ls (.int i :: .ref (L j) :: rest)) := by
  obtain ⟨-, a1, a2, a3⟩ := hH.2.2 j hj
  exact h_zald hF hH.1 hdg a1 a2 hp (i_in h1 (by rw [a3, hN]; exact h2)) (fun z hz hv => kk z hz (by rw [← hlo, ← hhi]; exact hv))
theorem m_lald (j N : Nat) (hF : FX p m c cc nL s args own D t) (hH : MT D t A H0 h0 L σ H locs) (hdg : decode cc pc = .ok (.laload, 1)) (hj : j < 80) (hp : ph (30 + j) = 22) (hN : lnL.getD j 0 = N) (h1 : 0 ≤ i.toInt) (h2 : i.toInt < N)
    (kk : ∀ z : Int64, z = sJ σ (L j) i.toInt.toNat → W p l e R s m args below meth c H locs cells slots Q (F0 m (pc + 1) ls (.long z :: rest))) : W p l e R s m args below meth c H locs cells slots Q (F0 m pc ls (.int i :: .ref (L j) :: rest)) := by
  obtain ⟨-, a1, a2, a3⟩ := hH.2.2 j hj
  exact h_lald hF hH.1 hdg a1 a2 hp (i_in h1 (by rw [a3, hN]; exact h2)) (fun z hz => kk z hz)
theorem m_iast {x : Int32} (j N : Nat) (hF : FX p m c cc nL s args own D t) (hH : MT D t A H0 h0 L σ H locs) (hdg : decode cc pc = .ok (.iastore, 1)) (hj : j < 80) (hp : ph (30 + j) = 21) (hN : lnL.getD j 0 = N) (lo hi : Int) (hlo : τ0.1 (30 + j) 0 = lo) (hhi : τ0.2.1 (30 + j) 0 = hi) (h1 : 0 ≤ i.toInt) (h2 : i.toInt < N) (hv : lo ≤ x.toInt ∧ x.toInt ≤ hi)
    (kk : ∀ (σ' : HS) (H1 : Heap) (locs1 : List Loc), σ' = h_uI σ (L j) i.toInt.toNat x → MT D t A H0 h0 L σ' H1 locs1 → W p l e R s m args below meth c H1 locs1 cells slots Q (F0 m (pc + 1) ls rest)) : W p l e R s m args below meth c H locs cells slots Q (F0 m pc ls (.int x :: .int i :: .ref (L j) :: rest)) := by
  obtain ⟨-, a1, a2, a3⟩ := hH.2.2 j hj
  exact h_iast hF hH.1 hdg a1 a2 hp (i_in h1 (by rw [a3, hN]; exact h2)) (by show τ0.1 (30 + j) 0 ≤ _ ∧ _ ≤ τ0.2.1 (30 + j) 0; rw [hlo, hhi]; exact hv) (fun H1 l1 h => kk _ H1 l1 rfl ⟨h, hH.2⟩)
theorem m_bast {x : Int32} (j N : Nat) (hF : FX p m c cc nL s args own D t) (hH : MT D t A H0 h0 L σ H locs) (hdg : decode cc pc = .ok (.bastore, 1)) (hj : j < 80) (hp : ph (30 + j) = 20) (hN : lnL.getD j 0 = N) (hlo : τ0.1 (30 + j) 0 = -128) (hhi : τ0.2.1 (30 + j) 0 = 127) (h1 : 0 ≤ i.toInt) (h2 : i.toInt < N)
    (kk : ∀ (σ' : HS) (H1 : Heap) (locs1 : List Loc), σ' = h_uI σ (L j) i.toInt.toNat (vp_nar .byte x) → MT D t A H0 h0 L σ' H1 locs1 → W p l e R s m args below meth c H1 locs1 cells slots Q (F0 m (pc + 1) ls rest)) : W p l e R s m args below meth c H locs cells slots Q (F0 m pc ls (.int x :: .int i :: .ref (L j) :: rest)) := by
  obtain ⟨-, a1, a2, a3⟩ := hH.2.2 j hj
  exact h_bast hF hH.1 hdg a1 a2 hp (i_in h1 (by rw [a3, hN]; exact h2)) (by show τ0.1 (30 + j) 0 ≤ _ ∧ _ ≤ τ0.2.1 (30 + j) 0; rw [hlo, hhi]; exact i_byte x) (fun H1 l1 h => kk _ H1 l1 rfl ⟨h, hH.2⟩)
theorem m_zast {x : Int32} (j N : Nat) (hF : FX p m c cc nL s args own D t) (hH : MT D t A H0 h0 L σ H locs) (hdg : decode cc pc = .ok (.bastore, 1)) (hj : j < 80) (hp : ph (30 + j) = 23) (hN : lnL.getD j 0 = N) (hlo : τ0.1 (30 + j) 0 = 0) (hhi : τ0.2.1 (30 + j) 0 = 1) (h1 : 0 ≤ i.toInt) (h2 : i.toInt < N)
    (kk : ∀ (σ' : HS) (H1 : Heap) (locs1 : List Loc), σ' = h_uI σ (L j) i.toInt.toNat (vp_nar .boolean x) → MT D t A H0 h0 L σ' H1 locs1 → W p l e R s m args below meth c H1 locs1 cells slots Q (F0 m (pc + 1) ls rest)) : W p l e R s m args below meth c H locs cells slots Q (F0 m pc ls (.int x :: .int i :: .ref (L j) :: rest)) := by
  obtain ⟨-, a1, a2, a3⟩ := hH.2.2 j hj
  exact h_zast hF hH.1 hdg a1 a2 hp (i_in h1 (by rw [a3, hN]; exact h2)) (by show τ0.1 (30 + j) 0 ≤ _ ∧ _ ≤ τ0.2.1 (30 + j) 0; rw [hlo, hhi]; exact i_bool x) (fun H1 l1 h => kk _ H1 l1 rfl ⟨h, hH.2⟩)
theorem m_last {x : Int64} (j N : Nat) (hF : FX p m c cc nL s args own D t) (hH : MT D t A H0 h0 L σ H locs) (hdg : decode cc pc = .ok (.lastore, 1)) (hj : j < 80) (hp : ph (30 + j) = 22) (hN : lnL.getD j 0 = N) (h1 : 0 ≤ i.toInt) (h2 : i.toInt < N)
    (kk : ∀ (σ' : HS) (H1 : Heap) (locs1 : List Loc), σ' = h_uJ σ (L j) i.toInt.toNat x → MT D t A H0 h0 L σ' H1 locs1 → W p l e R s m args below meth c H1 locs1 cells slots Q (F0 m (pc + 1) ls rest)) : W p l e R s m args below meth c H locs cells slots Q (F0 m pc ls (.long x :: .int i :: .ref (L j) :: rest)) := by
  obtain ⟨-, a1, a2, a3⟩ := hH.2.2 j hj
  exact h_last hF hH.1 hdg a1 a2 hp (i_in h1 (by rw [a3, hN]; exact h2)) (fun H1 l1 h => kk _ H1 l1 rfl ⟨h, hH.2⟩)
end R14

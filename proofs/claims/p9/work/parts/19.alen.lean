section R19
variable {p : Program} {l : Launch} {e : Env} {R : Room} {s : State} {m : MethodId} {args : Array Value} {below : List Frame} {meth : Method} {c : Code} {H : Heap} {locs : List Loc} {cells slots : Nat} {Q : State → Prop} {cc : ByteArray} {pc : Nat} {ls : Array Slot} {rest : List Value} {D : va_G} {t : Nat → ClassId} {A : Nat → Prop} {H0 : Heap} {own : String} {nL : Nat} {σ : HS} {h0 : Nat} {L : Nat → Nat}
theorem m_alen (j N : Nat) (hF : FX p m c cc nL s args own D t) (hH : MT D t A H0 h0 L σ H locs) (hdg : decode cc pc = .ok (.arraylength, 1)) (hj : j < 80) (hp : ph (30 + j) = 22) (hN : lnL.getD j 0 = N) (hb : N < 2 ^ 31) (kk : ∀ z : Int32, z.toInt = N → W p l e R s m args below meth c H locs cells slots Q (F0 m (pc + 1) ls (.int z :: rest))) : W p l e R s m args below meth c H locs cells slots Q (F0 m pc ls (.ref (L j) :: rest)) := by
  obtain ⟨-, a1, a2, a3⟩ := hH.2.2 j hj
  refine h_alen hF hH.1 hdg a1 a2 hp (by decide) (by decide) (kk _ ?_)
  rw [a3, hN]
  exact nI_toInt hb
end R19
theorem i_or01 {x y z : Int32} (h : z = x ||| y) (hx : 0 ≤ x.toInt ∧ x.toInt ≤ 1) (hy : 0 ≤ y.toInt ∧ y.toInt ≤ 1) : 0 ≤ z.toInt ∧ z.toInt ≤ 1 := by
  rcases (show x.toInt = 0 ∨ x.toInt = 1 by omega) with e | e <;> rcases (show y.toInt = 0 ∨ y.toInt = 1 by omega) with f | f
  · have e1 : x = 0 := Int32.toInt_inj.mp e
    have f1 : y = 0 := Int32.toInt_inj.mp f
    subst e1; subst f1; subst h; decide
  · have e1 : x = 0 := Int32.toInt_inj.mp e
    have f1 : y = 1 := Int32.toInt_inj.mp f
    subst e1; subst f1; subst h; decide
  · have e1 : x = 1 := Int32.toInt_inj.mp e
    have f1 : y = 0 := Int32.toInt_inj.mp f
    subst e1; subst f1; subst h; decide
  · have e1 : x = 1 := Int32.toInt_inj.mp e
    have f1 : y = 1 := Int32.toInt_inj.mp f
    subst e1; subst f1; subst h; decide
theorem i_and {x y z : Int32} (h : z = x &&& y) (hy : 0 ≤ y.toInt) : 0 ≤ z.toInt ∧ z.toInt ≤ y.toInt := by
  obtain ⟨n, hn, rfl⟩ := nI_of (x := y) (fun q => by have := i_lt q; have k0 : (0 : Int32).toInt = 0 := rfl; omega)
  have e1 : z.toBitVec.toNat = x.toBitVec.toNat &&& n := by
    rw [h, Int32.toBitVec_and, BitVec.toNat_and, pk_tn (by omega)]
  have e2 : z.toBitVec.toNat ≤ n := by rw [e1]; exact Nat.and_le_right
  have e3 : z = nI z.toBitVec.toNat := by
    apply Int32.toBitVec.inj
    show z.toBitVec = (Int32.ofNat z.toBitVec.toNat).toBitVec
    rw [Int32.toBitVec_ofNat', BitVec.ofNat_toNat, BitVec.setWidth_eq]
  rw [e3, nI_toInt (by omega), nI_toInt hn]
  omega
theorem keepAA {h0 : Nat} {L : Nat → Nat} {σ σ' : HS} {i j k : Nat} {v : Int32} (e : σ' = h_uI σ (L i) k v) (hM : MdI h0 L σ) (hi : i < 80) (hj : j < 80) (h : j ≠ i) : sI σ' (L j) = sI σ (L j) := by
  subst e
  exact funext fun n => u2_addr (fun q => h (hM.inj hj hi q))
theorem keepAF {h0 : Nat} {L : Nat → Nat} {σ σ' : HS} {j k : Nat} {v : Int32} (e : σ' = h_uI σ h0 k v) (hM : MdI h0 L σ) (hj : j < 80) : sI σ' (L j) = sI σ (L j) := by
  subst e
  exact funext fun n => u2_addr (hM.ne hj)
theorem keepAJ {L : Nat → Nat} {σ σ' : HS} {j a k : Nat} {v : Int64} (e : σ' = h_uJ σ a k v) : sI σ' (L j) = sI σ (L j) := by
  subst e
  rfl
theorem keepFA {h0 : Nat} {L : Nat → Nat} {σ σ' : HS} {i k f : Nat} {v : Int32} (e : σ' = h_uI σ (L i) k v) (hM : MdI h0 L σ) (hi : i < 80) : sI σ' h0 f = sI σ h0 f := by
  subst e
  exact u2_addr (hM.ne hi).symm
theorem keepFF {h0 : Nat} {σ σ' : HS} {k f : Nat} {v : Int32} (e : σ' = h_uI σ h0 k v) (h : f ≠ k) : sI σ' h0 f = sI σ h0 f := by
  subst e
  exact u2_pl h
theorem keepFJ {h0 : Nat} {σ σ' : HS} {a k f : Nat} {v : Int64} (e : σ' = h_uJ σ a k v) : sI σ' h0 f = sI σ h0 f := by
  subst e
  rfl
section R20
variable {p : Program} {l : Launch} {e : Env} {R : Room} {s : State} {m : MethodId} {args : Array Value} {below : List Frame} {meth : Method} {c : Code} {H : Heap} {locs : List Loc} {cells slots : Nat} {Q : State → Prop} {pc : Nat} {ls : Array Slot} {D : va_G} {t : Nat → ClassId} {A : Nat → Prop} {H0 : Heap} {nL : Nat} {σ : HS} {h0 : Nat} {L : Nat → Nat} {st : List Value}
/-- ways that meet again at pc2: what is behind is walked once -/
theorem m_join {β : Type} (pc2 : Nat) {L0 : β → List (Nat × Value)} {I : β → HS → Prop} {lv0 : List (Nat × Value)} (_ : lv_has ls nL lv0) (_ : MT D t A H0 h0 L σ H locs)
    (blk : ∀ (x : β) (σ : HS) (ls : Array Slot) (H : Heap) (locs : List Loc), lv_has ls nL (L0 x) → I x σ → MT D t A H0 h0 L σ H locs → W p l e R s m args below meth c H locs cells slots Q (F0 m pc2 ls []))
    (k : (∀ (x : β) (σ : HS) (ls : Array Slot) (H : Heap) (locs : List Loc), lv_has ls nL (L0 x) → I x σ → MT D t A H0 h0 L σ H locs → W p l e R s m args below meth c H locs cells slots Q (F0 m pc2 ls [])) → W p l e R s m args below meth c H locs cells slots Q (F0 m pc ls st)) : W p l e R s m args below meth c H locs cells slots Q (F0 m pc ls st) := k blk
end R20

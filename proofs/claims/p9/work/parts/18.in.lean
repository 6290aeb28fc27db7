/-! the row that the reference reads its numbers from -/
section R18
variable {p : Program} {l : Launch} {e : Env} {R : Room} {s : State} {m : MethodId} {args : Array Value} {below : List Frame} {meth : Method} {c : Code} {H : Heap} {locs : List Loc} {cells slots : Nat} {Q : State → Prop} {cc : ByteArray} {pc : Nat} {ls : Array Slot} {rest : List Value} {D : va_G} {t : Nat → ClassId} {A : Nat → Prop} {H0 : Heap} {own : String} {nL : Nat} {σ : HS} {h0 : Nat} {L : Nat → Nat} {index k : Nat}
theorem m_getIn (j : Nat) (hF : FX p m c cc nL s args own D t) (hH : MT D t A H0 h0 L σ H locs) (hK : FK own index 0 RX12 TX12 120 tyX12 k 2) (hdg : decode cc pc = .ok (.getfield index, 3)) (hq : sP σ h0 k = some (L j))
    (kk : W p l e R s m args below meth c H locs cells slots Q (F0 m (pc + 3) ls (.ref (L j) :: rest))) : W p l e R s m args below meth c H locs cells slots Q (F0 m pc ls (.ref h0 :: rest)) := by
  refine h_getQ hF hH.1 hK hdg hH.2.1.1 hH.2.1.2 rfl (fun q hq2 _ => ?_)
  rw [hq2, hq]
  exact kk
theorem m_fld (hH : MT D t A H0 h0 L σ H locs) (k : Nat) (hk : k < 120) (hf : fkc 0 k = 0) : τ0.1 0 k ≤ (sI σ h0 k).toInt ∧ (sI σ h0 k).toInt ≤ τ0.2.1 0 k := hH.1.2.2.2.int hH.2.1.1 hH.2.1.2 rfl (by decide) hk hf
end R18
/-- the row stands, and has M places behind base -/
def InM (h0 : Nat) (L : Nat → Nat) (σ : HS) (M : Int) : Prop := (sP σ h0 85 = some (L 29) ∧ (sI σ h0 86).toInt + M ≤ 72600) ∨ (sP σ h0 85 = some (L 75) ∧ (sI σ h0 86).toInt + M ≤ 64000)
theorem InM.fr {h0 : Nat} {L : Nat → Nat} {fs js : List Nat} {σ σ' : HS} {M : Int} (h : InM h0 L σ M) (hf : Fr h0 L fs js σ σ') (h1 : 85 ∉ fs) (h2 : 86 ∉ fs) : InM h0 L σ' M := by
  unfold InM
  rw [(hf.1 85 h1).2.2, (hf.1 86 h2).1]
  exact h
theorem InM.le {h0 : Nat} {L : Nat → Nat} {σ : HS} {M N : Int} (h : InM h0 L σ M) (hn : N ≤ M) : InM h0 L σ N := by
  rcases h with ⟨a, b⟩ | ⟨a, b⟩
  · exact Or.inl ⟨a, by omega⟩
  · exact Or.inr ⟨a, by omega⟩

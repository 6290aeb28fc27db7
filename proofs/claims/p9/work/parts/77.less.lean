/-! less, without a sign -/
theorem l_subm {x y z : Int64} (h : z = x - y) : z.toInt = x.toInt - y.toInt ∨ z.toInt = x.toInt - y.toInt + 18446744073709551616 ∨ z.toInt = x.toInt - y.toInt - 18446744073709551616 := by
  have hx := l_range x
  have hy := l_range y
  rw [h, Int64.toInt_sub]
  have hd := Int.bmod_def (x.toInt - y.toInt) (2 ^ 64)
  have e : ((2 ^ 64 : Nat) : Int) = 18446744073709551616 := by decide
  rw [hd, e]
  split <;> omega
theorem l_min {a z1 z2 : Int64} (h1 : z1 = a - 9223372036854775807) (h2 : z2 = z1 - 1) : (0 ≤ a.toInt → z2.toInt = a.toInt - 9223372036854775808) ∧ (a.toInt < 0 → z2.toInt = a.toInt + 9223372036854775808) := by
  have k1 : (9223372036854775807 : Int64).toInt = 9223372036854775807 := rfl
  have k2 : (1 : Int64).toInt = 1 := rfl
  have m1 := l_subm h1
  have m2 := l_subm h2
  have ra := l_range a
  have r1 := l_range z1
  have r2 := l_range z2
  omega
/-- less, both read without a sign -/
theorem s2_X12_isLess {h0 : Nat} {L : Nat → Nat} {σ : HS} (_ : OKM h0 L σ) (a0 a2 : Int64) {post : Int32 → HS → Prop} (kk : ∀ r : Int32, (0 ≤ r.toInt ∧ r.toInt ≤ 1) ∧ (0 ≤ a2.toInt → (r.toInt = 1 ∧ 0 ≤ a0.toInt ∧ a0.toInt < a2.toInt) ∨ (r.toInt = 0 ∧ (a0.toInt < 0 ∨ a2.toInt ≤ a0.toInt))) → post r σ) : F_X12_isLess h0 L a0 a2 post σ := by
  unfold F_X12_isLess
  intro z1 e1 z2 e2 z3 e3 z4 e4
  have m1 := l_min e1 e2
  have m2 := l_min e3 e4
  have ra := l_range a0
  have rb := l_range a2
  have k0 : (0 : Int32).toInt = 0 := rfl
  have k1 : (1 : Int32).toInt = 1 := rfl
  refine jn_dup ⟨fun c => ⟨by omega, kk _ (by omega)⟩, fun c => ⟨by omega, kk _ (by omega)⟩⟩

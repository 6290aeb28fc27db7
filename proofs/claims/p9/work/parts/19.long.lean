/-! longs by their Int -/
theorem bml {x : Int} (h1 : -9223372036854775808 ≤ x) (h2 : x ≤ 9223372036854775807) : x.bmod (2 ^ 64) = x := by
  rw [Int.bmod_def]
  have e : ((2 ^ 64 : Nat) : Int) = 18446744073709551616 := rfl
  rw [e]
  split <;> omega
theorem l_add {x y z : Int64} (h : z = x + y) (h1 : -9223372036854775808 ≤ x.toInt + y.toInt) (h2 : x.toInt + y.toInt ≤ 9223372036854775807) : z.toInt = x.toInt + y.toInt := by
  rw [h, Int64.toInt_add]
  exact bml h1 h2
theorem l_sub {x y z : Int64} (h : z = x - y) (h1 : -9223372036854775808 ≤ x.toInt - y.toInt) (h2 : x.toInt - y.toInt ≤ 9223372036854775807) : z.toInt = x.toInt - y.toInt := by
  rw [h, Int64.toInt_sub]
  exact bml h1 h2
theorem l_range (x : Int64) : -9223372036854775808 ≤ x.toInt ∧ x.toInt ≤ 9223372036854775807 := ⟨Int64.le_toInt x, by have := Int64.toInt_lt x; omega⟩
theorem l_cmp {x y : Int64} {z : Int32} (h : z = lg_cmp x y) : (z.toInt = 1 ∧ y.toInt < x.toInt) ∨ (z.toInt = 0 ∧ x.toInt = y.toInt) ∨ (z.toInt = -1 ∧ x.toInt < y.toInt) := by
  subst h
  unfold lg_cmp
  by_cases h1 : x > y
  · rw [if_pos h1]
    exact Or.inl ⟨rfl, Int64.lt_iff_toInt_lt.mp h1⟩
  · rw [if_neg h1]
    have h3 : ¬ y.toInt < x.toInt := fun q => h1 (Int64.lt_iff_toInt_lt.mpr q)
    by_cases h2 : x = y
    · subst h2
      simp
    · rw [if_neg (by simpa using h2)]
      have h4 : x.toInt ≠ y.toInt := fun q => h2 (Int64.toInt_inj.mp q)
      exact Or.inr (Or.inr ⟨rfl, by omega⟩)
theorem l_inj {x y : Int64} (h : x.toInt = y.toInt) : x = y := Int64.toInt_inj.mp h
theorem i_inj {x y : Int32} (h : x.toInt = y.toInt) : x = y := Int32.toInt_inj.mp h
theorem i_tol {x : Int32} {z : Int64} (h : z = x.toInt64) : z.toInt = x.toInt := by rw [h, Int32.toInt_toInt64]
theorem l_toi {x : Int64} {z : Int32} (h : z = x.toInt32) (h1 : -2147483648 ≤ x.toInt) (h2 : x.toInt ≤ 2147483647) : z.toInt = x.toInt := by
  rw [h, Int64.toInt_toInt32]
  exact bm h1 h2
theorem l_of {x : Int64} (h : 0 ≤ x.toInt) : ∃ n : Nat, n < 2 ^ 63 ∧ x = lN n := by
  obtain ⟨n, hn, e⟩ := wb_of x
  refine ⟨n, ?_, e⟩
  by_cases hb : n < 2 ^ 63
  · exact hb
  · exfalso
    have h3 : x.toInt = (n : Int).bmod (2 ^ 64) := by
      rw [e]
      show (BitVec.ofNat 64 n).toInt = _
      rw [BitVec.toInt_ofNat']
    rw [h3, Int.bmod_def] at h
    have e2 : ((2 ^ 64 : Nat) : Int) = 18446744073709551616 := rfl
    rw [e2] at h
    split at h <;> omega
theorem l_and {x y z : Int64} (h : z = x &&& y) (hy : 0 ≤ y.toInt) : 0 ≤ z.toInt ∧ z.toInt ≤ y.toInt := by
  obtain ⟨n, hn, rfl⟩ := l_of hy
  obtain ⟨m, hm, rfl⟩ := wb_of x
  rw [h, wb_and hm (by omega), lN_small hn]
  have h1 : m &&& n ≤ n := Nat.and_le_right
  rw [lN_small (by omega)]
  omega
theorem i_or {x y z : Int32} (h : z = x ||| y) (hx : 0 ≤ x.toInt) (hy : 0 ≤ y.toInt) : 0 ≤ z.toInt := by
  obtain ⟨n, hn, rfl⟩ := nI_of (x := y) (fun q => by have := i_lt q; have k0 : (0 : Int32).toInt = 0 := rfl; omega)
  obtain ⟨m, hm, rfl⟩ := nI_of (x := x) (fun q => by have := i_lt q; have k0 : (0 : Int32).toInt = 0 := rfl; omega)
  have e1 : z.toBitVec.toNat = m ||| n := by
    rw [h, Int32.toBitVec_or, BitVec.toNat_or, pk_tn (by omega), pk_tn (by omega)]
  have e2 : m ||| n < 2 ^ 31 := Nat.or_lt_two_pow hm hn
  have e3 : z = nI z.toBitVec.toNat := by
    apply Int32.toBitVec.inj
    show z.toBitVec = (Int32.ofNat z.toBitVec.toNat).toBitVec
    rw [Int32.toBitVec_ofNat', BitVec.ofNat_toNat, BitVec.setWidth_eq]
  rw [e3, e1, nI_toInt e2]
  omega
theorem i_div {x k z : Int32} (K : Int) (hk : k.toInt = K) (h : z = x / k) (hx : 0 ≤ x.toInt) (hK : 0 < K) : z.toInt = x.toInt / K := by
  rw [h, Int32.toInt_div_of_ne_right _ _ (fun q => by rw [q] at hk; have : (-1 : Int32).toInt = -1 := rfl; omega), hk, Int.tdiv_eq_ediv_of_nonneg hx]
theorem i_rem {x k z : Int32} (K : Int) (hk : k.toInt = K) (h : z = x - x / k * k) (hx : 0 ≤ x.toInt) (hK : 0 < K) : z.toInt = x.toInt % K := by
  have hd := i_div K hk (z := x / k) rfl hx hK
  have hr := i_range x
  have h1 := Int.emod_add_mul_ediv x.toInt K
  have h2 := Int.emod_nonneg x.toInt (show K ≠ 0 by omega)
  have h3 := Int.emod_lt_of_pos x.toInt hK
  have h4 : (x / k * k).toInt = K * (x.toInt / K) := by
    rw [Int32.toInt_mul, hd, hk, Int.mul_comm]
    have h5 : 0 ≤ K * (x.toInt / K) := Int.mul_nonneg (by omega) (Int.ediv_nonneg hx (by omega))
    exact bm (by omega) (by omega)
  have h5 : 0 ≤ K * (x.toInt / K) := Int.mul_nonneg (by omega) (Int.ediv_nonneg hx (by omega))
  have h6 := i_sub h (by rw [h4]; omega) (by rw [h4]; omega)
  rw [h6, h4]
  omega
theorem l_rem {x k z : Int64} (K : Int) (hk : k.toInt = K) (h : z = x - x / k * k) (hx : 0 ≤ x.toInt) (hK : 0 < K) : z.toInt = x.toInt % K := by
  have hd : (x / k).toInt = x.toInt / K := by
    rw [Int64.toInt_div_of_ne_right _ _ (fun q => by rw [q] at hk; have : (-1 : Int64).toInt = -1 := rfl; omega), hk, Int.tdiv_eq_ediv_of_nonneg hx]
  have hr := l_range x
  have h1 := Int.emod_add_mul_ediv x.toInt K
  have h2 := Int.emod_nonneg x.toInt (show K ≠ 0 by omega)
  have h3 := Int.emod_lt_of_pos x.toInt hK
  have h4 : (x / k * k).toInt = K * (x.toInt / K) := by
    rw [Int64.toInt_mul, hd, hk, Int.mul_comm]
    have h5 : 0 ≤ K * (x.toInt / K) := Int.mul_nonneg (by omega) (Int.ediv_nonneg hx (by omega))
    exact bml (by omega) (by omega)
  have h5 : 0 ≤ K * (x.toInt / K) := Int.mul_nonneg (by omega) (Int.ediv_nonneg hx (by omega))
  have h6 := l_sub h (by rw [h4]; omega) (by rw [h4]; omega)
  rw [h6, h4]
  omega
/-- a number of up to seven bytes -/
theorem num_i {z : Int64} {n : Nat} (h : z = lN n) (hn : n < 2 ^ 63) : z.toInt = n := by rw [h]; exact lN_small hn

/-! the reference's constructor: what it leaves -/
section RA1
variable {h : Nat} {Ls : List Nat} {K : Nat → Nat} {κ : CS}
/-- the reference while it is being made: its arrays so far -/
def RB (h : Nat) (Ls : List Nat) (K : Nat → Nat) (κ : CS) : Prop := sL κ.1 = h :: Ls ∧ h ∉ Ls ∧ Ls.Nodup ∧ (sK κ.1 h = 0 ∧ K h = 0) ∧ sI κ.1 h = (fun _ => 0) ∧ ∀ i, i < Ls.length → (sK κ.1 (Ls.getD i 0) = phL.getD i 28 ∧ K (Ls.getD i 0) = 30 + i) ∧ sN κ.1 (Ls.getD i 0) = lnL.getD i 0 ∧ sI κ.1 (Ls.getD i 0) = (fun _ => 0) ∧ sP κ.1 h (slF.getD i 0) = some (Ls.getD i 0)
theorem gd_eq {i : Nat} (hi : i < Ls.length) : Ls.getD i 0 = Ls[i] := by
  rw [List.getD_eq_getElem?_getD, List.getElem?_eq_getElem hi]
  rfl
theorem gd_mem {i : Nat} (hi : i < Ls.length) : Ls.getD i 0 ∈ Ls := by
  rw [gd_eq hi]
  exact List.getElem_mem hi
theorem gd_app {o i : Nat} (hi : i < Ls.length) : (Ls ++ [o]).getD i 0 = Ls.getD i 0 := by
  rw [gd_eq hi, gd_eq (Ls := Ls ++ [o]) (by rw [List.length_append]; omega), List.getElem_append_left hi]
theorem gd_end {o : Nat} : (Ls ++ [o]).getD Ls.length 0 = o := by
  rw [gd_eq (Ls := Ls ++ [o]) (by rw [List.length_append]; simp)]
  simp
theorem rb_sl : ∀ j, j < 80 → ∀ i, i < j → slF.getD i 0 ≠ slF.getD j 0 := by decide +kernel
theorem rb_st (hB : RB h Ls K κ) {j : Nat} (hj : Ls.length = j) (N : Int32) (t f n : Nat) (hN : N.toInt = n) (hn : n ≤ 1000000) (hf : slF.getD j 0 = f) (ht : phL.getD j 28 = t) (hln : lnL.getD j 0 = n) (hj8 : j < 80) {T C : Nat} (T' : Nat) (hT : κ.2 + T = C) (hT' : T + (n + 12) = T') (hb : T' ≤ C) {post : CS → Prop} (kk : ∀ (o : Nat) (K' : Nat → Nat) (κ' : CS), RB h (Ls ++ [o]) K' κ' → (Ls ++ [o]).length = j + 1 → κ'.2 + T' = C → post κ') : (0 ≤ N.toInt ∧ N.toInt ≤ 1000000) ∧ (N.toInt.toNat + 12 ≤ κ.2) ∧ ∀ o : Nat, o ∉ sL κ.1 → ∀ κ3 : CS, κ3 = (h_uN κ.1 o t N.toInt.toNat, κ.2 - (N.toInt.toNat + 12)) → (h ∈ sL κ3.1 ∧ sK κ3.1 h = 0) ∧ ∀ κ4 : CS, κ4 = (h_uP κ3.1 h f (some o), κ3.2) → post κ4 := by
  have eN : N.toInt.toNat = n := by omega
  rw [eN]
  obtain ⟨b1, b2, b3, b4, b5, b6⟩ := hB
  have hsl : ∀ i, i < j → slF.getD i 0 ≠ f := fun i hi => by
    rw [← hf]
    exact rb_sl j hj8 i hi
  refine ⟨by omega, by omega, fun o ho κ3 e3 => ?_⟩
  rw [b1] at ho
  have oh : o ≠ h := fun e => ho (by rw [e]; exact List.mem_cons_self)
  have ol : o ∉ Ls := fun e => ho (List.mem_cons_of_mem _ e)
  have kh : sK κ3.1 h = 0 := by
    rw [e3]
    exact (va_up_ne _ _ (Ne.symm oh)).trans b4.1
  refine ⟨⟨by rw [e3]; exact List.mem_append_left _ (by rw [b1]; exact List.mem_cons_self), kh⟩, fun κ4 e4 => ?_⟩
  refine kk o (va_up K o (30 + j)) κ4 ⟨?_, ?_, ?_, ⟨?_, ?_⟩, ?_, fun i hi => ?_⟩ (by rw [List.length_append, hj]; rfl) (by rw [e4]; show κ3.2 + T' = C; rw [e3]; show κ.2 - (n + 12) + T' = C; omega)
  · rw [e4, e3]
    show sL κ.1 ++ [o] = h :: (Ls ++ [o])
    rw [b1]
    rfl
  · intro q
    rcases List.mem_append.mp q with q | q
    · exact b2 q
    · have q : h = o := by simpa using q
      exact oh q.symm
  · rw [List.nodup_append]
    refine ⟨b3, by simp, fun a ha b hb e => ?_⟩
    have : b = o := by simpa using hb
    rw [this] at e
    exact ol (by rw [← e]; exact ha)
  · rw [e4]
    exact kh
  · exact (va_up_ne _ _ (Ne.symm oh)).trans b4.2
  · rw [e4]
    show sI κ3.1 h = _
    rw [e3]
    exact (va_up_ne _ _ (Ne.symm oh)).trans b5
  · rw [List.length_append] at hi
    have hi : i < Ls.length + 1 := hi
    by_cases c : i = Ls.length
    · subst c
      rw [gd_end, hj, ht, hln, hf, e4]
      refine ⟨⟨?_, va_up_self _ _ _⟩, ?_, ?_, u2_same⟩
      · show sK κ3.1 o = t
        rw [e3]
        exact va_up_self _ _ _
      · show sN κ3.1 o = n
        rw [e3]
        exact va_up_self _ _ _
      · show sI κ3.1 o = _
        rw [e3]
        exact va_up_self _ _ _
    · have hi' : i < Ls.length := by omega
      have ne : Ls.getD i 0 ≠ o := fun e => ol (by rw [← e]; exact gd_mem hi')
      obtain ⟨⟨g1, g2⟩, g3, g4, g5⟩ := b6 i hi'
      rw [gd_app hi', e4]
      refine ⟨⟨?_, (va_up_ne _ _ ne).trans g2⟩, ?_, ?_, ?_⟩
      · show sK κ3.1 _ = _
        rw [e3]
        exact (va_up_ne _ _ ne).trans g1
      · show sN κ3.1 _ = _
        rw [e3]
        exact (va_up_ne _ _ ne).trans g3
      · show sI κ3.1 _ = _
        rw [e3]
        exact (va_up_ne _ _ ne).trans g4
      · show u2 (sP κ3.1) h f (some o) h (slF.getD i 0) = _
        rw [u2_pl (hsl i (by omega)), e3]
        show va_up (sP κ.1) o (fun _ => none) h _ = _
        rw [va_up_ne _ _ (Ne.symm oh)]
        exact g5
theorem rb_f : ∀ k, k < 120 → (fkc 0 k = 0 → loF.getD k (-2147483648) ≤ 0 ∧ 0 ≤ hiF.getD k 2147483647) ∧ (fkc 0 k = 2 → tgF.getD k 0 = 999 ∨ (30 ≤ tgF.getD k 0 ∧ tgF.getD k 0 < 110 ∧ slF.getD (tgF.getD k 0 - 30) 0 = k)) := by decide +kernel
theorem rb_a : ∀ i, i < 80 → (20 ≤ phL.getD i 28 ∧ phL.getD i 28 < 24) ∧ loA.getD i (-2147483648) ≤ 0 ∧ 0 ≤ hiA.getD i 2147483647 := by decide +kernel
theorem ph_a {i : Nat} (hi : i < 80) : ph (30 + i) = phL.getD i 28 := by
  unfold ph
  rw [if_neg (by omega), if_pos (by omega), show 30 + i - 30 = i by omega]
/-- all is made: the reference's roles -/
theorem rb_ok {I : Nat → Nat → Int32} (hB : RB h Ls K κ) (hl : Ls.length = 80) (h1 : ∀ a i, a ≠ Ls.getD 11 0 → I a i = sI κ.1 a i) (h2 : ∀ i, -1 ≤ (I (Ls.getD 11 0) i).toInt ∧ (I (Ls.getD 11 0) i).toInt ≤ 0) : OKM h (fun j => Ls.getD j 0) (sL κ.1, K, sN κ.1, I, sJ κ.1, sP κ.1) ∧ ∀ a ∈ sL κ.1, ph (K a) = sK κ.1 a := by
  obtain ⟨b1, b2, b3, b4, b5, b6⟩ := hB
  have k0 : (0 : Int32).toInt = 0 := rfl
  have nh : ∀ i, i < 80 → Ls.getD i 0 ≠ h := fun i hi e => b2 (by rw [← e]; exact gd_mem (by omega))
  have ix : ∀ a ∈ sL κ.1, a = h ∨ ∃ i, i < 80 ∧ a = Ls.getD i 0 := fun a ha => by
    rw [b1] at ha
    rcases List.mem_cons.mp ha with e | e
    · exact Or.inl e
    · obtain ⟨i, hi, e⟩ := List.getElem_of_mem e
      exact Or.inr ⟨i, by omega, by rw [gd_eq hi]; exact e.symm⟩
  have mi : ∀ i, i < 80 → Ls.getD i 0 ∈ sL κ.1 := fun i hi => by
    rw [b1]
    exact List.mem_cons_of_mem _ (gd_mem (by omega))
  have mh : h ∈ sL κ.1 := by
    rw [b1]
    exact List.mem_cons_self
  have Ih : ∀ i, (I h i).toInt = 0 := fun i => by
    rw [h1 h i (Ne.symm (nh 11 (by decide))), b5]
    rfl
  have Ia : ∀ j i, j < 80 → (j ≠ 11 → (I (Ls.getD j 0) i).toInt = 0) ∧ -1 ≤ (I (Ls.getD j 0) i).toInt ∧ (I (Ls.getD j 0) i).toInt ≤ 0 := fun j i hj => by
    by_cases e : Ls.getD j 0 = Ls.getD 11 0
    · rw [e]
      refine ⟨fun n => ?_, h2 i⟩
      have g1 := (b6 j (by omega)).1.2
      have g2 := (b6 11 (by omega)).1.2
      rw [e, g2] at g1
      omega
    · rw [h1 _ i e, (b6 j (by omega)).2.2.1]
      show (_ → (0 : Int32).toInt = 0) ∧ -1 ≤ (0 : Int32).toInt ∧ (0 : Int32).toInt ≤ 0
      omega
  refine ⟨⟨fun a ha => ?_, ⟨mh, b4.2⟩, fun j hj => ⟨(b6 j (by omega)).2.2.2, mi j hj, (b6 j (by omega)).1.2, (b6 j (by omega)).2.1⟩⟩, fun a ha => ?_⟩
  · rcases ix a ha with e | ⟨i, hi, e⟩
    · subst e
      have kh : sK (sL κ.1, K, sN κ.1, I, sJ κ.1, sP κ.1) a = 0 := b4.2
      rw [kh]
      refine ⟨Or.inl (by decide), fun k hk => ?_⟩
      have hk : k < 120 := by
        unfold nb at hk
        rw [kh] at hk
        exact hk
      obtain ⟨f1, f2⟩ := rb_f k hk
      refine ⟨fun q => ?_, fun q => ?_⟩
      · obtain ⟨g1, g2⟩ := f1 q
        show loF.getD k (-2147483648) ≤ (I a k).toInt ∧ (I a k).toInt ≤ hiF.getD k 2147483647
        rw [Ih]
        exact ⟨g1, g2⟩
      · rcases f2 q with g | ⟨g1, g2, g3⟩
        · exact Or.inl g
        · refine Or.inr (Or.inr ⟨Ls.getD (tgF.getD k 0 - 30) 0, ?_, mi _ (by omega), ?_⟩)
          · have := (b6 (tgF.getD k 0 - 30) (by omega)).2.2.2
            rw [g3] at this
            exact this
          · show K _ = tgF.getD k 0
            rw [(b6 (tgF.getD k 0 - 30) (by omega)).1.2]
            omega
    · subst e
      have ka : sK (sL κ.1, K, sN κ.1, I, sJ κ.1, sP κ.1) (Ls.getD i 0) = 30 + i := (b6 i (by omega)).1.2
      have na : sN (sL κ.1, K, sN κ.1, I, sJ κ.1, sP κ.1) (Ls.getD i 0) = lnL.getD i 0 := (b6 i (by omega)).2.1
      obtain ⟨r1, r2, r3⟩ := rb_a i hi
      rw [ka, na]
      refine ⟨Or.inr (by show lnL.getD i 0 = lnL.getD (30 + i - 30) 0; rw [show 30 + i - 30 = i by omega]), fun k hk => ⟨fun q => ?_, fun q => ?_⟩⟩
      · have v := Ia i k hi
        show (if 30 + i = 0 then _ else if 30 ≤ 30 + i then loA.getD (30 + i - 30) (-2147483648) else (-2147483648 : Int)) ≤ (I (Ls.getD i 0) k).toInt ∧ (I (Ls.getD i 0) k).toInt ≤ (if 30 + i = 0 then _ else if 30 ≤ 30 + i then hiA.getD (30 + i - 30) 2147483647 else (2147483647 : Int))
        rw [if_neg (by omega), if_pos (by omega), if_neg (by omega), if_pos (by omega), show 30 + i - 30 = i by omega]
        by_cases c : i = 11
        · subst c
          exact ⟨v.2.1, by have : hiA.getD 11 2147483647 = 79 := rfl; omega⟩
        · have := v.1 c
          omega
      · exfalso
        unfold ek at q
        rw [ph_a hi, if_neg (by omega)] at q
        split at q
        · omega
        · rw [if_pos r1.2] at q
          omega
  · rcases ix a ha with e | ⟨i, hi, e⟩
    · rw [e, b4.1, b4.2]
      rfl
    · rw [e, (b6 i (by omega)).1.1, (b6 i (by omega)).1.2, ph_a hi]
set_option maxHeartbeats 4000000 in
theorem x12_tail (hB : RB h Ls K κ) (hl : Ls.length = 80) {post : CS → Prop} (kk : ∀ σ' : HS, RI h (fun j => Ls.getD j 0) 0 σ' → post (unl σ', κ.2)) : lc (fun (K244 : Int32 → CS → Prop) (x242 : Int32) (κ243 : CS) => (((4 : Int32).toInt ≤ x242.toInt) → ∃ (L : Nat → Nat) (K : Nat → Nat), (∀ a ∈ sL κ243.1, ph (K a) = sK κ243.1 a) ∧ MdI h L (sL κ243.1, K, κ243.1.2.2) ∧ F_X12_begin h L (fun σ' => post (unl σ', κ243.2)) (sL κ243.1, K, κ243.1.2.2)) ∧ ((x242.toInt < (4 : Int32).toInt) → (h ∈ sL κ243.1 ∧ sK κ243.1 h = 0) ∧ ∀ z247 : Option Nat, z247 = sP κ243.1 h 13 → ∃ b : Nat, z247 = some b ∧ (b ∈ sL κ243.1 ∧ sK κ243.1 b = 21) ∧ (0 ≤ x242.toInt ∧ x242.toInt < (sN κ243.1 b : Int)) ∧ ∀ κ248 : CS, κ248 = (h_uI κ243.1 b x242.toInt.toNat (-1), κ243.2) → ∀ z249 : Int32, z249 = x242 + 1 → K244 z249 κ248)) 0 κ := by
  have k0 : (0 : Int32).toInt = 0 := rfl
  have k1 : (1 : Int32).toInt = 1 := rfl
  have k4 : (4 : Int32).toInt = 4 := rfl
  have km : ((-1) : Int32).toInt = -1 := rfl
  have b11 := hB.2.2.2.2.2 11 (by omega)
  have nh11 : h ≠ Ls.getD 11 0 := fun e => hB.2.1 (by rw [e]; exact gd_mem (by omega))
  have m11 : Ls.getD 11 0 ∈ sL κ.1 := by
    rw [hB.1]
    exact List.mem_cons_of_mem _ (gd_mem (by omega))
  have mh : h ∈ sL κ.1 := by
    rw [hB.1]
    exact List.mem_cons_self
  refine lc_in (fun (x : Int32) (κ' : CS) => (0 ≤ x.toInt ∧ x.toInt ≤ 4) ∧ (sL κ'.1 = sL κ.1 ∧ sK κ'.1 = sK κ.1 ∧ sN κ'.1 = sN κ.1 ∧ sJ κ'.1 = sJ κ.1 ∧ sP κ'.1 = sP κ.1 ∧ κ'.2 = κ.2) ∧ (∀ a i, a ≠ Ls.getD 11 0 → sI κ'.1 a i = sI κ.1 a i) ∧ (∀ i, -1 ≤ (sI κ'.1 (Ls.getD 11 0) i).toInt ∧ (sI κ'.1 (Ls.getD 11 0) i).toInt ≤ 0) ∧ ∀ i : Nat, (i : Int) < x.toInt → (sI κ'.1 (Ls.getD 11 0) i).toInt = -1) (fun (x : Int32) (_ : CS) => (4 - x.toInt).toNat) ⟨by omega, ⟨rfl, rfl, rfl, rfl, rfl, rfl⟩, fun _ _ _ => rfl, fun i => by rw [b11.2.2.1]; show -1 ≤ (0 : Int32).toInt ∧ (0 : Int32).toInt ≤ 0; omega, fun i hi => by omega⟩ (fun x κ' hJ K9 hK9 => ?_)
  obtain ⟨j1, ⟨j2, j3, j4, j5, j6, j7⟩, j8, j9, j10⟩ := hJ
  refine ⟨fun c => ?_, fun c => ⟨⟨by rw [j2]; exact mh, by rw [j3]; exact hB.2.2.2.1.1⟩, fun z ez => ⟨Ls.getD 11 0, ?_, ⟨by rw [j2]; exact m11, by rw [j3]; exact b11.1.1⟩, ?_, fun κ2 e2 z2 ez2 => ?_⟩⟩⟩
  · obtain ⟨ok, hk⟩ := rb_ok (I := sI κ'.1) hB hl j8 j9
    have es : (sL κ'.1, K, κ'.1.2.2) = (sL κ.1, K, sN κ.1, sI κ'.1, sJ κ.1, sP κ.1) := by
      rw [← j2, ← j4, ← j5, ← j6]
    refine ⟨fun j => Ls.getD j 0, K, by rw [j2, j3]; exact hk, by rw [es]; exact ok.2, ?_⟩
    rw [es]
    refine s2_X12_begin ok ⟨⟨fun _ => 0, fun x hx e => ?_⟩, fun s hs e => ?_⟩ (fun σ' o2 fr gi => ?_)
    · exfalso
      have e : (sI κ'.1 (Ls.getD 1 0) (80 + x)).toInt = 1 := e
      rw [j8 _ _ (fun q => by have g1 := (hB.2.2.2.2.2 1 (by omega)).1.2; have g2 := b11.1.2; rw [q, g2] at g1; omega), (hB.2.2.2.2.2 1 (by omega)).2.2.1] at e
      exact absurd (show (0 : Int32).toInt = 1 from e) (by decide)
    · exfalso
      have e : 0 ≤ (sI κ'.1 (Ls.getD 11 0) s).toInt := e
      rw [j10 s (by omega)] at e
      omega
    · rw [j7]
      refine kk σ' ⟨o2, gi 0 (by omega), fun i hi => ?_⟩
      rw [(fr.2.1 30 (by decide) (by decide) i).1]
      show (sI κ'.1 (Ls.getD 30 0) i).toInt ≤ 4003
      rw [j8 _ _ (fun q => by have g1 := (hB.2.2.2.2.2 30 (by omega)).1.2; have g2 := b11.1.2; rw [q, g2] at g1; omega), (hB.2.2.2.2.2 30 (by omega)).2.2.1]
      show (0 : Int32).toInt ≤ 4003
      omega
  · rw [ez, j6]
    exact b11.2.2.2
  · rw [j4, b11.2.1]
    show 0 ≤ x.toInt ∧ x.toInt < ((4 : Nat) : Int)
    omega
  · have hz2 := i_add ez2 (by omega) (by omega)
    refine hK9 z2 κ2 ⟨by omega, ⟨by rw [e2]; exact j2, by rw [e2]; exact j3, by rw [e2]; exact j4, by rw [e2]; exact j5, by rw [e2]; exact j6, by rw [e2]; exact j7⟩, fun a i ha => ?_, fun i => ?_, fun i hi => ?_⟩ (by (try dsimp only); omega)
    · rw [e2]
      exact (u2_addr ha).trans (j8 a i ha)
    · rw [e2]
      show -1 ≤ (u2 (sI κ'.1) (Ls.getD 11 0) x.toInt.toNat (-1) (Ls.getD 11 0) i).toInt ∧ (u2 (sI κ'.1) (Ls.getD 11 0) x.toInt.toNat (-1) (Ls.getD 11 0) i).toInt ≤ 0
      by_cases q : i = x.toInt.toNat
      · rw [q, u2_same]
        omega
      · rw [u2_pl q]
        exact j9 i
    · rw [e2]
      show (u2 (sI κ'.1) (Ls.getD 11 0) x.toInt.toNat (-1) (Ls.getD 11 0) i).toInt = -1
      by_cases q : i = x.toInt.toNat
      · rw [q, u2_same]
        exact km
      · rw [u2_pl q]
        exact j10 i (by omega)
set_option maxRecDepth 100000 in
set_option maxHeartbeats 4000000 in
theorem i_X12 {G : GE} (hL : sL κ.1 = [h]) (hK : sK κ.1 h = 0) (hI : sI κ.1 h = fun _ => 0) (hb : 1003154 ≤ κ.2) {post : CS → Prop} (kk : ∀ (L : Nat → Nat) (σ' : HS) (n : Nat), n + 1003154 = κ.2 → RI h L 0 σ' → post (unl σ', n)) : F_X12_init G h post κ := by
  unfold F_X12_init
  have B0 : RB h [] (fun _ => 0) κ := ⟨hL, by simp, List.nodup_nil, ⟨hK, rfl⟩, hI, fun i hi => absurd hi (Nat.not_lt_zero i)⟩
  have l0 : ([] : List Nat).length = 0 := rfl
  obtain ⟨C, hC⟩ : ∃ C, C = κ.2 := ⟨_, rfl⟩
  have e0 : κ.2 + 0 = C := hC.symm
  rw [← hC] at hb
  refine rb_st B0 l0 (8000 : Int32) 20 0 8000 rfl (by decide) rfl rfl rfl (by decide) 8012 e0 rfl (Nat.le_trans (by decide) hb) (fun o0 K1 κ1 B1 l1 e1 => ?_)
  refine rb_st B1 l1 (160 : Int32) 23 3 160 rfl (by decide) rfl rfl rfl (by decide) 8184 e1 rfl (Nat.le_trans (by decide) hb) (fun o1 K2 κ2 B2 l2 e2 => ?_)
  refine rb_st B2 l2 (160 : Int32) 21 4 160 rfl (by decide) rfl rfl rfl (by decide) 8356 e2 rfl (Nat.le_trans (by decide) hb) (fun o2 K3 κ3 B3 l3 e3 => ?_)
  refine rb_st B3 l3 (160 : Int32) 23 5 160 rfl (by decide) rfl rfl rfl (by decide) 8528 e3 rfl (Nat.le_trans (by decide) hb) (fun o3 K4 κ4 B4 l4 e4 => ?_)
  refine rb_st B4 l4 (1920 : Int32) 20 6 1920 rfl (by decide) rfl rfl rfl (by decide) 10460 e4 rfl (Nat.le_trans (by decide) hb) (fun o4 K5 κ5 B5 l5 e5 => ?_)
  refine rb_st B5 l5 (160 : Int32) 21 7 160 rfl (by decide) rfl rfl rfl (by decide) 10632 e5 rfl (Nat.le_trans (by decide) hb) (fun o5 K6 κ6 B6 l6 e6 => ?_)
  refine rb_st B6 l6 (160 : Int32) 21 8 160 rfl (by decide) rfl rfl rfl (by decide) 10804 e6 rfl (Nat.le_trans (by decide) hb) (fun o6 K7 κ7 B7 l7 e7 => ?_)
  refine rb_st B7 l7 (640 : Int32) 22 9 640 rfl (by decide) rfl rfl rfl (by decide) 11456 e7 rfl (Nat.le_trans (by decide) hb) (fun o7 K8 κ8 B8 l8 e8 => ?_)
  refine rb_st B8 l8 (160 : Int32) 21 10 160 rfl (by decide) rfl rfl rfl (by decide) 11628 e8 rfl (Nat.le_trans (by decide) hb) (fun o8 K9 κ9 B9 l9 e9 => ?_)
  refine rb_st B9 l9 (655360 : Int32) 20 11 655360 rfl (by decide) rfl rfl rfl (by decide) 667000 e9 rfl (Nat.le_trans (by decide) hb) (fun o9 K10 κ10 B10 l10 e10 => ?_)
  refine rb_st B10 l10 (80 : Int32) 23 12 80 rfl (by decide) rfl rfl rfl (by decide) 667092 e10 rfl (Nat.le_trans (by decide) hb) (fun o10 K11 κ11 B11 l11 e11 => ?_)
  refine rb_st B11 l11 (4 : Int32) 21 13 4 rfl (by decide) rfl rfl rfl (by decide) 667108 e11 rfl (Nat.le_trans (by decide) hb) (fun o11 K12 κ12 B12 l12 e12 => ?_)
  refine rb_st B12 l12 (48 : Int32) 20 14 48 rfl (by decide) rfl rfl rfl (by decide) 667168 e12 rfl (Nat.le_trans (by decide) hb) (fun o12 K13 κ13 B13 l13 e13 => ?_)
  refine rb_st B13 l13 (4 : Int32) 21 15 4 rfl (by decide) rfl rfl rfl (by decide) 667184 e13 rfl (Nat.le_trans (by decide) hb) (fun o13 K14 κ14 B14 l14 e14 => ?_)
  refine rb_st B14 l14 (9 : Int32) 21 17 9 rfl (by decide) rfl rfl rfl (by decide) 667205 e14 rfl (Nat.le_trans (by decide) hb) (fun o14 K15 κ15 B15 l15 e15 => ?_)
  refine rb_st B15 l15 (9 : Int32) 21 18 9 rfl (by decide) rfl rfl rfl (by decide) 667226 e15 rfl (Nat.le_trans (by decide) hb) (fun o15 K16 κ16 B16 l16 e16 => ?_)
  refine rb_st B16 l16 (9 : Int32) 21 19 9 rfl (by decide) rfl rfl rfl (by decide) 667247 e16 rfl (Nat.le_trans (by decide) hb) (fun o16 K17 κ17 B17 l17 e17 => ?_)
  refine rb_st B17 l17 (9 : Int32) 23 20 9 rfl (by decide) rfl rfl rfl (by decide) 667268 e17 rfl (Nat.le_trans (by decide) hb) (fun o17 K18 κ18 B18 l18 e18 => ?_)
  refine rb_st B18 l18 (108 : Int32) 20 21 108 rfl (by decide) rfl rfl rfl (by decide) 667388 e18 rfl (Nat.le_trans (by decide) hb) (fun o18 K19 κ19 B19 l19 e19 => ?_)
  refine rb_st B19 l19 (9 : Int32) 21 22 9 rfl (by decide) rfl rfl rfl (by decide) 667409 e19 rfl (Nat.le_trans (by decide) hb) (fun o19 K20 κ20 B20 l20 e20 => ?_)
  refine rb_st B20 l20 (9 : Int32) 21 23 9 rfl (by decide) rfl rfl rfl (by decide) 667430 e20 rfl (Nat.le_trans (by decide) hb) (fun o20 K21 κ21 B21 l21 e21 => ?_)
  refine rb_st B21 l21 (36 : Int32) 22 24 36 rfl (by decide) rfl rfl rfl (by decide) 667478 e21 rfl (Nat.le_trans (by decide) hb) (fun o21 K22 κ22 B22 l22 e22 => ?_)
  refine rb_st B22 l22 (9 : Int32) 21 25 9 rfl (by decide) rfl rfl rfl (by decide) 667499 e22 rfl (Nat.le_trans (by decide) hb) (fun o22 K23 κ23 B23 l23 e23 => ?_)
  refine rb_st B23 l23 (9 : Int32) 21 26 9 rfl (by decide) rfl rfl rfl (by decide) 667520 e23 rfl (Nat.le_trans (by decide) hb) (fun o23 K24 κ24 B24 l24 e24 => ?_)
  refine rb_st B24 l24 (9216 : Int32) 20 27 9216 rfl (by decide) rfl rfl rfl (by decide) 676748 e24 rfl (Nat.le_trans (by decide) hb) (fun o24 K25 κ25 B25 l25 e25 => ?_)
  refine rb_st B25 l25 (6 : Int32) 23 28 6 rfl (by decide) rfl rfl rfl (by decide) 676766 e25 rfl (Nat.le_trans (by decide) hb) (fun o25 K26 κ26 B26 l26 e26 => ?_)
  refine rb_st B26 l26 (6 : Int32) 23 29 6 rfl (by decide) rfl rfl rfl (by decide) 676784 e26 rfl (Nat.le_trans (by decide) hb) (fun o26 K27 κ27 B27 l27 e27 => ?_)
  refine rb_st B27 l27 (96000 : Int32) 20 30 96000 rfl (by decide) rfl rfl rfl (by decide) 772796 e27 rfl (Nat.le_trans (by decide) hb) (fun o27 K28 κ28 B28 l28 e28 => ?_)
  refine rb_st B28 l28 (6 : Int32) 21 31 6 rfl (by decide) rfl rfl rfl (by decide) 772814 e28 rfl (Nat.le_trans (by decide) hb) (fun o28 K29 κ29 B29 l29 e29 => ?_)
  refine rb_st B29 l29 (72600 : Int32) 20 32 72600 rfl (by decide) rfl rfl rfl (by decide) 845426 e29 rfl (Nat.le_trans (by decide) hb) (fun o29 K30 κ30 B30 l30 e30 => ?_)
  refine rb_st B30 l30 (6 : Int32) 21 33 6 rfl (by decide) rfl rfl rfl (by decide) 845444 e30 rfl (Nat.le_trans (by decide) hb) (fun o30 K31 κ31 B31 l31 e31 => ?_)
  refine rb_st B31 l31 (96 : Int32) 22 34 96 rfl (by decide) rfl rfl rfl (by decide) 845552 e31 rfl (Nat.le_trans (by decide) hb) (fun o31 K32 κ32 B32 l32 e32 => ?_)
  refine rb_st B32 l32 (6 : Int32) 21 35 6 rfl (by decide) rfl rfl rfl (by decide) 845570 e32 rfl (Nat.le_trans (by decide) hb) (fun o32 K33 κ33 B33 l33 e33 => ?_)
  refine rb_st B33 l33 (6 : Int32) 22 36 6 rfl (by decide) rfl rfl rfl (by decide) 845588 e33 rfl (Nat.le_trans (by decide) hb) (fun o33 K34 κ34 B34 l34 e34 => ?_)
  refine rb_st B34 l34 (8 : Int32) 22 37 8 rfl (by decide) rfl rfl rfl (by decide) 845608 e34 rfl (Nat.le_trans (by decide) hb) (fun o34 K35 κ35 B35 l35 e35 => ?_)
  refine rb_st B35 l35 (8 : Int32) 21 38 8 rfl (by decide) rfl rfl rfl (by decide) 845628 e35 rfl (Nat.le_trans (by decide) hb) (fun o35 K36 κ36 B36 l36 e36 => ?_)
  refine rb_st B36 l36 (128 : Int32) 20 39 128 rfl (by decide) rfl rfl rfl (by decide) 845768 e36 rfl (Nat.le_trans (by decide) hb) (fun o36 K37 κ37 B37 l37 e37 => ?_)
  refine rb_st B37 l37 (8 : Int32) 21 40 8 rfl (by decide) rfl rfl rfl (by decide) 845788 e37 rfl (Nat.le_trans (by decide) hb) (fun o37 K38 κ38 B38 l38 e38 => ?_)
  refine rb_st B38 l38 (16 : Int32) 22 41 16 rfl (by decide) rfl rfl rfl (by decide) 845816 e38 rfl (Nat.le_trans (by decide) hb) (fun o38 K39 κ39 B39 l39 e39 => ?_)
  refine rb_st B39 l39 (16 : Int32) 21 42 16 rfl (by decide) rfl rfl rfl (by decide) 845844 e39 rfl (Nat.le_trans (by decide) hb) (fun o39 K40 κ40 B40 l40 e40 => ?_)
  refine rb_st B40 l40 (16 : Int32) 21 43 16 rfl (by decide) rfl rfl rfl (by decide) 845872 e40 rfl (Nat.le_trans (by decide) hb) (fun o40 K41 κ41 B41 l41 e41 => ?_)
  refine rb_st B41 l41 (40 : Int32) 22 44 40 rfl (by decide) rfl rfl rfl (by decide) 845924 e41 rfl (Nat.le_trans (by decide) hb) (fun o41 K42 κ42 B42 l42 e42 => ?_)
  refine rb_st B42 l42 (40 : Int32) 21 45 40 rfl (by decide) rfl rfl rfl (by decide) 845976 e42 rfl (Nat.le_trans (by decide) hb) (fun o42 K43 κ43 B43 l43 e43 => ?_)
  refine rb_st B43 l43 (40 : Int32) 21 46 40 rfl (by decide) rfl rfl rfl (by decide) 846028 e43 rfl (Nat.le_trans (by decide) hb) (fun o43 K44 κ44 B44 l44 e44 => ?_)
  refine rb_st B44 l44 (40 : Int32) 21 47 40 rfl (by decide) rfl rfl rfl (by decide) 846080 e44 rfl (Nat.le_trans (by decide) hb) (fun o44 K45 κ45 B45 l45 e45 => ?_)
  refine rb_st B45 l45 (40 : Int32) 21 48 40 rfl (by decide) rfl rfl rfl (by decide) 846132 e45 rfl (Nat.le_trans (by decide) hb) (fun o45 K46 κ46 B46 l46 e46 => ?_)
  refine rb_st B46 l46 (40 : Int32) 21 49 40 rfl (by decide) rfl rfl rfl (by decide) 846184 e46 rfl (Nat.le_trans (by decide) hb) (fun o46 K47 κ47 B47 l47 e47 => ?_)
  refine rb_st B47 l47 (40 : Int32) 23 50 40 rfl (by decide) rfl rfl rfl (by decide) 846236 e47 rfl (Nat.le_trans (by decide) hb) (fun o47 K48 κ48 B48 l48 e48 => ?_)
  refine rb_st B48 l48 (40 : Int32) 21 51 40 rfl (by decide) rfl rfl rfl (by decide) 846288 e48 rfl (Nat.le_trans (by decide) hb) (fun o48 K49 κ49 B49 l49 e49 => ?_)
  refine rb_st B49 l49 (40 : Int32) 22 52 40 rfl (by decide) rfl rfl rfl (by decide) 846340 e49 rfl (Nat.le_trans (by decide) hb) (fun o49 K50 κ50 B50 l50 e50 => ?_)
  refine rb_st B50 l50 (40 : Int32) 23 53 40 rfl (by decide) rfl rfl rfl (by decide) 846392 e50 rfl (Nat.le_trans (by decide) hb) (fun o50 K51 κ51 B51 l51 e51 => ?_)
  refine rb_st B51 l51 (40 : Int32) 21 54 40 rfl (by decide) rfl rfl rfl (by decide) 846444 e51 rfl (Nat.le_trans (by decide) hb) (fun o51 K52 κ52 B52 l52 e52 => ?_)
  refine rb_st B52 l52 (800 : Int32) 21 55 800 rfl (by decide) rfl rfl rfl (by decide) 847256 e52 rfl (Nat.le_trans (by decide) hb) (fun o52 K53 κ53 B53 l53 e53 => ?_)
  refine rb_st B53 l53 (40 : Int32) 21 56 40 rfl (by decide) rfl rfl rfl (by decide) 847308 e53 rfl (Nat.le_trans (by decide) hb) (fun o53 K54 κ54 B54 l54 e54 => ?_)
  refine rb_st B54 l54 (480 : Int32) 20 57 480 rfl (by decide) rfl rfl rfl (by decide) 847800 e54 rfl (Nat.le_trans (by decide) hb) (fun o54 K55 κ55 B55 l55 e55 => ?_)
  refine rb_st B55 l55 (40 : Int32) 21 58 40 rfl (by decide) rfl rfl rfl (by decide) 847852 e55 rfl (Nat.le_trans (by decide) hb) (fun o55 K56 κ56 B56 l56 e56 => ?_)
  refine rb_st B56 l56 (80 : Int32) 22 64 80 rfl (by decide) rfl rfl rfl (by decide) 847944 e56 rfl (Nat.le_trans (by decide) hb) (fun o56 K57 κ57 B57 l57 e57 => ?_)
  refine rb_st B57 l57 (80 : Int32) 21 65 80 rfl (by decide) rfl rfl rfl (by decide) 848036 e57 rfl (Nat.le_trans (by decide) hb) (fun o57 K58 κ58 B58 l58 e58 => ?_)
  refine rb_st B58 l58 (80 : Int32) 22 66 80 rfl (by decide) rfl rfl rfl (by decide) 848128 e58 rfl (Nat.le_trans (by decide) hb) (fun o58 K59 κ59 B59 l59 e59 => ?_)
  refine rb_st B59 l59 (80 : Int32) 22 67 80 rfl (by decide) rfl rfl rfl (by decide) 848220 e59 rfl (Nat.le_trans (by decide) hb) (fun o59 K60 κ60 B60 l60 e60 => ?_)
  refine rb_st B60 l60 (80 : Int32) 23 68 80 rfl (by decide) rfl rfl rfl (by decide) 848312 e60 rfl (Nat.le_trans (by decide) hb) (fun o60 K61 κ61 B61 l61 e61 => ?_)
  refine rb_st B61 l61 (16 : Int32) 21 70 16 rfl (by decide) rfl rfl rfl (by decide) 848340 e61 rfl (Nat.le_trans (by decide) hb) (fun o61 K62 κ62 B62 l62 e62 => ?_)
  refine rb_st B62 l62 (16 : Int32) 21 71 16 rfl (by decide) rfl rfl rfl (by decide) 848368 e62 rfl (Nat.le_trans (by decide) hb) (fun o62 K63 κ63 B63 l63 e63 => ?_)
  refine rb_st B63 l63 (16 : Int32) 21 72 16 rfl (by decide) rfl rfl rfl (by decide) 848396 e63 rfl (Nat.le_trans (by decide) hb) (fun o63 K64 κ64 B64 l64 e64 => ?_)
  refine rb_st B64 l64 (16 : Int32) 23 73 16 rfl (by decide) rfl rfl rfl (by decide) 848424 e64 rfl (Nat.le_trans (by decide) hb) (fun o64 K65 κ65 B65 l65 e65 => ?_)
  refine rb_st B65 l65 (16 : Int32) 22 74 16 rfl (by decide) rfl rfl rfl (by decide) 848452 e65 rfl (Nat.le_trans (by decide) hb) (fun o65 K66 κ66 B66 l66 e66 => ?_)
  refine rb_st B66 l66 (16 : Int32) 22 75 16 rfl (by decide) rfl rfl rfl (by decide) 848480 e66 rfl (Nat.le_trans (by decide) hb) (fun o66 K67 κ67 B67 l67 e67 => ?_)
  refine rb_st B67 l67 (16 : Int32) 21 76 16 rfl (by decide) rfl rfl rfl (by decide) 848508 e67 rfl (Nat.le_trans (by decide) hb) (fun o67 K68 κ68 B68 l68 e68 => ?_)
  refine rb_st B68 l68 (16 : Int32) 21 77 16 rfl (by decide) rfl rfl rfl (by decide) 848536 e68 rfl (Nat.le_trans (by decide) hb) (fun o68 K69 κ69 B69 l69 e69 => ?_)
  refine rb_st B69 l69 (16 : Int32) 22 78 16 rfl (by decide) rfl rfl rfl (by decide) 848564 e69 rfl (Nat.le_trans (by decide) hb) (fun o69 K70 κ70 B70 l70 e70 => ?_)
  refine rb_st B70 l70 (16 : Int32) 21 79 16 rfl (by decide) rfl rfl rfl (by decide) 848592 e70 rfl (Nat.le_trans (by decide) hb) (fun o70 K71 κ71 B71 l71 e71 => ?_)
  refine rb_st B71 l71 (16 : Int32) 22 80 16 rfl (by decide) rfl rfl rfl (by decide) 848620 e71 rfl (Nat.le_trans (by decide) hb) (fun o71 K72 κ72 B72 l72 e72 => ?_)
  refine rb_st B72 l72 (16 : Int32) 22 81 16 rfl (by decide) rfl rfl rfl (by decide) 848648 e72 rfl (Nat.le_trans (by decide) hb) (fun o72 K73 κ73 B73 l73 e73 => ?_)
  refine rb_st B73 l73 (16 : Int32) 23 82 16 rfl (by decide) rfl rfl rfl (by decide) 848676 e73 rfl (Nat.le_trans (by decide) hb) (fun o73 K74 κ74 B74 l74 e74 => ?_)
  refine rb_st B74 l74 (16 : Int32) 21 83 16 rfl (by decide) rfl rfl rfl (by decide) 848704 e74 rfl (Nat.le_trans (by decide) hb) (fun o74 K75 κ75 B75 l75 e75 => ?_)
  refine rb_st B75 l75 (64000 : Int32) 20 84 64000 rfl (by decide) rfl rfl rfl (by decide) 912716 e75 rfl (Nat.le_trans (by decide) hb) (fun o75 K76 κ76 B76 l76 e76 => ?_)
  refine rb_st B76 l76 (90000 : Int32) 20 89 90000 rfl (by decide) rfl rfl rfl (by decide) 1002728 e76 rfl (Nat.le_trans (by decide) hb) (fun o76 K77 κ77 B77 l77 e77 => ?_)
  refine rb_st B77 l77 (130 : Int32) 21 112 130 rfl (by decide) rfl rfl rfl (by decide) 1002870 e77 rfl (Nat.le_trans (by decide) hb) (fun o77 K78 κ78 B78 l78 e78 => ?_)
  refine rb_st B78 l78 (130 : Int32) 21 113 130 rfl (by decide) rfl rfl rfl (by decide) 1003012 e78 rfl (Nat.le_trans (by decide) hb) (fun o78 K79 κ79 B79 l79 e79 => ?_)
  refine rb_st B79 l79 (130 : Int32) 21 114 130 rfl (by decide) rfl rfl rfl (by decide) 1003154 e79 rfl (Nat.le_trans (by decide) hb) (fun o79 K80 κ80 B80 l80 e80 => ?_)
  exact x12_tail B80 l80 (fun σ' r => kk _ σ' κ80.2 (e80.trans hC) r)
end RA1

def mF (L : Nat → Nat) : List Value := [.ref (L 0), .int 0, .long 0, .ref (L 1), .ref (L 2), .ref (L 3), .ref (L 4), .ref (L 5), .ref (L 6), .ref (L 7), .ref (L 8), .ref (L 9), .ref (L 10), .ref (L 11), .ref (L 12), .ref (L 13), .int 0, .ref (L 14), .ref (L 15), .ref (L 16), .ref (L 17), .ref (L 18), .ref (L 19), .ref (L 20), .ref (L 21), .ref (L 22), .ref (L 23), .ref (L 24), .ref (L 25), .ref (L 26), .ref (L 27), .ref (L 28), .ref (L 29), .ref (L 30), .ref (L 31), .ref (L 32), .ref (L 33), .ref (L 34), .ref (L 35), .ref (L 36), .ref (L 37), .ref (L 38), .ref (L 39), .ref (L 40), .ref (L 41), .ref (L 42), .ref (L 43), .ref (L 44), .ref (L 45), .ref (L 46), .ref (L 47), .ref (L 48), .ref (L 49), .ref (L 50), .ref (L 51), .ref (L 52), .ref (L 53), .ref (L 54), .ref (L 55), .long 0, .long 0, .long 0, .long 0, .int 0, .ref (L 56), .ref (L 57), .ref (L 58), .ref (L 59), .ref (L 60), .int 0, .ref (L 61), .ref (L 62), .ref (L 63), .ref (L 64), .ref (L 65), .ref (L 66), .ref (L 67), .ref (L 68), .ref (L 69), .ref (L 70), .ref (L 71), .ref (L 72), .ref (L 73), .ref (L 74), .ref (L 75), .null, .int 0, .int 0, .int 0, .ref (L 76), .int 0, .int 0, .int 0, .int 0, .int 0, .int 0, .long 0, .long 0, .int 0, .int 0, .int 0, .long 0, .long 0, .int 0, .long 0, .long 0, .long 0, .long 0, .int 0, .int 0, .int 0, .long 0, .ref (L 77), .ref (L 78), .ref (L 79), .int 0, .int 0, .int 0, .int 0, .int 0]
def mW (t : Nat → ClassId) (h0 : Nat) (L : Nat → Nat) (sr : Nat → Int32) : va_W := [(h0, .inr (0, mF L)), ((L 0), .inl (t 0, 8000, .inl (fun _ => 0))), ((L 1), .inl (t 3, 160, .inl (fun _ => 0))), ((L 2), .inl (t 1, 160, .inl (fun _ => 0))), ((L 3), .inl (t 3, 160, .inl (fun _ => 0))), ((L 4), .inl (t 0, 1920, .inl (fun _ => 0))), ((L 5), .inl (t 1, 160, .inl (fun _ => 0))), ((L 6), .inl (t 1, 160, .inl (fun _ => 0))), ((L 7), .inl (t 2, 640, .inr (.inl (fun _ => 0)))), ((L 8), .inl (t 1, 160, .inl (fun _ => 0))), ((L 9), .inl (t 0, 655360, .inl (fun _ => 0))), ((L 10), .inl (t 3, 80, .inl (fun _ => 0))), ((L 11), .inl (t 1, 4, .inl sr)), ((L 12), .inl (t 0, 48, .inl (fun _ => 0))), ((L 13), .inl (t 1, 4, .inl (fun _ => 0))), ((L 14), .inl (t 1, 9, .inl (fun _ => 0))), ((L 15), .inl (t 1, 9, .inl (fun _ => 0))), ((L 16), .inl (t 1, 9, .inl (fun _ => 0))), ((L 17), .inl (t 3, 9, .inl (fun _ => 0))), ((L 18), .inl (t 0, 108, .inl (fun _ => 0))), ((L 19), .inl (t 1, 9, .inl (fun _ => 0))), ((L 20), .inl (t 1, 9, .inl (fun _ => 0))), ((L 21), .inl (t 2, 36, .inr (.inl (fun _ => 0)))), ((L 22), .inl (t 1, 9, .inl (fun _ => 0))), ((L 23), .inl (t 1, 9, .inl (fun _ => 0))), ((L 24), .inl (t 0, 9216, .inl (fun _ => 0))), ((L 25), .inl (t 3, 6, .inl (fun _ => 0))), ((L 26), .inl (t 3, 6, .inl (fun _ => 0))), ((L 27), .inl (t 0, 96000, .inl (fun _ => 0))), ((L 28), .inl (t 1, 6, .inl (fun _ => 0))), ((L 29), .inl (t 0, 72600, .inl (fun _ => 0))), ((L 30), .inl (t 1, 6, .inl (fun _ => 0))), ((L 31), .inl (t 2, 96, .inr (.inl (fun _ => 0)))), ((L 32), .inl (t 1, 6, .inl (fun _ => 0))), ((L 33), .inl (t 2, 6, .inr (.inl (fun _ => 0)))), ((L 34), .inl (t 2, 8, .inr (.inl (fun _ => 0)))), ((L 35), .inl (t 1, 8, .inl (fun _ => 0))), ((L 36), .inl (t 0, 128, .inl (fun _ => 0))), ((L 37), .inl (t 1, 8, .inl (fun _ => 0))), ((L 38), .inl (t 2, 16, .inr (.inl (fun _ => 0)))), ((L 39), .inl (t 1, 16, .inl (fun _ => 0))), ((L 40), .inl (t 1, 16, .inl (fun _ => 0))), ((L 41), .inl (t 2, 40, .inr (.inl (fun _ => 0)))), ((L 42), .inl (t 1, 40, .inl (fun _ => 0))), ((L 43), .inl (t 1, 40, .inl (fun _ => 0))), ((L 44), .inl (t 1, 40, .inl (fun _ => 0))), ((L 45), .inl (t 1, 40, .inl (fun _ => 0))), ((L 46), .inl (t 1, 40, .inl (fun _ => 0))), ((L 47), .inl (t 3, 40, .inl (fun _ => 0))), ((L 48), .inl (t 1, 40, .inl (fun _ => 0))), ((L 49), .inl (t 2, 40, .inr (.inl (fun _ => 0)))), ((L 50), .inl (t 3, 40, .inl (fun _ => 0))), ((L 51), .inl (t 1, 40, .inl (fun _ => 0))), ((L 52), .inl (t 1, 800, .inl (fun _ => 0))), ((L 53), .inl (t 1, 40, .inl (fun _ => 0))), ((L 54), .inl (t 0, 480, .inl (fun _ => 0))), ((L 55), .inl (t 1, 40, .inl (fun _ => 0))), ((L 56), .inl (t 2, 80, .inr (.inl (fun _ => 0)))), ((L 57), .inl (t 1, 80, .inl (fun _ => 0))), ((L 58), .inl (t 2, 80, .inr (.inl (fun _ => 0)))), ((L 59), .inl (t 2, 80, .inr (.inl (fun _ => 0)))), ((L 60), .inl (t 3, 80, .inl (fun _ => 0))), ((L 61), .inl (t 1, 16, .inl (fun _ => 0))), ((L 62), .inl (t 1, 16, .inl (fun _ => 0))), ((L 63), .inl (t 1, 16, .inl (fun _ => 0))), ((L 64), .inl (t 3, 16, .inl (fun _ => 0))), ((L 65), .inl (t 2, 16, .inr (.inl (fun _ => 0)))), ((L 66), .inl (t 2, 16, .inr (.inl (fun _ => 0)))), ((L 67), .inl (t 1, 16, .inl (fun _ => 0))), ((L 68), .inl (t 1, 16, .inl (fun _ => 0))), ((L 69), .inl (t 2, 16, .inr (.inl (fun _ => 0)))), ((L 70), .inl (t 1, 16, .inl (fun _ => 0))), ((L 71), .inl (t 2, 16, .inr (.inl (fun _ => 0)))), ((L 72), .inl (t 2, 16, .inr (.inl (fun _ => 0)))), ((L 73), .inl (t 3, 16, .inl (fun _ => 0))), ((L 74), .inl (t 1, 16, .inl (fun _ => 0))), ((L 75), .inl (t 0, 64000, .inl (fun _ => 0))), ((L 76), .inl (t 0, 90000, .inl (fun _ => 0))), ((L 77), .inl (t 1, 130, .inl (fun _ => 0))), ((L 78), .inl (t 1, 130, .inl (fun _ => 0))), ((L 79), .inl (t 1, 130, .inl (fun _ => 0)))]
def lineA (c a b : Int32) : Int32 := if c < 0 then b else if 6 ≤ c then b else a
theorem line_cases (k : Int32) : (∀ a b, lineA k a b = b) ∨ ∃ j : Nat, j < 6 ∧ k = nI j ∧ ∀ a b, lineA k a b = a := by
  by_cases h : k < 0
  · exact Or.inl (fun a b => by unfold lineA; rw [if_pos h])
  · by_cases h2 : 6 ≤ k
    · exact Or.inl (fun a b => by unfold lineA; rw [if_neg h, if_pos h2])
    · rcases pk_ix k (n := 6) (by decide) with h3 | h3 | ⟨j, hj, e⟩
      · exact absurd h3 h
      · exact absurd h3 h2
      · exact Or.inr ⟨j, hj, e, fun a b => by unfold lineA; rw [if_neg h, if_neg h2]⟩
def tapeA (n : Int32) : Int32 := if n = 0 then 0 else -1
def tickA (n : Int32) : Int32 := if n < 0 then 0 else if 1000000 < n then 0 else 1
def toldA (n : Int32) : Int32 := if n < 0 then -1 else if 8 < n then -1 else 0
set_option maxRecDepth 100000 in
set_option maxHeartbeats 4000000 in
theorem c_X12_isLine (l : Launch) (D : va_G) (t : Nat → ClassId) (ws : va_W) (k : Int32) (sz : Nat) : KI l D t yX12_isLine cX12_isLine 1 (some .boolean) ({ frames := 0, cells := 0, slots := 0, locals := 0 }) ws sz [.int k] (lineA k 1 0) := by
  refine go (by decide) (Nat.le_of_ble_eq_true rfl) ?_
  intro p e s m below meth c ls A hF hr hlk hin hsz hAe hP hD hS hA hl
  rw [hAe]
  clear hAe hsz
  have hF : FX p m c cX12_isLine 1 s _ RX12 D t := hF
  have hx := hF.1.1
  have hb := hF.1.2.1
  have hls := hl.1
  have hl : lv_has ls 1 [(0, .int k)] := hl
  refine lv_iload_n hx hb dX12_isLine_0 rfl (lv_at hl 0 rfl) ?_
  refine lv_if_lt (tgt := 14) hx hb dX12_isLine_1 rfl (fun h1 => ?_) (fun h1 => ?_)
  · refine lv_iconst (v := 0) hx hb dX12_isLine_14 (by decide) ?_
    exact r_retK hF hr hlk rfl dX12_isLine_15 hP hS (by unfold lineA; rw [if_pos h1])
  · refine lv_iload_n hx hb dX12_isLine_4 rfl (lv_at hl 0 rfl) ?_
    refine lv_bipush (v := 6) hx hb dX12_isLine_5 (by decide) ?_
    refine lv_icmp_ge (tgt := 14) hx hb dX12_isLine_7 rfl (fun h2 => ?_) (fun h2 => ?_)
    · refine lv_iconst (v := 0) hx hb dX12_isLine_14 (by decide) ?_
      exact r_retK hF hr hlk rfl dX12_isLine_15 hP hS (by unfold lineA; rw [if_neg h1, if_pos h2])
    · refine lv_iconst (v := 1) hx hb dX12_isLine_10 (by decide) ?_
      refine lv_goto (tgt := 15) hx hb dX12_isLine_11 rfl ?_
      exact r_retK hF hr hlk rfl dX12_isLine_15 hP hS (by unfold lineA; rw [if_neg h1, if_neg h2])
set_option maxRecDepth 100000 in
set_option maxHeartbeats 4000000 in
theorem c_X12_outs (l : Launch) (D : va_G) (t : Nat → ClassId) (h0 : Nat) (L : Nat → Nat) (sr : Nat → Int32) (k : Int32) (sz : Nat) : AI l D t yX12_outs cX12_outs 2 (some .int) ({ frames := 1, cells := 0, slots := 0, locals := 20 }) (mW t h0 L sr) sz [.ref h0, .int k] (lineA k 0 (-1)) := by
  refine go (by decide) (Nat.le_of_ble_eq_true rfl) ?_
  intro p e s m below meth c ls A hF hr hlk hin hsz hAe hP hD hS hA hl
  rw [hAe]
  clear hAe hsz
  have hF : FX p m c cX12_outs 2 s _ RX12 D t := hF
  have hx := hF.1.1
  have hb := hF.1.2.1
  have hls := hl.1
  have hl : lv_has ls 2 [(0, .ref h0), (1, .int k)] := hl
  have hP : va_P D cl1 [(h0, .inr (0, mF L)), ((L 28), .inl (t 1, 6, .inl (fun _ => 0)))] s.heap := hP.sub [0, 29] rfl
  have hD : va_D A [(h0, .inr (0, mF L)), ((L 28), .inl (t 1, 6, .inl (fun _ => 0)))] := hD.sub [0, 29] (by decide) rfl
  rcases line_cases k with hk | ⟨j, hj, hkj, hk⟩
  · refine lv_iload_n hx hb dX12_outs_0 rfl (lv_at hl 1 rfl) ?_
    refine r_cKIs (v := 0) (As := [.int k]) (rest := []) hF ms_X12_325 (fun sz => (hk 1 0) ▸ c_X12_isLine l D t _ _ sz) dX12_outs_1 rfl rfl (by decide) rfl hl.1 (by decide) hP hD hS hA (by decide) rfl (fun H locs hP hS => ?_)
    refine lv_if_eq (tgt := 16) hx hb dX12_outs_4 rfl (fun _ => ?_) (fun h => absurd rfl h)
    refine lv_iconst (v := (-1)) hx hb dX12_outs_16 (by decide) ?_
    exact r_retA hF hr hlk rfl dX12_outs_17 hS (hk 0 (-1)).symm
  · refine lv_iload_n hx hb dX12_outs_0 rfl (lv_at hl 1 rfl) ?_
    refine r_cKIs (v := 1) (As := [.int k]) (rest := []) hF ms_X12_325 (fun sz => (hk 1 0) ▸ c_X12_isLine l D t _ _ sz) dX12_outs_1 rfl rfl (by decide) rfl hl.1 (by decide) hP hD hS hA (by decide) rfl (fun H locs hP hS => ?_)
    refine lv_if_eq (tgt := 16) hx hb dX12_outs_4 rfl (fun h => absurd h (by decide)) (fun _ => ?_)
    refine lv_aload_n hx hb dX12_outs_7 rfl (lv_at hl 0 rfl) ?_
    refine r_get hF ci_X12 fl_X12_99 dX12_outs_8 hP (q0 := 0) rfl rfl ?_
    refine lv_iload_n hx hb dX12_outs_11 rfl (lv_at hl 1 rfl) ?_
    refine r_iald (v := 0) hF dX12_outs_12 hP (q0 := 1) rfl (by rw [hkj]; exact vp_in_nI hj (by decide)) rfl ?_
    refine lv_goto (tgt := 17) hx hb dX12_outs_13 rfl ?_
    exact r_retA hF hr hlk rfl dX12_outs_17 hS (hk 0 (-1)).symm
set_option maxRecDepth 100000 in
set_option maxHeartbeats 4000000 in
theorem c_X12_drop (l : Launch) (D : va_G) (t : Nat → ClassId) (h0 : Nat) (L : Nat → Nat) (sr : Nat → Int32) (k : Int32) (sz : Nat) : AI l D t yX12_drop cX12_drop 3 (some .int) ({ frames := 1, cells := 0, slots := 0, locals := 20 }) (mW t h0 L sr) sz [.ref h0, .int k] (lineA k 0 (-1)) := by
  refine go (by decide) (Nat.le_of_ble_eq_true rfl) ?_
  intro p e s m below meth c ls A hF hr hlk hin hsz hAe hP hD hS hA hl
  rw [hAe]
  clear hAe hsz
  have hF : FX p m c cX12_drop 3 s _ RX12 D t := hF
  have hx := hF.1.1
  have hb := hF.1.2.1
  have hls := hl.1
  have hl : lv_has ls 3 [(0, .ref h0), (1, .int k)] := hl
  have hP : va_P D cl1 [(h0, .inr (0, mF L)), ((L 28), .inl (t 1, 6, .inl (fun _ => 0)))] s.heap := hP.sub [0, 29] rfl
  have hD : va_D A [(h0, .inr (0, mF L)), ((L 28), .inl (t 1, 6, .inl (fun _ => 0)))] := hD.sub [0, 29] (by decide) rfl
  rcases line_cases k with hk | ⟨j, hj, hkj, hk⟩
  · refine lv_iload_n hx hb dX12_drop_0 rfl (lv_at hl 1 rfl) ?_
    refine r_cKIs (v := 0) (As := [.int k]) (rest := []) hF ms_X12_325 (fun sz => (hk 1 0) ▸ c_X12_isLine l D t _ _ sz) dX12_drop_1 rfl rfl (by decide) rfl hl.1 (by decide) hP hD hS hA (by decide) rfl (fun H locs hP hS => ?_)
    refine lv_if_ne (tgt := 9) hx hb dX12_drop_4 rfl (fun h => absurd h (by decide)) (fun _ => ?_)
    refine lv_iconst (v := (-1)) hx hb dX12_drop_7 (by decide) ?_
    exact r_retA hF hr hlk rfl dX12_drop_8 hS (hk 0 (-1)).symm
  · refine lv_iload_n hx hb dX12_drop_0 rfl (lv_at hl 1 rfl) ?_
    refine r_cKIs (v := 1) (As := [.int k]) (rest := []) hF ms_X12_325 (fun sz => (hk 1 0) ▸ c_X12_isLine l D t _ _ sz) dX12_drop_1 rfl rfl (by decide) rfl hl.1 (by decide) hP hD hS hA (by decide) rfl (fun H locs hP hS => ?_)
    refine lv_if_ne (tgt := 9) hx hb dX12_drop_4 rfl (fun _ => ?_) (fun h => absurd h (by decide))
    refine lv_aload_n hx hb dX12_drop_9 rfl (lv_at hl 0 rfl) ?_
    refine r_get hF ci_X12 fl_X12_99 dX12_drop_10 hP (q0 := 0) rfl rfl ?_
    refine lv_iload_n hx hb dX12_drop_13 rfl (lv_at hl 1 rfl) ?_
    refine r_iald (v := 0) hF dX12_drop_14 hP (q0 := 1) rfl (by rw [hkj]; exact vp_in_nI hj (by decide)) rfl ?_
    refine lv_istore_n (lv' := [(2, .int 0), (0, .ref h0), (1, .int k)]) hx hb dX12_drop_15 rfl hl (by decide) rfl (fun ls hl => ?_)
    refine lv_aload_n hx hb dX12_drop_16 rfl (lv_at hl 1 rfl) ?_
    refine r_get hF ci_X12 fl_X12_99 dX12_drop_17 hP (q0 := 0) rfl rfl ?_
    refine lv_iload_n hx hb dX12_drop_20 rfl (lv_at hl 2 rfl) ?_
    refine lv_iconst (v := 0) hx hb dX12_drop_21 (by decide) ?_
    refine r_iast0 hF dX12_drop_22 hP hD hS (q0 := 1) rfl (by rw [hkj]; exact vp_in_nI hj (by decide)) rfl (fun H locs hP hS => ?_)
    refine lv_iload_n hx hb dX12_drop_23 rfl (lv_at hl 0 rfl) ?_
    exact r_retA hF hr hlk rfl dX12_drop_24 hS (hk 0 (-1)).symm
set_option maxRecDepth 100000 in
set_option maxHeartbeats 4000000 in
theorem c_X12_hang (l : Launch) (D : va_G) (t : Nat → ClassId) (h0 : Nat) (L : Nat → Nat) (sr : Nat → Int32) (k : Int32) (sz : Nat) : AI l D t yX12_hang cX12_hang 2 (some .boolean) ({ frames := 1, cells := 0, slots := 0, locals := 20 }) (mW t h0 L sr) sz [.ref h0, .int k] 0 := by
  refine go (by decide) (Nat.le_of_ble_eq_true rfl) ?_
  intro p e s m below meth c ls A hF hr hlk hin hsz hAe hP hD hS hA hl
  rw [hAe]
  clear hAe hsz
  have hF : FX p m c cX12_hang 2 s _ RX12 D t := hF
  have hx := hF.1.1
  have hb := hF.1.2.1
  have hls := hl.1
  have hl : lv_has ls 2 [(0, .ref h0), (1, .int k)] := hl
  have hP : va_P D cl1 [(h0, .inr (0, mF L)), ((L 25), .inl (t 3, 6, .inl (fun _ => 0)))] s.heap := hP.sub [0, 26] rfl
  have hD : va_D A [(h0, .inr (0, mF L)), ((L 25), .inl (t 3, 6, .inl (fun _ => 0)))] := hD.sub [0, 26] (by decide) rfl
  rcases line_cases k with hk | ⟨j, hj, hkj, hk⟩
  · refine lv_iload_n hx hb dX12_hang_0 rfl (lv_at hl 1 rfl) ?_
    refine r_cKIs (v := 0) (As := [.int k]) (rest := []) hF ms_X12_325 (fun sz => (hk 1 0) ▸ c_X12_isLine l D t _ _ sz) dX12_hang_1 rfl rfl (by decide) rfl hl.1 (by decide) hP hD hS hA (by decide) rfl (fun H locs hP hS => ?_)
    refine lv_if_eq (tgt := 16) hx hb dX12_hang_4 rfl (fun _ => ?_) (fun h => absurd rfl h)
    refine lv_iconst (v := 0) hx hb dX12_hang_16 (by decide) ?_
    exact r_retA hF hr hlk rfl dX12_hang_17 hS rfl
  · refine lv_iload_n hx hb dX12_hang_0 rfl (lv_at hl 1 rfl) ?_
    refine r_cKIs (v := 1) (As := [.int k]) (rest := []) hF ms_X12_325 (fun sz => (hk 1 0) ▸ c_X12_isLine l D t _ _ sz) dX12_hang_1 rfl rfl (by decide) rfl hl.1 (by decide) hP hD hS hA (by decide) rfl (fun H locs hP hS => ?_)
    refine lv_if_eq (tgt := 16) hx hb dX12_hang_4 rfl (fun h => absurd h (by decide)) (fun _ => ?_)
    refine lv_aload_n hx hb dX12_hang_7 rfl (lv_at hl 0 rfl) ?_
    refine r_get hF ci_X12 fl_X12_89 dX12_hang_8 hP (q0 := 0) rfl rfl ?_
    refine lv_iload_n hx hb dX12_hang_11 rfl (lv_at hl 1 rfl) ?_
    refine r_zald (v := 0) hF dX12_hang_12 hP (q0 := 1) rfl (by rw [hkj]; exact vp_in_nI hj (by decide)) rfl ?_
    refine lv_if_ne (tgt := 18) hx hb dX12_hang_13 rfl (fun h => absurd h (by decide)) (fun _ => ?_)
    refine lv_iconst (v := 0) hx hb dX12_hang_16 (by decide) ?_
    exact r_retA hF hr hlk rfl dX12_hang_17 hS rfl
set_option maxRecDepth 100000 in
set_option maxHeartbeats 4000000 in
theorem c_X12_isOpen (l : Launch) (D : va_G) (t : Nat → ClassId) (h0 : Nat) (L : Nat → Nat) (sr : Nat → Int32) (k : Int32) (sz : Nat) : AI l D t yX12_isOpen cX12_isOpen 2 (some .boolean) ({ frames := 1, cells := 0, slots := 0, locals := 20 }) (mW t h0 L sr) sz [.ref h0, .int k] 0 := by
  refine go (by decide) (Nat.le_of_ble_eq_true rfl) ?_
  intro p e s m below meth c ls A hF hr hlk hin hsz hAe hP hD hS hA hl
  rw [hAe]
  clear hAe hsz
  have hF : FX p m c cX12_isOpen 2 s _ RX12 D t := hF
  have hx := hF.1.1
  have hb := hF.1.2.1
  have hls := hl.1
  have hl : lv_has ls 2 [(0, .ref h0), (1, .int k)] := hl
  have hP : va_P D cl1 [(h0, .inr (0, mF L)), ((L 25), .inl (t 3, 6, .inl (fun _ => 0)))] s.heap := hP.sub [0, 26] rfl
  have hD : va_D A [(h0, .inr (0, mF L)), ((L 25), .inl (t 3, 6, .inl (fun _ => 0)))] := hD.sub [0, 26] (by decide) rfl
  rcases line_cases k with hk | ⟨j, hj, hkj, hk⟩
  · refine lv_iload_n hx hb dX12_isOpen_0 rfl (lv_at hl 1 rfl) ?_
    refine r_cKIs (v := 0) (As := [.int k]) (rest := []) hF ms_X12_325 (fun sz => (hk 1 0) ▸ c_X12_isLine l D t _ _ sz) dX12_isOpen_1 rfl rfl (by decide) rfl hl.1 (by decide) hP hD hS hA (by decide) rfl (fun H locs hP hS => ?_)
    refine lv_if_eq (tgt := 20) hx hb dX12_isOpen_4 rfl (fun _ => ?_) (fun h => absurd rfl h)
    refine lv_iconst (v := 0) hx hb dX12_isOpen_20 (by decide) ?_
    exact r_retA hF hr hlk rfl dX12_isOpen_21 hS rfl
  · refine lv_iload_n hx hb dX12_isOpen_0 rfl (lv_at hl 1 rfl) ?_
    refine r_cKIs (v := 1) (As := [.int k]) (rest := []) hF ms_X12_325 (fun sz => (hk 1 0) ▸ c_X12_isLine l D t _ _ sz) dX12_isOpen_1 rfl rfl (by decide) rfl hl.1 (by decide) hP hD hS hA (by decide) rfl (fun H locs hP hS => ?_)
    refine lv_if_eq (tgt := 20) hx hb dX12_isOpen_4 rfl (fun h => absurd h (by decide)) (fun _ => ?_)
    refine lv_aload_n hx hb dX12_isOpen_7 rfl (lv_at hl 0 rfl) ?_
    refine r_get hF ci_X12 fl_X12_89 dX12_isOpen_8 hP (q0 := 0) rfl rfl ?_
    refine lv_iload_n hx hb dX12_isOpen_11 rfl (lv_at hl 1 rfl) ?_
    refine r_zald (v := 0) hF dX12_isOpen_12 hP (q0 := 1) rfl (by rw [hkj]; exact vp_in_nI hj (by decide)) rfl ?_
    refine lv_if_eq (tgt := 20) hx hb dX12_isOpen_13 rfl (fun _ => ?_) (fun h => absurd rfl h)
    refine lv_iconst (v := 0) hx hb dX12_isOpen_20 (by decide) ?_
    exact r_retA hF hr hlk rfl dX12_isOpen_21 hS rfl
set_option maxRecDepth 100000 in
set_option maxHeartbeats 4000000 in
theorem c_X12_come_ (l : Launch) (D : va_G) (t : Nat → ClassId) (h0 : Nat) (L : Nat → Nat) (sr : Nat → Int32) (k : Int32) (sz : Nat) : AI l D t yX12_come_ cX12_come_ 8 (some .int) ({ frames := 1, cells := 0, slots := 0, locals := 20 }) (mW t h0 L sr) sz [.ref h0, .int k] (-1) := by
  refine go (by decide) (Nat.le_of_ble_eq_true rfl) ?_
  intro p e s m below meth c ls A hF hr hlk hin hsz hAe hP hD hS hA hl
  rw [hAe]
  clear hAe hsz
  have hF : FX p m c cX12_come_ 8 s _ RX12 D t := hF
  have hx := hF.1.1
  have hb := hF.1.2.1
  have hls := hl.1
  have hl : lv_has ls 8 [(0, .ref h0), (1, .int k)] := hl
  have hP : va_P D cl1 [(h0, .inr (0, mF L)), ((L 25), .inl (t 3, 6, .inl (fun _ => 0)))] s.heap := hP.sub [0, 26] rfl
  have hD : va_D A [(h0, .inr (0, mF L)), ((L 25), .inl (t 3, 6, .inl (fun _ => 0)))] := hD.sub [0, 26] (by decide) rfl
  rcases line_cases k with hk | ⟨j, hj, hkj, hk⟩
  · refine lv_aload_n hx hb dX12_come__0 rfl (lv_at hl 0 rfl) ?_
    refine r_get hF ci_X12 fl_X12_261 dX12_come__1 hP (q0 := 0) rfl rfl ?_
    refine lv_istore_n (lv' := [(2, .int 0), (0, .ref h0), (1, .int k)]) hx hb dX12_come__4 rfl hl (by decide) rfl (fun ls hl => ?_)
    refine lv_aload_n hx hb dX12_come__5 rfl (lv_at hl 1 rfl) ?_
    refine lv_iconst (v := 0) hx hb dX12_come__6 (by decide) ?_
    refine r_put0 hF ci_X12 fl_X12_261 dX12_come__7 hP hD hS (q0 := 0) rfl rfl rfl rfl rfl (fun H locs hP hS => ?_)
    refine lv_iload_n hx hb dX12_come__10 rfl (lv_at hl 2 rfl) ?_
    refine r_cKIs (v := 0) (As := [.int k]) (rest := []) hF ms_X12_325 (fun sz => (hk 1 0) ▸ c_X12_isLine l D t _ _ sz) dX12_come__11 rfl rfl (by decide) rfl hl.1 (by decide) hP hD hS hA (by decide) rfl (fun H locs hP hS => ?_)
    refine lv_if_eq (tgt := 26) hx hb dX12_come__14 rfl (fun _ => ?_) (fun h => absurd rfl h)
    refine lv_iconst (v := (-1)) hx hb dX12_come__26 (by decide) ?_
    exact r_retA hF hr hlk rfl dX12_come__27 hS rfl
  · refine lv_aload_n hx hb dX12_come__0 rfl (lv_at hl 0 rfl) ?_
    refine r_get hF ci_X12 fl_X12_261 dX12_come__1 hP (q0 := 0) rfl rfl ?_
    refine lv_istore_n (lv' := [(2, .int 0), (0, .ref h0), (1, .int k)]) hx hb dX12_come__4 rfl hl (by decide) rfl (fun ls hl => ?_)
    refine lv_aload_n hx hb dX12_come__5 rfl (lv_at hl 1 rfl) ?_
    refine lv_iconst (v := 0) hx hb dX12_come__6 (by decide) ?_
    refine r_put0 hF ci_X12 fl_X12_261 dX12_come__7 hP hD hS (q0 := 0) rfl rfl rfl rfl rfl (fun H locs hP hS => ?_)
    refine lv_iload_n hx hb dX12_come__10 rfl (lv_at hl 2 rfl) ?_
    refine r_cKIs (v := 1) (As := [.int k]) (rest := []) hF ms_X12_325 (fun sz => (hk 1 0) ▸ c_X12_isLine l D t _ _ sz) dX12_come__11 rfl rfl (by decide) rfl hl.1 (by decide) hP hD hS hA (by decide) rfl (fun H locs hP hS => ?_)
    refine lv_if_eq (tgt := 26) hx hb dX12_come__14 rfl (fun h => absurd h (by decide)) (fun _ => ?_)
    refine lv_aload_n hx hb dX12_come__17 rfl (lv_at hl 1 rfl) ?_
    refine r_get hF ci_X12 fl_X12_89 dX12_come__18 hP (q0 := 0) rfl rfl ?_
    refine lv_iload_n hx hb dX12_come__21 rfl (lv_at hl 2 rfl) ?_
    refine r_zald (v := 0) hF dX12_come__22 hP (q0 := 1) rfl (by rw [hkj]; exact vp_in_nI hj (by decide)) rfl ?_
    refine lv_if_ne (tgt := 28) hx hb dX12_come__23 rfl (fun h => absurd h (by decide)) (fun _ => ?_)
    refine lv_iconst (v := (-1)) hx hb dX12_come__26 (by decide) ?_
    exact r_retA hF hr hlk rfl dX12_come__27 hS rfl
set_option maxRecDepth 100000 in
set_option maxHeartbeats 4000000 in
theorem c_X12_out (l : Launch) (D : va_G) (t : Nat → ClassId) (h0 : Nat) (L : Nat → Nat) (sr : Nat → Int32) (k : Int32) (k2 : Int32) (sz : Nat) : AI l D t yX12_out cX12_out 3 (some .int) ({ frames := 1, cells := 0, slots := 0, locals := 20 }) (mW t h0 L sr) sz [.ref h0, .int k, .int k2] (-1) := by
  refine go (by decide) (Nat.le_of_ble_eq_true rfl) ?_
  intro p e s m below meth c ls A hF hr hlk hin hsz hAe hP hD hS hA hl
  rw [hAe]
  clear hAe hsz
  have hF : FX p m c cX12_out 3 s _ RX12 D t := hF
  have hx := hF.1.1
  have hb := hF.1.2.1
  have hls := hl.1
  have hl : lv_has ls 3 [(0, .ref h0), (1, .int k), (2, .int k2)] := hl
  have hP : va_P D cl1 [(h0, .inr (0, mF L)), ((L 28), .inl (t 1, 6, .inl (fun _ => 0)))] s.heap := hP.sub [0, 29] rfl
  have hD : va_D A [(h0, .inr (0, mF L)), ((L 28), .inl (t 1, 6, .inl (fun _ => 0)))] := hD.sub [0, 29] (by decide) rfl
  rcases line_cases k with hk | ⟨j, hj, hkj, hk⟩
  · refine lv_iload_n hx hb dX12_out_0 rfl (lv_at hl 1 rfl) ?_
    refine r_cKIs (v := 0) (As := [.int k]) (rest := []) hF ms_X12_325 (fun sz => (hk 1 0) ▸ c_X12_isLine l D t _ _ sz) dX12_out_1 rfl rfl (by decide) rfl hl.1 (by decide) hP hD hS hA (by decide) rfl (fun H locs hP hS => ?_)
    refine lv_if_eq (tgt := 40) hx hb dX12_out_4 rfl (fun _ => ?_) (fun h => absurd rfl h)
    refine lv_iconst (v := (-1)) hx hb dX12_out_40 (by decide) ?_
    exact r_retA hF hr hlk rfl dX12_out_41 hS rfl
  · refine lv_iload_n hx hb dX12_out_0 rfl (lv_at hl 1 rfl) ?_
    refine r_cKIs (v := 1) (As := [.int k]) (rest := []) hF ms_X12_325 (fun sz => (hk 1 0) ▸ c_X12_isLine l D t _ _ sz) dX12_out_1 rfl rfl (by decide) rfl hl.1 (by decide) hP hD hS hA (by decide) rfl (fun H locs hP hS => ?_)
    refine lv_if_eq (tgt := 40) hx hb dX12_out_4 rfl (fun h => absurd h (by decide)) (fun _ => ?_)
    refine lv_iload_n hx hb dX12_out_7 rfl (lv_at hl 2 rfl) ?_
    refine lv_if_lt (tgt := 40) hx hb dX12_out_8 rfl (fun h1 => ?_) (fun h1 => ?_)
    · refine lv_iconst (v := (-1)) hx hb dX12_out_40 (by decide) ?_
      exact r_retA hF hr hlk rfl dX12_out_41 hS rfl
    · refine lv_iload_n hx hb dX12_out_11 rfl (lv_at hl 2 rfl) ?_
      refine lv_aload_n hx hb dX12_out_12 rfl (lv_at hl 0 rfl) ?_
      refine r_get hF ci_X12 fl_X12_99 dX12_out_13 hP (q0 := 0) rfl rfl ?_
      refine lv_iload_n hx hb dX12_out_16 rfl (lv_at hl 1 rfl) ?_
      refine r_iald (v := 0) hF dX12_out_17 hP (q0 := 1) rfl (by rw [hkj]; exact vp_in_nI hj (by decide)) rfl ?_
      refine lv_icmp_ge (tgt := 40) hx hb dX12_out_18 rfl (fun _ => ?_) (fun h => absurd (by rcases pk_ix k2 (n := 1) (by decide) with h3 | h3 | ⟨j3, hj3, rfl⟩; exact absurd h3 h1; exact Int32.le_trans (by decide) h3; exact (by have z3 : j3 = 0 := (by omega); subst z3; decide)) h)
      refine lv_iconst (v := (-1)) hx hb dX12_out_40 (by decide) ?_
      exact r_retA hF hr hlk rfl dX12_out_41 hS rfl
set_option maxRecDepth 100000 in
set_option maxHeartbeats 4000000 in
theorem c_X12_connect (l : Launch) (D : va_G) (t : Nat → ClassId) (h0 : Nat) (L : Nat → Nat) (sr : Nat → Int32) (k : Int32) (sz : Nat) : AI l D t yX12_connect cX12_connect 2 (some .boolean) ({ frames := 1, cells := 0, slots := 0, locals := 20 }) (mW t h0 L sr) sz [.ref h0, .int k] (lineA k 1 0) := by
  refine go (by decide) (Nat.le_of_ble_eq_true rfl) ?_
  intro p e s m below meth c ls A hF hr hlk hin hsz hAe hP hD hS hA hl
  rw [hAe]
  clear hAe hsz
  have hF : FX p m c cX12_connect 2 s _ RX12 D t := hF
  have hx := hF.1.1
  have hb := hF.1.2.1
  have hls := hl.1
  have hl : lv_has ls 2 [(0, .ref h0), (1, .int k)] := hl
  have hP : va_P D cl1 [(h0, .inr (0, mF L)), ((L 25), .inl (t 3, 6, .inl (fun _ => 0))), ((L 26), .inl (t 3, 6, .inl (fun _ => 0))), ((L 28), .inl (t 1, 6, .inl (fun _ => 0))), ((L 30), .inl (t 1, 6, .inl (fun _ => 0))), ((L 32), .inl (t 1, 6, .inl (fun _ => 0))), ((L 31), .inl (t 2, 96, .inr (.inl (fun _ => 0)))), ((L 33), .inl (t 2, 6, .inr (.inl (fun _ => 0))))] s.heap := hP.sub [0, 26, 27, 29, 31, 33, 32, 34] rfl
  have hD : va_D A [(h0, .inr (0, mF L)), ((L 25), .inl (t 3, 6, .inl (fun _ => 0))), ((L 26), .inl (t 3, 6, .inl (fun _ => 0))), ((L 28), .inl (t 1, 6, .inl (fun _ => 0))), ((L 30), .inl (t 1, 6, .inl (fun _ => 0))), ((L 32), .inl (t 1, 6, .inl (fun _ => 0))), ((L 31), .inl (t 2, 96, .inr (.inl (fun _ => 0)))), ((L 33), .inl (t 2, 6, .inr (.inl (fun _ => 0))))] := hD.sub [0, 26, 27, 29, 31, 33, 32, 34] (by decide) rfl
  rcases line_cases k with hk | ⟨j, hj, hkj, hk⟩
  · refine lv_iload_n hx hb dX12_connect_0 rfl (lv_at hl 1 rfl) ?_
    refine r_cKIs (v := 0) (As := [.int k]) (rest := []) hF ms_X12_325 (fun sz => (hk 1 0) ▸ c_X12_isLine l D t _ _ sz) dX12_connect_1 rfl rfl (by decide) rfl hl.1 (by decide) hP hD hS hA (by decide) rfl (fun H locs hP hS => ?_)
    refine lv_if_eq (tgt := 16) hx hb dX12_connect_4 rfl (fun _ => ?_) (fun h => absurd rfl h)
    refine lv_iconst (v := 0) hx hb dX12_connect_16 (by decide) ?_
    exact r_retA hF hr hlk rfl dX12_connect_17 hS (hk 1 0).symm
  · refine lv_iload_n hx hb dX12_connect_0 rfl (lv_at hl 1 rfl) ?_
    refine r_cKIs (v := 1) (As := [.int k]) (rest := []) hF ms_X12_325 (fun sz => (hk 1 0) ▸ c_X12_isLine l D t _ _ sz) dX12_connect_1 rfl rfl (by decide) rfl hl.1 (by decide) hP hD hS hA (by decide) rfl (fun H locs hP hS => ?_)
    refine lv_if_eq (tgt := 16) hx hb dX12_connect_4 rfl (fun h => absurd h (by decide)) (fun _ => ?_)
    refine lv_aload_n hx hb dX12_connect_7 rfl (lv_at hl 0 rfl) ?_
    refine r_get hF ci_X12 fl_X12_89 dX12_connect_8 hP (q0 := 0) rfl rfl ?_
    refine lv_iload_n hx hb dX12_connect_11 rfl (lv_at hl 1 rfl) ?_
    refine r_zald (v := 0) hF dX12_connect_12 hP (q0 := 1) rfl (by rw [hkj]; exact vp_in_nI hj (by decide)) rfl ?_
    refine lv_if_eq (tgt := 18) hx hb dX12_connect_13 rfl (fun _ => ?_) (fun h => absurd rfl h)
    refine lv_aload_n hx hb dX12_connect_18 rfl (lv_at hl 0 rfl) ?_
    refine r_get hF ci_X12 fl_X12_89 dX12_connect_19 hP (q0 := 0) rfl rfl ?_
    refine lv_iload_n hx hb dX12_connect_22 rfl (lv_at hl 1 rfl) ?_
    refine lv_iconst (v := 1) hx hb dX12_connect_23 (by decide) ?_
    refine r_zast hF dX12_connect_24 hP hD hS (q0 := 1) rfl (by rw [hkj]; exact vp_in_nI hj (by decide)) (fun H locs hP hD hS => ?_)
    refine lv_aload_n hx hb dX12_connect_25 rfl (lv_at hl 0 rfl) ?_
    refine r_get hF ci_X12 fl_X12_92 dX12_connect_26 hP (q0 := 0) rfl rfl ?_
    refine lv_iload_n hx hb dX12_connect_29 rfl (lv_at hl 1 rfl) ?_
    refine lv_iconst (v := 0) hx hb dX12_connect_30 (by decide) ?_
    refine r_zast hF dX12_connect_31 hP hD hS (q0 := 2) rfl (by rw [hkj]; exact vp_in_nI hj (by decide)) (fun H locs hP hD hS => ?_)
    refine lv_aload_n hx hb dX12_connect_32 rfl (lv_at hl 0 rfl) ?_
    refine r_get hF ci_X12 fl_X12_99 dX12_connect_33 hP (q0 := 0) rfl rfl ?_
    refine lv_iload_n hx hb dX12_connect_36 rfl (lv_at hl 1 rfl) ?_
    refine lv_iconst (v := 0) hx hb dX12_connect_37 (by decide) ?_
    refine r_iast hF dX12_connect_38 hP hD hS (q0 := 3) rfl (by rw [hkj]; exact vp_in_nI hj (by decide)) (fun H locs hP hD hS => ?_)
    refine lv_aload_n hx hb dX12_connect_39 rfl (lv_at hl 0 rfl) ?_
    refine r_get hF ci_X12 fl_X12_106 dX12_connect_40 hP (q0 := 0) rfl rfl ?_
    refine lv_iload_n hx hb dX12_connect_43 rfl (lv_at hl 1 rfl) ?_
    refine lv_iconst (v := 0) hx hb dX12_connect_44 (by decide) ?_
    refine r_iast hF dX12_connect_45 hP hD hS (q0 := 4) rfl (by rw [hkj]; exact vp_in_nI hj (by decide)) (fun H locs hP hD hS => ?_)
    refine lv_aload_n hx hb dX12_connect_46 rfl (lv_at hl 0 rfl) ?_
    refine r_get hF ci_X12 fl_X12_112 dX12_connect_47 hP (q0 := 0) rfl rfl ?_
    refine lv_iload_n hx hb dX12_connect_50 rfl (lv_at hl 1 rfl) ?_
    refine lv_iconst (v := 1) hx hb dX12_connect_51 (by decide) ?_
    refine r_iast hF dX12_connect_52 hP hD hS (q0 := 5) rfl (by rw [hkj]; exact vp_in_nI hj (by decide)) (fun H locs hP hD hS => ?_)
    refine lv_aload_n hx hb dX12_connect_53 rfl (lv_at hl 0 rfl) ?_
    refine r_get hF ci_X12 fl_X12_109 dX12_connect_54 hP (q0 := 0) rfl rfl ?_
    refine lv_bipush (v := 16) hx hb dX12_connect_57 (by decide) ?_
    refine lv_iload_n hx hb dX12_connect_59 rfl (lv_at hl 1 rfl) ?_
    refine lv_imul hx hb dX12_connect_60 ?_
    refine lv_lconst (v := 0) hx hb dX12_connect_61 (by decide) ?_
    refine r_last hF dX12_connect_62 hP hD hS (q0 := 6) rfl (by rw [hkj, show (16 : Int32) = nI 16 from rfl, pk_mul]; exact vp_in_nI (by omega) (by decide)) (fun H locs hP hD hS => ?_)
    refine lv_aload_n hx hb dX12_connect_63 rfl (lv_at hl 0 rfl) ?_
    refine r_get hF ci_X12 fl_X12_115 dX12_connect_64 hP (q0 := 0) rfl rfl ?_
    refine lv_iload_n hx hb dX12_connect_67 rfl (lv_at hl 1 rfl) ?_
    refine lv_lconst (v := 0) hx hb dX12_connect_68 (by decide) ?_
    refine r_last hF dX12_connect_69 hP hD hS (q0 := 7) rfl (by rw [hkj]; exact vp_in_nI hj (by decide)) (fun H locs hP hD hS => ?_)
    refine lv_iconst (v := 1) hx hb dX12_connect_70 (by decide) ?_
    exact r_retA hF hr hlk rfl dX12_connect_71 hS (hk 1 0).symm
set_option maxRecDepth 100000 in
set_option maxHeartbeats 4000000 in
theorem c_X12_cut (l : Launch) (D : va_G) (t : Nat → ClassId) (h0 : Nat) (L : Nat → Nat) (sr : Nat → Int32) (k : Int32) (sz : Nat) : AI l D t yX12_cut cX12_cut 3 (some .int) ({ frames := 0, cells := 0, slots := 0, locals := 0 }) (mW t h0 L sr) sz [.ref h0, .int k] (tapeA k) := by
  refine go (by decide) (Nat.le_of_ble_eq_true rfl) ?_
  intro p e s m below meth c ls A hF hr hlk hin hsz hAe hP hD hS hA hl
  rw [hAe]
  clear hAe hsz
  have hF : FX p m c cX12_cut 3 s _ RX12 D t := hF
  have hx := hF.1.1
  have hb := hF.1.2.1
  have hls := hl.1
  have hl : lv_has ls 3 [(0, .ref h0), (1, .int k)] := hl
  have hP : va_P D cl1 [(h0, .inr (0, mF L))] s.heap := hP.sub [0] rfl
  have hD : va_D A [(h0, .inr (0, mF L))] := hD.sub [0] (by decide) rfl
  refine lv_iload_n hx hb dX12_cut_0 rfl (lv_at hl 1 rfl) ?_
  refine lv_if_lt (tgt := 12) hx hb dX12_cut_1 rfl (fun h1 => ?_) (fun h1 => ?_)
  · refine lv_iconst (v := (-1)) hx hb dX12_cut_12 (by decide) ?_
    exact r_retA hF hr hlk rfl dX12_cut_13 hS (by unfold tapeA; rw [if_neg (fun z => by subst z; exact absurd h1 (by decide))])
  · refine lv_iload_n hx hb dX12_cut_4 rfl (lv_at hl 1 rfl) ?_
    refine lv_aload_n hx hb dX12_cut_5 rfl (lv_at hl 0 rfl) ?_
    refine r_get hF ci_X12 fl_X12_261 dX12_cut_6 hP (q0 := 0) rfl rfl ?_
    refine lv_icmp_le (tgt := 14) hx hb dX12_cut_9 rfl (fun h2 => ?_) (fun h2 => ?_)
    · have hk0 : k = 0 := by rcases pk_ix k (n := 1) (by decide) with h3 | h3 | ⟨j3, hj3, e3⟩; exact absurd h3 h1; exact absurd (Int32.le_trans h3 h2) (by decide); exact (by have z3 : j3 = 0 := (by omega); subst z3; exact e3)
      subst hk0
      refine lv_aload_n hx hb dX12_cut_14 rfl (lv_at hl 0 rfl) ?_
      refine r_get hF ci_X12 fl_X12_261 dX12_cut_15 hP (q0 := 0) rfl rfl ?_
      refine lv_iload_n hx hb dX12_cut_18 rfl (lv_at hl 1 rfl) ?_
      refine lv_isub hx hb dX12_cut_19 ?_
      refine lv_istore_n (lv' := [(2, .int (0 - 0)), (0, .ref h0), (1, .int 0)]) hx hb dX12_cut_20 rfl hl (by decide) rfl (fun ls hl => ?_)
      refine lv_aload_n hx hb dX12_cut_21 rfl (lv_at hl 1 rfl) ?_
      refine lv_iload_n hx hb dX12_cut_22 rfl (lv_at hl 2 rfl) ?_
      refine r_put0 hF ci_X12 fl_X12_261 dX12_cut_23 hP hD hS (q0 := 0) rfl rfl rfl rfl rfl (fun H locs hP hS => ?_)
      refine lv_iload_n hx hb dX12_cut_26 rfl (lv_at hl 0 rfl) ?_
      exact r_retA hF hr hlk rfl dX12_cut_27 hS (by decide)
    · refine lv_iconst (v := (-1)) hx hb dX12_cut_12 (by decide) ?_
      exact r_retA hF hr hlk rfl dX12_cut_13 hS (by unfold tapeA; rw [if_neg (fun z => h2 (by rw [z]; exact Int32.le_refl 0))])
set_option maxRecDepth 100000 in
set_option maxHeartbeats 4000000 in
theorem c_X12_share (l : Launch) (D : va_G) (t : Nat → ClassId) (h0 : Nat) (L : Nat → Nat) (sr : Nat → Int32) (hsr : ∀ i, i < 4 → sr i = -1) (k : Int32) (sz : Nat) : AI l D t yX12_share cX12_share 7 (some .boolean) ({ frames := 0, cells := 0, slots := 0, locals := 0 }) (mW t h0 L sr) sz [.ref h0, .int k] 0 := by
  refine go (by decide) (Nat.le_of_ble_eq_true rfl) ?_
  intro p e s m below meth c ls A hF hr hlk hin hsz hAe hP hD hS hA hl
  rw [hAe]
  clear hAe hsz
  have hF : FX p m c cX12_share 7 s _ RX12 D t := hF
  have hx := hF.1.1
  have hb := hF.1.2.1
  have hls := hl.1
  have hl : lv_has ls 7 [(0, .ref h0), (1, .int k)] := hl
  have hP : va_P D cl1 [(h0, .inr (0, mF L)), ((L 11), .inl (t 1, 4, .inl sr))] s.heap := hP.sub [0, 12] rfl
  have hD : va_D A [(h0, .inr (0, mF L)), ((L 11), .inl (t 1, 4, .inl sr))] := hD.sub [0, 12] (by decide) rfl
  refine lv_aload_n hx hb dX12_share_0 rfl (lv_at hl 0 rfl) ?_
  refine r_get hF ci_X12 fl_X12_261 dX12_share_1 hP (q0 := 0) rfl rfl ?_
  refine lv_istore_n (lv' := [(2, .int 0), (0, .ref h0), (1, .int k)]) hx hb dX12_share_4 rfl hl (by decide) rfl (fun ls hl => ?_)
  refine lv_aload_n hx hb dX12_share_5 rfl (lv_at hl 1 rfl) ?_
  refine lv_iconst (v := 0) hx hb dX12_share_6 (by decide) ?_
  refine r_put0 hF ci_X12 fl_X12_261 dX12_share_7 hP hD hS (q0 := 0) rfl rfl rfl rfl rfl (fun H locs hP hS => ?_)
  refine lv_iload_n hx hb dX12_share_10 rfl (lv_at hl 2 rfl) ?_
  refine lv_if_lt (tgt := 39) hx hb dX12_share_11 rfl (fun h1 => ?_) (fun h1 => ?_)
  · refine lv_iconst (v := 0) hx hb dX12_share_39 (by decide) ?_
    exact r_retA hF hr hlk rfl dX12_share_40 hS rfl
  · refine lv_iload_n hx hb dX12_share_14 rfl (lv_at hl 2 rfl) ?_
    refine lv_iconst (v := 3) hx hb dX12_share_15 (by decide) ?_
    refine lv_icmp_gt (tgt := 39) hx hb dX12_share_16 rfl (fun h2 => ?_) (fun h2 => ?_)
    · refine lv_iconst (v := 0) hx hb dX12_share_39 (by decide) ?_
      exact r_retA hF hr hlk rfl dX12_share_40 hS rfl
    · obtain ⟨j, hj, hkj⟩ : ∃ j : Nat, j < 4 ∧ k = nI j := by rcases pk_ix k (n := 4) (by decide) with h3 | h3 | h3; exact absurd h3 h1; exact absurd (Int32.lt_of_lt_of_le (by decide) h3) h2; exact h3
      refine lv_aload_n hx hb dX12_share_19 rfl (lv_at hl 1 rfl) ?_
      refine r_get hF ci_X12 fl_X12_47 dX12_share_20 hP (q0 := 0) rfl rfl ?_
      refine lv_iload_n hx hb dX12_share_23 rfl (lv_at hl 2 rfl) ?_
      refine r_iald (v := (-1)) hF dX12_share_24 hP (q0 := 1) rfl (by rw [hkj]; exact vp_in_nI hj (by decide)) (by rw [hkj, nI_clamp (by omega)]; exact hsr j hj) ?_
      refine lv_if_ge (tgt := 39) hx hb dX12_share_25 rfl (fun h => absurd h (by decide)) (fun _ => ?_)
      refine lv_iload_n hx hb dX12_share_28 rfl (lv_at hl 0 rfl) ?_
      refine lv_iconst (v := 1) hx hb dX12_share_29 (by decide) ?_
      refine lv_icmp_lt (tgt := 39) hx hb dX12_share_30 rfl (fun _ => ?_) (fun h => absurd (by decide) h)
      refine lv_iconst (v := 0) hx hb dX12_share_39 (by decide) ?_
      exact r_retA hF hr hlk rfl dX12_share_40 hS rfl

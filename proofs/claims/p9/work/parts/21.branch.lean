/-! branches by the numbers themselves -/
section R21L
variable {p : Program} {l : Launch} {e : Env} {R : Room} {s : State} {m : MethodId} {args : Array Value} {below : List Frame} {meth : Method} {c : Code} {H : Heap} {locs : List Loc} {cells slots : Nat} {Q : State → Prop} {cc : ByteArray} {pc : Nat} {ls : Array Slot} {rest : List Value} {D : va_G} {t : Nat → ClassId} {A : Nat → Prop} {H0 : Heap} {own : String} {nL : Nat} {σ : HS} {h0 : Nat} {L : Nat → Nat} {index k j : Nat} {i : Int32}
theorem w_icmp_eq {x y : Int32} {off : Int} {tgt : Nat} (hF : FX p m c cc nL s args own D t) (hdg : decode cc pc = .ok (.if_icmp .eq off, 3)) (ht : (pc : Int) + off = (tgt : Int)) {P1 P2 : Prop} (hw : (x.toInt = y.toInt → P1) ∧ (¬ x.toInt = y.toInt → P2)) (kt : P1 → W p l e R s m args below meth c H locs cells slots Q (F0 m tgt ls rest)) (kf : P2 → W p l e R s m args below meth c H locs cells slots Q (F0 m (pc + 3) ls rest)) : W p l e R s m args below meth c H locs cells slots Q (F0 m pc ls (.int y :: .int x :: rest)) :=
  lv_icmp_eq hF.1.1 hF.1.2.1 hdg ht (fun h => kt (hw.1 (i_eq h))) (fun h => kf (hw.2 (i_ne h)))
theorem w_if_eq {x : Int32} {off : Int} {tgt : Nat} (hF : FX p m c cc nL s args own D t) (hdg : decode cc pc = .ok (.ifCond .eq off, 3)) (ht : (pc : Int) + off = (tgt : Int)) {P1 P2 : Prop} (hw : (x.toInt = 0 → P1) ∧ (¬ x.toInt = 0 → P2)) (kt : P1 → W p l e R s m args below meth c H locs cells slots Q (F0 m tgt ls rest)) (kf : P2 → W p l e R s m args below meth c H locs cells slots Q (F0 m (pc + 3) ls rest)) : W p l e R s m args below meth c H locs cells slots Q (F0 m pc ls (.int x :: rest)) :=
  lv_if_eq hF.1.1 hF.1.2.1 hdg ht (fun h => kt (hw.1 (i_eq h))) (fun h => kf (hw.2 (i_ne h)))
theorem w_lif_eq {x y : Int64} {off : Int} {tgt : Nat} (hF : FX p m c cc nL s args own D t) (hd0 : decode cc pc = .ok (.lcmp, 1)) (hdg : decode cc (pc + 1) = .ok (.ifCond .eq off, 3)) (ht : ((pc + 1 : Nat) : Int) + off = (tgt : Int)) {P1 P2 : Prop} (hw : (x.toInt = y.toInt → P1) ∧ (¬ x.toInt = y.toInt → P2)) (kt : P1 → W p l e R s m args below meth c H locs cells slots Q (F0 m tgt ls rest)) (kf : P2 → W p l e R s m args below meth c H locs cells slots Q (F0 m (pc + 1 + 3) ls rest)) : W p l e R s m args below meth c H locs cells slots Q (F0 m pc ls (.long y :: .long x :: rest)) := by
  refine W.lcmp hF.1.1 hF.1.2.1 hd0 ?_
  refine lv_topi (fun z hz => ?_)
  have hc := l_cmp hz
  have k0 : (0 : Int32).toInt = 0 := rfl
  refine lv_if_eq hF.1.1 hF.1.2.1 hdg ht (fun h => kt (hw.1 ?_)) (fun h => kf (hw.2 ?_))
  · have := i_eq h
    omega
  · have := i_ne h
    omega
theorem w_icmp_ne {x y : Int32} {off : Int} {tgt : Nat} (hF : FX p m c cc nL s args own D t) (hdg : decode cc pc = .ok (.if_icmp .ne off, 3)) (ht : (pc : Int) + off = (tgt : Int)) {P1 P2 : Prop} (hw : (¬ x.toInt = y.toInt → P1) ∧ (x.toInt = y.toInt → P2)) (kt : P1 → W p l e R s m args below meth c H locs cells slots Q (F0 m tgt ls rest)) (kf : P2 → W p l e R s m args below meth c H locs cells slots Q (F0 m (pc + 3) ls rest)) : W p l e R s m args below meth c H locs cells slots Q (F0 m pc ls (.int y :: .int x :: rest)) :=
  lv_icmp_ne hF.1.1 hF.1.2.1 hdg ht (fun h => kt (hw.1 (i_ne h))) (fun h => kf (hw.2 (i_eq h)))
theorem w_if_ne {x : Int32} {off : Int} {tgt : Nat} (hF : FX p m c cc nL s args own D t) (hdg : decode cc pc = .ok (.ifCond .ne off, 3)) (ht : (pc : Int) + off = (tgt : Int)) {P1 P2 : Prop} (hw : (¬ x.toInt = 0 → P1) ∧ (x.toInt = 0 → P2)) (kt : P1 → W p l e R s m args below meth c H locs cells slots Q (F0 m tgt ls rest)) (kf : P2 → W p l e R s m args below meth c H locs cells slots Q (F0 m (pc + 3) ls rest)) : W p l e R s m args below meth c H locs cells slots Q (F0 m pc ls (.int x :: rest)) :=
  lv_if_ne hF.1.1 hF.1.2.1 hdg ht (fun h => kt (hw.1 (i_ne h))) (fun h => kf (hw.2 (i_eq h)))
theorem w_lif_ne {x y : Int64} {off : Int} {tgt : Nat} (hF : FX p m c cc nL s args own D t) (hd0 : decode cc pc = .ok (.lcmp, 1)) (hdg : decode cc (pc + 1) = .ok (.ifCond .ne off, 3)) (ht : ((pc + 1 : Nat) : Int) + off = (tgt : Int)) {P1 P2 : Prop} (hw : (¬ x.toInt = y.toInt → P1) ∧ (x.toInt = y.toInt → P2)) (kt : P1 → W p l e R s m args below meth c H locs cells slots Q (F0 m tgt ls rest)) (kf : P2 → W p l e R s m args below meth c H locs cells slots Q (F0 m (pc + 1 + 3) ls rest)) : W p l e R s m args below meth c H locs cells slots Q (F0 m pc ls (.long y :: .long x :: rest)) := by
  refine W.lcmp hF.1.1 hF.1.2.1 hd0 ?_
  refine lv_topi (fun z hz => ?_)
  have hc := l_cmp hz
  have k0 : (0 : Int32).toInt = 0 := rfl
  refine lv_if_ne hF.1.1 hF.1.2.1 hdg ht (fun h => kt (hw.1 ?_)) (fun h => kf (hw.2 ?_))
  · have := i_ne h
    omega
  · have := i_eq h
    omega
theorem w_icmp_lt {x y : Int32} {off : Int} {tgt : Nat} (hF : FX p m c cc nL s args own D t) (hdg : decode cc pc = .ok (.if_icmp .lt off, 3)) (ht : (pc : Int) + off = (tgt : Int)) {P1 P2 : Prop} (hw : (x.toInt < y.toInt → P1) ∧ (y.toInt ≤ x.toInt → P2)) (kt : P1 → W p l e R s m args below meth c H locs cells slots Q (F0 m tgt ls rest)) (kf : P2 → W p l e R s m args below meth c H locs cells slots Q (F0 m (pc + 3) ls rest)) : W p l e R s m args below meth c H locs cells slots Q (F0 m pc ls (.int y :: .int x :: rest)) :=
  lv_icmp_lt hF.1.1 hF.1.2.1 hdg ht (fun h => kt (hw.1 (i_lt h))) (fun h => kf (hw.2 (i_nlt h)))
theorem w_if_lt {x : Int32} {off : Int} {tgt : Nat} (hF : FX p m c cc nL s args own D t) (hdg : decode cc pc = .ok (.ifCond .lt off, 3)) (ht : (pc : Int) + off = (tgt : Int)) {P1 P2 : Prop} (hw : (x.toInt < 0 → P1) ∧ (0 ≤ x.toInt → P2)) (kt : P1 → W p l e R s m args below meth c H locs cells slots Q (F0 m tgt ls rest)) (kf : P2 → W p l e R s m args below meth c H locs cells slots Q (F0 m (pc + 3) ls rest)) : W p l e R s m args below meth c H locs cells slots Q (F0 m pc ls (.int x :: rest)) :=
  lv_if_lt hF.1.1 hF.1.2.1 hdg ht (fun h => kt (hw.1 (i_lt h))) (fun h => kf (hw.2 (i_nlt h)))
theorem w_lif_lt {x y : Int64} {off : Int} {tgt : Nat} (hF : FX p m c cc nL s args own D t) (hd0 : decode cc pc = .ok (.lcmp, 1)) (hdg : decode cc (pc + 1) = .ok (.ifCond .lt off, 3)) (ht : ((pc + 1 : Nat) : Int) + off = (tgt : Int)) {P1 P2 : Prop} (hw : (x.toInt < y.toInt → P1) ∧ (y.toInt ≤ x.toInt → P2)) (kt : P1 → W p l e R s m args below meth c H locs cells slots Q (F0 m tgt ls rest)) (kf : P2 → W p l e R s m args below meth c H locs cells slots Q (F0 m (pc + 1 + 3) ls rest)) : W p l e R s m args below meth c H locs cells slots Q (F0 m pc ls (.long y :: .long x :: rest)) := by
  refine W.lcmp hF.1.1 hF.1.2.1 hd0 ?_
  refine lv_topi (fun z hz => ?_)
  have hc := l_cmp hz
  have k0 : (0 : Int32).toInt = 0 := rfl
  refine lv_if_lt hF.1.1 hF.1.2.1 hdg ht (fun h => kt (hw.1 ?_)) (fun h => kf (hw.2 ?_))
  · have := i_lt h
    omega
  · have := i_nlt h
    omega
theorem w_icmp_ge {x y : Int32} {off : Int} {tgt : Nat} (hF : FX p m c cc nL s args own D t) (hdg : decode cc pc = .ok (.if_icmp .ge off, 3)) (ht : (pc : Int) + off = (tgt : Int)) {P1 P2 : Prop} (hw : (y.toInt ≤ x.toInt → P1) ∧ (x.toInt < y.toInt → P2)) (kt : P1 → W p l e R s m args below meth c H locs cells slots Q (F0 m tgt ls rest)) (kf : P2 → W p l e R s m args below meth c H locs cells slots Q (F0 m (pc + 3) ls rest)) : W p l e R s m args below meth c H locs cells slots Q (F0 m pc ls (.int y :: .int x :: rest)) :=
  lv_icmp_ge hF.1.1 hF.1.2.1 hdg ht (fun h => kt (hw.1 (i_le h))) (fun h => kf (hw.2 (i_nle h)))
theorem w_if_ge {x : Int32} {off : Int} {tgt : Nat} (hF : FX p m c cc nL s args own D t) (hdg : decode cc pc = .ok (.ifCond .ge off, 3)) (ht : (pc : Int) + off = (tgt : Int)) {P1 P2 : Prop} (hw : (0 ≤ x.toInt → P1) ∧ (x.toInt < 0 → P2)) (kt : P1 → W p l e R s m args below meth c H locs cells slots Q (F0 m tgt ls rest)) (kf : P2 → W p l e R s m args below meth c H locs cells slots Q (F0 m (pc + 3) ls rest)) : W p l e R s m args below meth c H locs cells slots Q (F0 m pc ls (.int x :: rest)) :=
  lv_if_ge hF.1.1 hF.1.2.1 hdg ht (fun h => kt (hw.1 (i_le h))) (fun h => kf (hw.2 (i_nle h)))
theorem w_lif_ge {x y : Int64} {off : Int} {tgt : Nat} (hF : FX p m c cc nL s args own D t) (hd0 : decode cc pc = .ok (.lcmp, 1)) (hdg : decode cc (pc + 1) = .ok (.ifCond .ge off, 3)) (ht : ((pc + 1 : Nat) : Int) + off = (tgt : Int)) {P1 P2 : Prop} (hw : (y.toInt ≤ x.toInt → P1) ∧ (x.toInt < y.toInt → P2)) (kt : P1 → W p l e R s m args below meth c H locs cells slots Q (F0 m tgt ls rest)) (kf : P2 → W p l e R s m args below meth c H locs cells slots Q (F0 m (pc + 1 + 3) ls rest)) : W p l e R s m args below meth c H locs cells slots Q (F0 m pc ls (.long y :: .long x :: rest)) := by
  refine W.lcmp hF.1.1 hF.1.2.1 hd0 ?_
  refine lv_topi (fun z hz => ?_)
  have hc := l_cmp hz
  have k0 : (0 : Int32).toInt = 0 := rfl
  refine lv_if_ge hF.1.1 hF.1.2.1 hdg ht (fun h => kt (hw.1 ?_)) (fun h => kf (hw.2 ?_))
  · have := i_le h
    omega
  · have := i_nle h
    omega
theorem w_icmp_gt {x y : Int32} {off : Int} {tgt : Nat} (hF : FX p m c cc nL s args own D t) (hdg : decode cc pc = .ok (.if_icmp .gt off, 3)) (ht : (pc : Int) + off = (tgt : Int)) {P1 P2 : Prop} (hw : (y.toInt < x.toInt → P1) ∧ (x.toInt ≤ y.toInt → P2)) (kt : P1 → W p l e R s m args below meth c H locs cells slots Q (F0 m tgt ls rest)) (kf : P2 → W p l e R s m args below meth c H locs cells slots Q (F0 m (pc + 3) ls rest)) : W p l e R s m args below meth c H locs cells slots Q (F0 m pc ls (.int y :: .int x :: rest)) :=
  lv_icmp_gt hF.1.1 hF.1.2.1 hdg ht (fun h => kt (hw.1 (i_lt h))) (fun h => kf (hw.2 (i_nlt h)))
theorem w_if_gt {x : Int32} {off : Int} {tgt : Nat} (hF : FX p m c cc nL s args own D t) (hdg : decode cc pc = .ok (.ifCond .gt off, 3)) (ht : (pc : Int) + off = (tgt : Int)) {P1 P2 : Prop} (hw : (0 < x.toInt → P1) ∧ (x.toInt ≤ 0 → P2)) (kt : P1 → W p l e R s m args below meth c H locs cells slots Q (F0 m tgt ls rest)) (kf : P2 → W p l e R s m args below meth c H locs cells slots Q (F0 m (pc + 3) ls rest)) : W p l e R s m args below meth c H locs cells slots Q (F0 m pc ls (.int x :: rest)) :=
  lv_if_gt hF.1.1 hF.1.2.1 hdg ht (fun h => kt (hw.1 (i_lt h))) (fun h => kf (hw.2 (i_nlt h)))
theorem w_lif_gt {x y : Int64} {off : Int} {tgt : Nat} (hF : FX p m c cc nL s args own D t) (hd0 : decode cc pc = .ok (.lcmp, 1)) (hdg : decode cc (pc + 1) = .ok (.ifCond .gt off, 3)) (ht : ((pc + 1 : Nat) : Int) + off = (tgt : Int)) {P1 P2 : Prop} (hw : (y.toInt < x.toInt → P1) ∧ (x.toInt ≤ y.toInt → P2)) (kt : P1 → W p l e R s m args below meth c H locs cells slots Q (F0 m tgt ls rest)) (kf : P2 → W p l e R s m args below meth c H locs cells slots Q (F0 m (pc + 1 + 3) ls rest)) : W p l e R s m args below meth c H locs cells slots Q (F0 m pc ls (.long y :: .long x :: rest)) := by
  refine W.lcmp hF.1.1 hF.1.2.1 hd0 ?_
  refine lv_topi (fun z hz => ?_)
  have hc := l_cmp hz
  have k0 : (0 : Int32).toInt = 0 := rfl
  refine lv_if_gt hF.1.1 hF.1.2.1 hdg ht (fun h => kt (hw.1 ?_)) (fun h => kf (hw.2 ?_))
  · have := i_lt h
    omega
  · have := i_nlt h
    omega
theorem w_icmp_le {x y : Int32} {off : Int} {tgt : Nat} (hF : FX p m c cc nL s args own D t) (hdg : decode cc pc = .ok (.if_icmp .le off, 3)) (ht : (pc : Int) + off = (tgt : Int)) {P1 P2 : Prop} (hw : (x.toInt ≤ y.toInt → P1) ∧ (y.toInt < x.toInt → P2)) (kt : P1 → W p l e R s m args below meth c H locs cells slots Q (F0 m tgt ls rest)) (kf : P2 → W p l e R s m args below meth c H locs cells slots Q (F0 m (pc + 3) ls rest)) : W p l e R s m args below meth c H locs cells slots Q (F0 m pc ls (.int y :: .int x :: rest)) :=
  lv_icmp_le hF.1.1 hF.1.2.1 hdg ht (fun h => kt (hw.1 (i_le h))) (fun h => kf (hw.2 (i_nle h)))
theorem w_if_le {x : Int32} {off : Int} {tgt : Nat} (hF : FX p m c cc nL s args own D t) (hdg : decode cc pc = .ok (.ifCond .le off, 3)) (ht : (pc : Int) + off = (tgt : Int)) {P1 P2 : Prop} (hw : (x.toInt ≤ 0 → P1) ∧ (0 < x.toInt → P2)) (kt : P1 → W p l e R s m args below meth c H locs cells slots Q (F0 m tgt ls rest)) (kf : P2 → W p l e R s m args below meth c H locs cells slots Q (F0 m (pc + 3) ls rest)) : W p l e R s m args below meth c H locs cells slots Q (F0 m pc ls (.int x :: rest)) :=
  lv_if_le hF.1.1 hF.1.2.1 hdg ht (fun h => kt (hw.1 (i_le h))) (fun h => kf (hw.2 (i_nle h)))
theorem w_lif_le {x y : Int64} {off : Int} {tgt : Nat} (hF : FX p m c cc nL s args own D t) (hd0 : decode cc pc = .ok (.lcmp, 1)) (hdg : decode cc (pc + 1) = .ok (.ifCond .le off, 3)) (ht : ((pc + 1 : Nat) : Int) + off = (tgt : Int)) {P1 P2 : Prop} (hw : (x.toInt ≤ y.toInt → P1) ∧ (y.toInt < x.toInt → P2)) (kt : P1 → W p l e R s m args below meth c H locs cells slots Q (F0 m tgt ls rest)) (kf : P2 → W p l e R s m args below meth c H locs cells slots Q (F0 m (pc + 1 + 3) ls rest)) : W p l e R s m args below meth c H locs cells slots Q (F0 m pc ls (.long y :: .long x :: rest)) := by
  refine W.lcmp hF.1.1 hF.1.2.1 hd0 ?_
  refine lv_topi (fun z hz => ?_)
  have hc := l_cmp hz
  have k0 : (0 : Int32).toInt = 0 := rfl
  refine lv_if_le hF.1.1 hF.1.2.1 hdg ht (fun h => kt (hw.1 ?_)) (fun h => kf (hw.2 ?_))
  · have := i_le h
    omega
  · have := i_nle h
    omega
theorem w_aloadq_n {q : Option Nat} {i : Nat} {kk0 : Fin 4} (hF : FX p m c cc nL s args own D t) (hdg : decode cc pc = .ok (.aload_n kk0, 1)) (hi : (kk0 : Nat) = i) (hl : ls[i]? = some (.val (va_rf q))) (kk : W p l e R s m args below meth c H locs cells slots Q (F0 m (pc + 1) ls (va_rf q :: rest))) : W p l e R s m args below meth c H locs cells slots Q (F0 m pc ls rest) := by
  cases q with
  | none => exact lv_aload_nN hF.1.1 hF.1.2.1 hdg hi hl kk
  | some a => exact lv_aload_n hF.1.1 hF.1.2.1 hdg hi hl kk
theorem w_aloadq {q : Option Nat} {i : Nat} (hF : FX p m c cc nL s args own D t) (hdg : decode cc pc = .ok (.aload i, 2)) (hl : ls[i]? = some (.val (va_rf q))) (kk : W p l e R s m args below meth c H locs cells slots Q (F0 m (pc + 2) ls (va_rf q :: rest))) : W p l e R s m args below meth c H locs cells slots Q (F0 m pc ls rest) := by
  cases q with
  | none => exact lv_aloadN hF.1.1 hF.1.2.1 hdg hl kk
  | some a => exact lv_aload hF.1.1 hF.1.2.1 hdg hl kk
theorem w_astoreq_n {q : Option Nat} {i : Nat} {k0 : Fin 4} {lv lv' : List (Nat × Value)} (hF : FX p m c cc nL s args own D t) (hdg : decode cc pc = .ok (.astore_n k0, 1)) (hi : (k0 : Nat) = i) (h : lv_has ls nL lv) (hn : i < nL) (hl : (i, va_rf q) :: lv.filter (fun q => !(q.1 == i) && !(q.1 + 1 == i && q.2.category == 2)) = lv') (kk : ∀ ls' : Array Slot, lv_has ls' nL lv' → W p l e R s m args below meth c H locs cells slots Q (F0 m (pc + 1) ls' rest)) : W p l e R s m args below meth c H locs cells slots Q (F0 m pc ls (va_rf q :: rest)) := by
  cases q with
  | none => exact lv_astore_nN hF.1.1 hF.1.2.1 hdg hi h hn hl kk
  | some a => exact lv_astore_n hF.1.1 hF.1.2.1 hdg hi h hn hl kk
theorem w_astoreq {q : Option Nat} {i : Nat} {lv lv' : List (Nat × Value)} (hF : FX p m c cc nL s args own D t) (hdg : decode cc pc = .ok (.astore i, 2)) (h : lv_has ls nL lv) (hn : i < nL) (hl : (i, va_rf q) :: lv.filter (fun q => !(q.1 == i) && !(q.1 + 1 == i && q.2.category == 2)) = lv') (kk : ∀ ls' : Array Slot, lv_has ls' nL lv' → W p l e R s m args below meth c H locs cells slots Q (F0 m (pc + 2) ls' rest)) : W p l e R s m args below meth c H locs cells slots Q (F0 m pc ls (va_rf q :: rest)) := by
  cases q with
  | none => exact lv_astoreN hF.1.1 hF.1.2.1 hdg h hn hl kk
  | some a => exact lv_astore hF.1.1 hF.1.2.1 hdg h hn hl kk
end R21L

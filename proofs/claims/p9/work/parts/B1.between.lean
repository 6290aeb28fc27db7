/-! the law: what holds between its calls -/
section RB1
variable {G : GE} {h n : Nat} {κ κ' : CS}
/-- the house between calls, n calls behind it -/
def CJ (G : GE) (h n : Nat) (κ : CS) : Prop := ∃ (E : CE) (W : CW) (t : Nat), n ≤ 64 ∧ CV G E W (36000 * (64 - (n : Int)) + 33 * (sI κ.1 t 1).toInt + 2000) κ ∧ W.1 h = 1 ∧ sP κ.1 h 0 = some t ∧ W.1 t = 60 ∧ ∀ b, W.1 b = 64 → (sI κ.1 b 1).toInt + (sI κ.1 t 1).toInt ≤ 20 * (n : Int)
theorem cj_nx {M : List (Nat × Nat)} {E : CE} {W W' : CW} {t : Nat} {c c' d : Int} (hV : CV G E W c κ) (hh : W.1 h = 1) (et : sP κ.1 h 0 = some t) (wt : W.1 t = 60) (hb : ∀ b, W.1 b = 64 → (sI κ.1 b 1).toInt + (sI κ.1 t 1).toInt ≤ 20 * (n : Int)) (hn : n < 64) (x : WLe W W') (hV' : CV G E W' c' κ') (f : CF M W κ κ') (m0 : (1, 0) ∉ M) (hd : LX W κ κ' d) (ht : (sI κ'.1 t 1).toInt + d ≤ (sI κ.1 t 1).toInt + 20) (hc : 36000 * (64 - ((n + 1 : Nat) : Int)) + 33 * (sI κ'.1 t 1).toInt + 2000 ≤ c') : CJ G h (n + 1) κ' := by
  refine ⟨E, W', t, hn, hV'.dn hc, x.at hh (by decide), (f.1 h (by rw [hh]; decide) 0 (by rw [hh]; exact m0)).2.2.trans et, x.at wt (by decide), fun b wb => ?_⟩
  have w0 : W.1 b ≠ 0 := rw_ne (hV.2.2.2.2.1.2.2.2.2.2.1 b (hV'.2.2.2.2.1.2.1 b (by rw [wb]; rfl)))
  have wb' : W.1 b = 64 := (x b w0).1.symm.trans wb
  have h1 := hb b wb'
  have h2 := hd b wb'
  omega
theorem cj_sm (hJ : CJ G h n κ) (hn : n < 64) : CJ G h (n + 1) κ := by
  obtain ⟨E, W, t, _, hV, hh, et, wt, hb⟩ := hJ
  exact ⟨E, W, t, hn, hV.dn (by omega), hh, et, wt, fun b wb => by have := hb b wb; omega⟩
theorem CJ.mm (hJ : CJ G h n κ) : h ∈ sL κ.1 ∧ sK κ.1 h = 1 := by
  obtain ⟨E, W, t, _, hV, hh, et, wt, hb⟩ := hJ
  exact hV.mm hh (by decide) rfl
theorem k_feed (hJ : CJ G h n κ) (hn : n < 64) (a1 a2 a3 a4 a5 : Int32) {post : Int32 → CS → Prop} (kk : ∀ (r : Int32) (κ' : CS), CJ G h (n + 1) κ' → post r κ') : F_X11_feed G h a1 a2 a3 a4 a5 post κ := by
  obtain ⟨E, W, t, _, hV, hh, et, wt, hb⟩ := hJ
  have tz : 0 ≤ (sI κ.1 t 1).toInt ∧ (sI κ.1 t 1).toInt ≤ 8000 := hV.1.iv wt (by decide) rfl 1 0 8000 rfl rfl
  refine tb_X11_feed hV h hh a1 a2 a3 a4 a5 ⟨t, et, wt, trivial⟩ (by omega) (fun r W' κ' x hV' f p => kk r κ' ?_)
  have p := p t et
  exact cj_nx hV hh et wt hb hn x.1 hV' f (by decide) (LX.rf.fr WLe.rf f (by decide)) (by omega) (by omega)
theorem k_cut (hJ : CJ G h n κ) (hn : n < 64) (a1 : Int32) {post : Int32 → CS → Prop} (kk : ∀ (r : Int32) (κ' : CS), CJ G h (n + 1) κ' → post r κ') : F_X11_cut G h a1 post κ := by
  obtain ⟨E, W, t, _, hV, hh, et, wt, hb⟩ := hJ
  have tz : 0 ≤ (sI κ.1 t 1).toInt ∧ (sI κ.1 t 1).toInt ≤ 8000 := hV.1.iv wt (by decide) rfl 1 0 8000 rfl rfl
  refine tb_X11_cut hV h hh a1 ⟨t, et, wt, trivial⟩ (by omega) (fun r W' κ' x hV' f p => kk r κ' ?_)
  have p := p t et
  exact cj_nx hV hh et wt hb hn x.1 hV' f (by decide) (LX.rf.fr WLe.rf f (by decide)) (by omega) (by omega)
theorem k_share (hJ : CJ G h n κ) (hn : n < 64) (a1 : Int32) {post : Int32 → CS → Prop} (kk : ∀ (r : Int32) (κ' : CS), CJ G h (n + 1) κ' → post r κ') : F_X11_share G h a1 post κ := by
  obtain ⟨E, W, t, _, hV, hh, et, wt, hb⟩ := hJ
  have tz : 0 ≤ (sI κ.1 t 1).toInt ∧ (sI κ.1 t 1).toInt ≤ 8000 := hV.1.iv wt (by decide) rfl 1 0 8000 rfl rfl
  refine tb_X11_share hV h hh a1 ⟨t, et, wt, trivial⟩ (by omega) (fun r W' κ' x hV' f p => kk r κ' ?_)
  have p := p t et
  exact cj_nx hV hh et wt hb hn x.1 hV' f (by decide) (LX.rf.fr WLe.rf f (by decide)) (by omega) (by omega)
theorem k_connect (hJ : CJ G h n κ) (hn : n < 64) (a1 : Int32) {post : Int32 → CS → Prop} (kk : ∀ (r : Int32) (κ' : CS), CJ G h (n + 1) κ' → post r κ') : F_X11_connect G h a1 post κ := by
  obtain ⟨E, W, t, _, hV, hh, et, wt, hb⟩ := hJ
  have tz : 0 ≤ (sI κ.1 t 1).toInt ∧ (sI κ.1 t 1).toInt ≤ 8000 := hV.1.iv wt (by decide) rfl 1 0 8000 rfl rfl
  refine tb_X11_connect hV h hh a1 (by omega) (fun r W' κ' x hV' f l p => kk r κ' ?_)
  have tt := (f.1 t (by rw [wt]; decide) 1 (by rw [wt]; decide)).1
  have tt : (sI κ'.1 t 1).toInt = (sI κ.1 t 1).toInt := by rw [tt]
  exact cj_nx hV hh et wt hb hn x.1 hV' f (by decide) l (by omega) (by omega)
theorem k_crash (hJ : CJ G h n κ) (hn : n < 64) (a1 : Int32) {post : Int32 → CS → Prop} (kk : ∀ (r : Int32) (κ' : CS), CJ G h (n + 1) κ' → post r κ') : F_X11_crash G h a1 post κ := by
  obtain ⟨E, W, t, _, hV, hh, et, wt, hb⟩ := hJ
  have tz : 0 ≤ (sI κ.1 t 1).toInt ∧ (sI κ.1 t 1).toInt ≤ 8000 := hV.1.iv wt (by decide) rfl 1 0 8000 rfl rfl
  refine t_X11_crash hV h hh a1 (by omega) (fun r W' κ' x hV' f l p => kk r κ' ?_)
  have tt := (f.1 t (by rw [wt]; decide) 1 (by rw [wt]; decide)).1
  have tt : (sI κ'.1 t 1).toInt = (sI κ.1 t 1).toInt := by rw [tt]
  exact cj_nx hV hh et wt hb hn x.1 hV' f (by decide) l (by omega) (by omega)
theorem k_hang (hJ : CJ G h n κ) (hn : n < 64) (a1 : Int32) {post : Int32 → CS → Prop} (kk : ∀ (r : Int32) (κ' : CS), CJ G h (n + 1) κ' → post r κ') : F_X11_hang G h a1 post κ := by
  obtain ⟨E, W, t, _, hV, hh, et, wt, hb⟩ := hJ
  have tz : 0 ≤ (sI κ.1 t 1).toInt ∧ (sI κ.1 t 1).toInt ≤ 8000 := hV.1.iv wt (by decide) rfl 1 0 8000 rfl rfl
  refine t_X11_hang hV h hh a1 (by omega) (fun r W' κ' x hV' f p => kk r κ' ?_)
  have tt := (f.1 t (by rw [wt]; decide) 1 (by rw [wt]; decide)).1
  have tt : (sI κ'.1 t 1).toInt = (sI κ.1 t 1).toInt := by rw [tt]
  exact cj_nx hV hh et wt hb hn x.1 hV' f (by decide) (LX.rf.fr WLe.rf f (by decide)) (by omega) (by omega)
theorem k_tick (hJ : CJ G h n κ) (hn : n < 64) (a1 : Int32) {post : Int32 → CS → Prop} (kk : ∀ (r : Int32) (κ' : CS), CJ G h (n + 1) κ' → (0 ≤ a1.toInt ∧ a1.toInt ≤ 1000000 ∧ r.toInt = 1) ∨ ((a1.toInt < 0 ∨ 1000000 < a1.toInt) ∧ r.toInt = 0) → post r κ') : F_X11_tick G h a1 post κ := by
  obtain ⟨E, W, t, _, hV, hh, et, wt, hb⟩ := hJ
  have tz : 0 ≤ (sI κ.1 t 1).toInt ∧ (sI κ.1 t 1).toInt ≤ 8000 := hV.1.iv wt (by decide) rfl 1 0 8000 rfl rfl
  refine t_X11_tick hV h hh a1 (by omega) (fun r W' κ' x hV' f p => kk r κ' ?_ p)
  have tt := (f.1 t (by rw [wt]; decide) 1 (by rw [wt]; decide)).1
  have tt : (sI κ'.1 t 1).toInt = (sI κ.1 t 1).toInt := by rw [tt]
  exact cj_nx hV hh et wt hb hn x.1 hV' f (by decide) (LX.rf.fr WLe.rf f (by decide)) (by omega) (by omega)
theorem k_come (hJ : CJ G h n κ) (hn : n < 64) (a1 : Int32) {post : Int32 → CS → Prop} (kk : ∀ (r : Int32) (κ' : CS), CJ G h (n + 1) κ' → post r κ') : F_X11_come G h a1 post κ := by
  obtain ⟨E, W, t, _, hV, hh, et, wt, hb⟩ := hJ
  have tz : 0 ≤ (sI κ.1 t 1).toInt ∧ (sI κ.1 t 1).toInt ≤ 8000 := hV.1.iv wt (by decide) rfl 1 0 8000 rfl rfl
  refine t_X11_come hV h hh a1 t et wt (fun b wb => by have := hb b wb; omega) (by omega) (fun r W' κ' x hV' f l p => kk r κ' ?_)
  exact cj_nx hV hh et wt hb hn x.1 hV' f (by decide) l (by omega) (by omega)
theorem k_isOpen (hJ : CJ G h n κ) (hn : n < 64) (a1 : Int32) {post : Int32 → CS → Prop} (kk : ∀ (r : Int32) (κ' : CS), CJ G h (n + 1) κ' → post r κ') : F_X11_isOpen G h a1 post κ := by
  have hJ2 := cj_sm hJ hn
  obtain ⟨E, W, t, _, hV, hh, et, wt, hb⟩ := hJ
  have tz : 0 ≤ (sI κ.1 t 1).toInt ∧ (sI κ.1 t 1).toInt ≤ 8000 := hV.1.iv wt (by decide) rfl 1 0 8000 rfl rfl
  exact t_X11_isOpen hV h hh a1 (fun r _ => kk r κ hJ2)
theorem k_outs (hJ : CJ G h n κ) (hn : n < 64) (a1 : Int32) {post : Int32 → CS → Prop} (kk : ∀ (r : Int32) (κ' : CS), CJ G h (n + 1) κ' → post r κ') : F_X11_outs G h a1 post κ := by
  have hJ2 := cj_sm hJ hn
  obtain ⟨E, W, t, _, hV, hh, et, wt, hb⟩ := hJ
  have tz : 0 ≤ (sI κ.1 t 1).toInt ∧ (sI κ.1 t 1).toInt ≤ 8000 := hV.1.iv wt (by decide) rfl 1 0 8000 rfl rfl
  exact t_X11_outs hV h hh a1 (fun r _ => kk r κ hJ2)
theorem k_out (hJ : CJ G h n κ) (hn : n < 64) (a1 a2 : Int32) {post : Int32 → CS → Prop} (kk : ∀ (r : Int32) (κ' : CS), CJ G h (n + 1) κ' → post r κ') : F_X11_out G h a1 a2 post κ := by
  have hJ2 := cj_sm hJ hn
  obtain ⟨E, W, t, _, hV, hh, et, wt, hb⟩ := hJ
  have tz : 0 ≤ (sI κ.1 t 1).toInt ∧ (sI κ.1 t 1).toInt ≤ 8000 := hV.1.iv wt (by decide) rfl 1 0 8000 rfl rfl
  exact t_X11_out hV h hh a1 a2 (fun r _ => kk r κ hJ2)
theorem k_told (hJ : CJ G h n κ) (hn : n < 64) (a1 : Int32) {post : Int32 → CS → Prop} (kk : ∀ (r : Int32) (κ' : CS), CJ G h (n + 1) κ' → post r κ') : F_X11_told G h a1 post κ := by
  have hJ2 := cj_sm hJ hn
  obtain ⟨E, W, t, _, hV, hh, et, wt, hb⟩ := hJ
  have tz : 0 ≤ (sI κ.1 t 1).toInt ∧ (sI κ.1 t 1).toInt ≤ 8000 := hV.1.iv wt (by decide) rfl 1 0 8000 rfl rfl
  exact t_X11_told hV h hh a1 (fun r _ => kk r κ hJ2)
theorem k_drop (hJ : CJ G h n κ) (hn : n < 64) (a1 : Int32) {post : Int32 → CS → Prop} (kk : ∀ (r : Int32) (κ' : CS), CJ G h (n + 1) κ' → post r κ') : F_X11_drop G h a1 post κ := by
  obtain ⟨E, W, t, _, hV, hh, et, wt, hb⟩ := hJ
  have tz : 0 ≤ (sI κ.1 t 1).toInt ∧ (sI κ.1 t 1).toInt ≤ 8000 := hV.1.iv wt (by decide) rfl 1 0 8000 rfl rfl
  refine t_X11_drop hV h hh a1 (fun r κ' hV' f _ => kk r κ' ?_)
  have tt := (f.1 t (by rw [wt]; decide) 1 (by rw [wt]; decide)).1
  have tt : (sI κ'.1 t 1).toInt = (sI κ.1 t 1).toInt := by rw [tt]
  exact cj_nx hV hh et wt hb hn WLe.rf hV' f (by decide) (LX.rf.fr WLe.rf f (by decide)) (by omega) (by omega)
end RB1

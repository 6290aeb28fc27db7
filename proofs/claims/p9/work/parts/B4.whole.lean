/-! the law: the whole of it -/
theorem df_X12 : ∀ j, j < 120 → defaultValue (tyX12 j) = fv (fkc 0 j) 0 0 none := fun j hj => by
  have h : ∀ j : Fin 120, defaultValue (tyX12 j.val) = fv (fkc 0 j.val) 0 0 none := by decide +kernel
  exact h ⟨j, hj⟩
section RB4
variable {p : Program} {l : Launch} {e : Env} {R : Room} {s : State} {m : MethodId} {args : Array Value} {below : List Frame} {meth : Method} {c : Code} {H : Heap} {locs : List Loc} {cells slots : Nat} {Q : State → Prop} {cc : ByteArray} {pc : Nat} {ls : Array Slot} {rest : List Value} {D : va_G} {t : Nat → ClassId} {own : String} {nL : Nat} {κ : CS} {G : GE} {index n maxL fr lo : Nat} {y : MethodName} {bytes : ByteArray} {As st0 : List Value} {X : va_W}
theorem lw_cI {post : CS → Prop} {b : Nat} (hF : FX p m c cc nL s args own D t) (hP : va_P D cl1 (hWd phI t κ.1 ++ X) H) (hD : va_D (lA s) (hWd phI t κ.1 ++ X)) (hS : va_S (lA s) s.heap H locs) (g1 : cells + κ.2 / 12 ≤ R.cells) (g2 : slots + κ.2 ≤ R.slots) (hE : EZ G (lA s) s s.heap) (hm : MI own index y bytes maxL n) (hM : ∀ sz, CMv l D t y bytes maxL fr lo G κ sz (.ref b :: As) post) (hdg : decode cc pc = .ok (.invokespecial index, 3)) (hRm : fr + 1 ≤ R.frames ∧ 8 + (maxL + 11) + lo ≤ R.locals) (hn : As.length = n) (hls : ls.size = nL) (hW : (rest.map fun v => v.category).sum ≤ 8) (hst : st0 = As.reverse ++ .ref b :: rest)
    (kk : ∀ (κ' : CS) (H1 : Heap) (locs1 : List Loc) (mc ms : Nat), post κ' → mc + κ'.2 / 12 ≤ κ.2 / 12 → ms + κ'.2 ≤ κ.2 → va_P D cl1 (hWd phI t κ'.1 ++ X) H1 → va_D (lA s) (hWd phI t κ'.1 ++ X) → va_S (lA s) s.heap H1 locs1 → W p l e R s m args below meth c H1 locs1 (cells + mc) (slots + ms) Q (F0 m (pc + 3) ls rest)) : W p l e R s m args below meth c H locs cells slots Q (F0 m pc ls st0) := by
  have hH : CT R D t (lA s) s.heap κ H locs cells slots := ⟨⟨P_left hP, D_left hD, hS, okT⟩, g1, g2⟩
  have hA : ∀ q, s.heap.size ≤ q → lA s q := fun q h => h
  obtain ⟨⟨w1, w2, w4, w5⟩, hy1, hd⟩ := hm
  refine callB_v (runB_I hF.1 (hM H.size) (cwI n hF.1.2.2.2.2 (gcode w5) rfl rfl rfl (hF.1.2.2.2.2 _ w4) (hF.1.2.2.2.2 _ w1) (hF.1.2.2.2.2 _ w2) hy1 hd hRm) ⟨CPc_blind, CPc_at hF hH hA hE⟩ rfl hn hls hst (lv_room hW) hdg ⟨hH.2.1, hH.2.2⟩) hH.1.2.2.1 (fun q _ h => c_ain hH hA q h) (c_ain hH hA) (fun mc ms u t1 H1 locs1 ht _ hw hB _ hk hS1 => ?_)
  obtain ⟨h2, h3, h4⟩ := hw
  obtain ⟨b1, b2⟩ := hB
  rw [ht] at b1
  obtain ⟨j1, j2⟩ := join_app hP hD hk (c_ain hH hA) b1 b2
  exact kk u H1 locs1 mc ms h2 h3 h4 j1 j2 hS1
end RB4
def hs0 : HS := ([], fun _ => 0, fun _ => 0, fun _ _ => 0, fun _ _ => 0, fun _ _ => none)
set_option maxRecDepth 100000 in
set_option maxHeartbeats 4000000 in
theorem whole_start {p : Program} {e : Env} {s : State} {m : MethodId} {below : List Frame} {meth : Method} {c : Code} (l : Launch) {b L : Nat} {xs : Nat → Int32} (hL : L ≤ 384) (C0 : lw_At p s m meth c b L xs) : W p l e room_1 s m #[Value.ref b] below meth c s.heap [] 0 0 (lw_Z below #[Value.ref b] s) (entryFrame m ([Value.ref b] : List Value).toArray 4) := by
  obtain ⟨hx, hb, hr, hml, hown, hts, hX, hbl, hlk, hgv⟩ := C0
  obtain ⟨D, t, hK⟩ := law_K hts
  have hF : FX p m c code 4 s #[Value.ref b] RL D t := ⟨⟨hx, hb, hml, hown, fun w h => hts w (big_tbl w h)⟩, hK, law_N hts⟩
  obtain ⟨G, hE⟩ := law_E hts (flat_of_before _ hgv)
  have hA : ∀ q, s.heap.size ≤ q → lA s q := fun q h => h
  have hl := lv_entry [.ref b] (n := 4) (Nat.le_of_ble_eq_true rfl)
  rw [lg_entry_eq]
  generalize (lg_sl ([.ref b]) ++ List.replicate (4 - (lg_sl ([.ref b])).length) Slot.unset).toArray = ls at hl ⊢
  have hl : lv_has ls 4 [(0, .ref b)] := hl
  have eW0 : hWd phI t hs0 = [] := rfl
  have hH : CT room_1 D t (lA s) s.heap (hs0, 6299005) s.heap [] 0 0 := ⟨⟨by rw [eW0]; exact fun k q h => by simp at h, by rw [eW0]; exact ⟨fun i j a b h => by simp at h, fun k q h => by simp at h⟩, va_S.rf, okT⟩, Nat.le_of_ble_eq_true rfl, Nat.le_of_ble_eq_true rfl⟩
  refine cw_new (P := fun a κ' => κ' = (h_uN hs0 a 1 0, 6298975)) hF hH hA ci_X11 (by decide) rfl df_X11 dL_law_0 (wc_8 37 rfl) (wc_8 38 rfl) (wc_6 3 rfl) ⟨Nat.le_of_ble_eq_true rfl, fun a _ κ' e' => e'⟩ (fun xx κ1 H locs cells slots e1 hH => ?_)
  refine lv_dup hx hb dL_law_3 rfl ?_
  have f1 : F_X11_init G xx (fun κ' => ∃ (E : CE) (W : CW), CV G E W 3309286 κ' ∧ W.1 xx = 1 ∧ ZL W κ') κ1 := by
    refine i_X11 xx ?_ ?_ ?_ 3309286 ?_ (by decide) (fun E' W' κ' h1 h2 h3 => ⟨E', W', h1, h2, h3⟩)
    · rw [e1]
      exact ⟨List.mem_append_right _ (List.mem_singleton.mpr rfl), va_up_self _ _ _⟩
    · rw [e1]
      exact va_up_self _ _ _
    · rw [e1]
      exact va_up_self _ _ _
    · rw [e1]
      show (2989689 : Int) + 3309286 ≤ ((6298975 : Nat) : Int)
      omega
  refine cw_cI (As := []) (rest := [.ref xx]) hF hH hA hE mi_L_9 (fun sz => c_X11_init l D t G κ1 xx _ f1 sz) dL_law_4 ⟨Nat.le_of_ble_eq_true rfl, Nat.le_of_ble_eq_true rfl⟩ rfl hl.1 (Nat.le_of_ble_eq_true rfl) rfl (fun κ2 H locs cells slots hp hH => ?_)
  obtain ⟨E, Wd, hV, hh, hz⟩ := hp
  have hbd := hV.bud
  refine lv_astore_n (lv' := [(1, .ref xx), (0, .ref b)]) hx hb dL_law_7 rfl hl (by decide) rfl (fun ls hl => ?_)
  refine cw_new (P := fun a κ' => a ∉ sL κ2.1 ∧ κ' = (h_uN κ2.1 a 0 0, κ2.2 - (120 + 12))) hF hH hA ci_X12 (by decide) rfl df_X12 dL_law_8 (wc_40 15 rfl) (wc_40 16 rfl) (wc_8 16 rfl) ⟨by omega, fun a ha κ' e' => ⟨ha, e'⟩⟩ (fun mm κ3 H locs cells slots he hH => ?_)
  obtain ⟨hmm, e3⟩ := he
  refine lv_dup hx hb dL_law_11 rfl ?_
  have eP : hWd phI t κ3.1 = hWd phI t κ2.1 ++ hWd phI t (([mm], (h_uN κ2.1 mm 0 0).2) : HS) := by
    rw [e3]
    exact hWd_new hmm
  have hP := hH.1.1
  have hD := hH.1.2.1
  rw [eP] at hP hD
  have hP := P_perm List.perm_append_comm hP
  have hD := D_perm List.perm_append_comm hD
  have g1 := hH.2.1
  have g2 := hH.2.2
  have e32 : κ3.2 = κ2.2 - 132 := by rw [e3]
  have r1 : room_1.cells = 600000 := rfl
  have r2 : room_1.slots = 7302250 := rfl
  have f2 : F_X12_init G mm (fun κ' => ∃ (L : Nat → Nat) (σ' : HS), κ'.1 = unl σ' ∧ RI mm L 0 σ') ((([mm], (h_uN κ2.1 mm 0 0).2) : HS), 1003154) := i_X12 rfl (va_up_self _ _ _) (va_up_self _ _ _) (Nat.le_refl _) (fun L σ' n _ r => ⟨L, σ', rfl, r⟩)
  refine lw_cI (κ := ((([mm], (h_uN κ2.1 mm 0 0).2) : HS), 1003154)) (As := []) (rest := [.ref mm]) hF hP hD hH.1.2.2.1 (by dsimp only; omega) (by dsimp only; omega) hE mi_L_12 (fun sz => c_X12_init l D t G _ mm _ f2 sz) dL_law_12 ⟨Nat.le_of_ble_eq_true rfl, Nat.le_of_ble_eq_true rfl⟩ rfl hl.1 (Nat.le_of_ble_eq_true rfl) rfl (fun κ4 H locs mc ms hp q1 q2 hP hD hS => ?_)
  obtain ⟨Lm, σ, e4, hR⟩ := hp
  have q1 : mc + κ4.2 / 12 ≤ 1003154 / 12 := q1
  have q2 : ms + κ4.2 ≤ 1003154 := q2
  have eV : hWd phI t κ4.1 = hWd ph t σ := by
    rw [e4]
    exact (hWd_lab (t := t) (σ := unl σ) (σ' := σ) rfl rfl (fun _ _ => rfl)).symm
  rw [eV] at hP hD
  have hP := P_perm List.perm_append_comm hP
  have hD := D_perm List.perm_append_comm hD
  have hT : LT room_1 D t s (κ2.1, κ2.2 - 1003286) σ H locs (cells + mc) (slots + ms) := ⟨hP, hD, hS, by dsimp only; omega, by dsimp only; omega⟩
  obtain ⟨tp, et, wt⟩ := hV.1.nn hh (by decide) rfl 0 rfl (by decide)
  have z0 := hz tp (by rw [wt]; rfl)
  have hJ : CJ G xx 0 (κ2.1, κ2.2 - 1003286) := ⟨E, Wd, tp, by decide, ⟨hV.1, hV.2.1, hV.2.2.1, hV.2.2.2.1, hV.2.2.2.2.1, hV.2.2.2.2.2.1, by have q := hV.2.2.2.2.2.2; dsimp only; rw [z0]; omega⟩, hh, et, wt, fun b wb => by have q := hz b (by rw [wb]; rfl); dsimp only; omega⟩
  refine lv_astore_n (lv' := [(2, .ref mm), (1, .ref xx), (0, .ref b)]) hx hb dL_law_15 rfl hl (by decide) rfl (fun ls hl => ?_)
  refine lv_iconst (v := 0) hx hb dL_law_16 (by decide) ?_
  refine lv_istore_n (lv' := [(3, .int 0), (2, .ref mm), (1, .ref xx), (0, .ref b)]) hx hb dL_law_17 rfl hl (by decide) rfl (fun ls hl => ?_)
  have hl : lv_has ls 4 [(3, .int 0), (2, .ref mm), (1, .ref xx), (0, .ref b)] := lv_sub hl [0, 1, 2, 3] rfl
  refine law_loop hF hE hX hbl hL (fun H' locs' cells' slots' ls' hS' hc' hs' => ?_) 65 0 0 (κ2.1, κ2.2 - 1003286) σ H locs (cells + mc) (slots + ms) ls (by decide) (by decide) rfl hl ⟨hT, hJ, Lm, hR⟩
  refine lv_iconst (v := 1) hx hb dL_law_455 (by decide) ?_
  refine va_forget (fun q hq => hS'.2.2 q hq) ?_
  refine W.widen (k := 600000) (n := 7302250) hc' hs' ?_
  exact lw_ret hx hb hr hlk dL_law_456

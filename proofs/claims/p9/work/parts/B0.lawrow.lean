/-! the law's rows: two worlds beside each other -/
abbrev lA (s : State) : Nat → Prop := fun q => s.heap.size ≤ q
def LT (R : Room) (D : va_G) (t : Nat → ClassId) (s : State) (κ : CS) (σ : HS) (H : Heap) (locs : List Loc) (cells slots : Nat) : Prop :=
  va_P D cl1 (hWd phI t κ.1 ++ hWd ph t σ) H ∧ va_D (lA s) (hWd phI t κ.1 ++ hWd ph t σ) ∧ va_S (lA s) s.heap H locs ∧ cells + κ.2 / 12 ≤ R.cells ∧ slots + κ.2 ≤ R.slots
section RB0
variable {p : Program} {l : Launch} {e : Env} {R : Room} {s : State} {m : MethodId} {args : Array Value} {below : List Frame} {meth : Method} {c : Code} {H : Heap} {locs : List Loc} {cells slots : Nat} {Q : State → Prop} {cc : ByteArray} {pc : Nat} {ls : Array Slot} {rest : List Value} {D : va_G} {t : Nat → ClassId} {own : String} {nL : Nat} {κ : CS} {σ : HS} {G : GE} {index ci N n maxL fr lo h0 : Nat} {C : String} {T : u_T} {ty : Nat → FieldType} {y : MethodName} {bytes : ByteArray} {ret : Option FieldType} {As st0 : List Value} {L : Nat → Nat} {rm : Room}
theorem lw_cC {post : Int32 → CS → Prop} {b : Nat} (hF : FX p m c cc nL s args own D t) (hT : LT R D t s κ σ H locs cells slots) (hE : EZ G (lA s) s s.heap) (hm : MV own index C y bytes maxL ret n) (hC : CI ci C T N ty) (hci : ci < 20) (hM : ∀ sz, CMi l D t y bytes maxL ret fr lo G κ sz (.ref b :: As) post) (hdg : decode cc pc = .ok (.invokevirtual index, 3)) (hb : b ∈ sL κ.1 ∧ sK κ.1 b = ci) (hRm : fr + 1 ≤ R.frames ∧ 8 + (maxL + 11) + lo ≤ R.locals) (hn : As.length = n) (hls : ls.size = nL) (hW : (rest.map fun v => v.category).sum ≤ 8) (hst : st0 = As.reverse ++ .ref b :: rest)
    (kk : ∀ (r : Int32) (κ' : CS) (H1 : Heap) (locs1 : List Loc) (cells1 slots1 : Nat), post r κ' → LT R D t s κ' σ H1 locs1 cells1 slots1 → W p l e R s m args below meth c H1 locs1 cells1 slots1 Q (F0 m (pc + 3) ls (.int r :: rest))) : W p l e R s m args below meth c H locs cells slots Q (F0 m pc ls st0) := by
  obtain ⟨hP, hD, hS, g1, g2⟩ := hT
  have hH : CT R D t (lA s) s.heap κ H locs cells slots := ⟨⟨P_left hP, D_left hD, hS, okT⟩, g1, g2⟩
  have hA : ∀ q, s.heap.size ≤ q → lA s q := fun q h => h
  obtain ⟨⟨w1, w2, w3, w4, w5⟩, hd⟩ := hm
  obtain ⟨q, hq⟩ := h_in (ph := phI) (t := t) hb.1
  rw [ent_obj (c := ci) (by rw [hb.2]; rfl) hci] at hq
  refine callB_i (runB_V hF.1 (hM H.size) (cwV n hF.1.2.2.2.2 (gwV w1 w2 w3 w4 w5) rfl rfl rfl hd hRm) ⟨CPc_blind, va_recv hF.2.1 hH.1.1 hC.1 hq, CPc_at hF hH hA hE⟩ rfl hn hls hst (lv_room hW) hdg ⟨hH.2.1, hH.2.2⟩) hH.1.2.2.1 (fun q _ h => c_ain hH hA q h) (c_ain hH hA) (fun mc ms x u t1 H1 locs1 ht _ hw hB _ hk hS1 => ?_)
  obtain ⟨h2, h3, h4⟩ := hw
  obtain ⟨b1, b2⟩ := hB
  rw [ht] at b1
  obtain ⟨j1, j2⟩ := join_app hP hD hk (c_ain hH hA) b1 b2
  exact kk x u H1 locs1 _ _ h2 ⟨j1, j2, hS1, by omega, by omega⟩
theorem lw_cR {post : Int32 → HS → Prop} (hF : FX p m c cc nL s args own D t) (hT : LT R D t s κ σ H locs cells slots) (hMd : MdI h0 L σ) (hm : MV own index RX12 y bytes maxL ret n) (hM : ∀ sz, RMi l D t y bytes maxL ret rm h0 L σ sz (.ref h0 :: As) post) (hdg : decode cc pc = .ok (.invokevirtual index, 3)) (hrc : rm.cells = 0) (hrs : rm.slots = 0) (hR : rm.frames + 1 ≤ R.frames ∧ 8 + (maxL + 11) + rm.locals ≤ R.locals) (hn : As.length = n) (hls : ls.size = nL) (hW : (rest.map fun v => v.category).sum ≤ 8) (hst : st0 = As.reverse ++ .ref h0 :: rest)
    (kk : ∀ (r : Int32) (σ' : HS) (H1 : Heap) (locs1 : List Loc), post r σ' → LT R D t s κ σ' H1 locs1 cells slots → W p l e R s m args below meth c H1 locs1 cells slots Q (F0 m (pc + 3) ls (.int r :: rest))) : W p l e R s m args below meth c H locs cells slots Q (F0 m pc ls st0) := by
  obtain ⟨hP, hD, hS, g1, g2⟩ := hT
  have hA : ∀ q, s.heap.size ≤ q → lA s q := fun q h => h
  have hP := P_perm List.perm_append_comm hP
  have hD := D_perm List.perm_append_comm hD
  obtain ⟨q, hq⟩ := h_in (ph := ph) (t := t) hMd.1.1
  rw [ent_obj (c := 0) (by rw [hMd.1.2]; rfl) (by decide)] at hq
  refine va_calli (r_runV hF hm ci_X12 (hM H.size) hdg hrc hrs hR hn hls hW (P_left hP) (D_left hD) hq (by omega) hst) hS (fun q _ h => a_in (D_left hD) hS hA q h) (a_in (D_left hD) hS hA) (fun x u t1 H1 locs1 ht _ hw hB _ hk hS1 => ?_)
  obtain ⟨h1, h2⟩ := hw
  obtain ⟨b1, b2⟩ := hB
  rw [ht] at b1
  obtain ⟨j1, j2⟩ := join_app hP hD hk (a_in (D_left hD) hS hA) b1 b2
  exact kk x u H1 locs1 h2 ⟨P_perm List.perm_append_comm j1, D_perm List.perm_append_comm j2, hS1, g1, g2⟩
theorem r_sld {b L : Nat} {xs : Nat → Int32} {i v : Int32} (hF : FX p m c cc nL s args own D t) (hX : va_X b L xs s s.heap) (hbl : b < s.heap.size) (hS : va_S (lA s) s.heap H locs) (hin : vp_in i L) (hv : xs i.toNatClampNeg = v) (hdg : decode cc pc = .ok (.iaload, 1)) (kk : W p l e R s m args below meth c H locs cells slots Q (F0 m (pc + 1) ls (.int v :: rest))) : W p l e R s m args below meth c H locs cells slots Q (F0 m pc ls (.int i :: .ref b :: rest)) :=
  va_sld hF.1.1 hF.1.2.1 hX hbl (Nat.not_le.mpr hbl) hS hin hdg (by rw [hv]; exact kk)
theorem r_slen {b L : Nat} {xs : Nat → Int32} (hF : FX p m c cc nL s args own D t) (hX : va_X b L xs s s.heap) (hbl : b < s.heap.size) (hS : va_S (lA s) s.heap H locs) (hdg : decode cc pc = .ok (.arraylength, 1)) (kk : W p l e R s m args below meth c H locs cells slots Q (F0 m (pc + 1) ls (.int (nI L) :: rest))) : W p l e R s m args below meth c H locs cells slots Q (F0 m pc ls (.ref b :: rest)) :=
  va_slen hF.1.1 hF.1.2.1 hX hbl (Nat.not_le.mpr hbl) hS hdg kk
end RB0

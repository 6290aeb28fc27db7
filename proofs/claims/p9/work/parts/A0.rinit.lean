/-! the reference's constructor, lifted -/
/-- kinds instead of roles -/
def unl (σ : HS) : HS := (sL σ, fun a => ph (sK σ a), σ.2.2)
theorem hWd_lab {t : Nat → ClassId} {σ σ' : HS} (hL : sL σ' = sL σ) (hr : σ'.2.2 = σ.2.2) (hK : ∀ a ∈ sL σ, ph (sK σ' a) = sK σ a) : hWd ph t σ' = hWd phI t σ := by
  unfold hWd va_pl
  rw [hL]
  refine List.map_congr_left (fun a ha => ?_)
  have k := hK a ha
  have e1 : sN σ' = sN σ := congrArg Prod.fst hr
  have e2 : sI σ' = sI σ := congrArg (fun x => x.2.1) hr
  have e3 : sJ σ' = sJ σ := congrArg (fun x => x.2.2.1) hr
  have e4 : sP σ' = sP σ := congrArg (fun x => x.2.2.2) hr
  have e5 : ent ph t σ' a = ent phI t σ a := by
    unfold ent flds phI
    rw [k, e1, e2, e3, e4]
  rw [e5]
section RA0
variable {p : Program} {l : Launch} {e : Env} {R : Room} {s : State} {m : MethodId} {args : Array Value} {below : List Frame} {meth : Method} {c : Code} {H : Heap} {locs : List Loc} {cells slots : Nat} {Q : State → Prop} {cc : ByteArray} {pc : Nat} {ls : Array Slot} {rest : List Value} {D : va_G} {t : Nat → ClassId} {A : Nat → Prop} {H0 : Heap} {own : String} {nL : Nat} {κ : CS} {G : GE} {i : Int32} {q : Option Nat} {index k ci N : Nat} {C : String} {T : u_T} {ty : Nat → FieldType}
theorem cw_newarr_boolean {P : Nat → CS → Prop} {z : Int32} (hF : FX p m c cc nL s args own D t) (hH : CT R D t A H0 κ H locs cells slots) (hA : ∀ q, H0.size ≤ q → A q) (hwd : Cond.arrayClass (newarray.typeOf .boolean) ∈ big) (hdg : decode cc pc = .ok (.newarray .boolean, 2)) (hw : (0 ≤ z.toInt ∧ z.toInt ≤ 1000000) ∧ (z.toInt.toNat + 12 ≤ κ.2) ∧ ∀ a : Nat, a ∉ sL κ.1 → ∀ κ' : CS, κ' = (h_uN κ.1 a 23 z.toInt.toNat, κ.2 - (z.toInt.toNat + 12)) → P a κ') (kk : ∀ (a : Nat) (κ' : CS) (H1 : Heap) (locs1 : List Loc) (cells1 slots1 : Nat), P a κ' → CT R D t A H0 κ' H1 locs1 cells1 slots1 → W p l e R s m args below meth c H1 locs1 cells1 slots1 Q (F0 m (pc + 2) ls (.ref a :: rest))) : W p l e R s m args below meth c H locs cells slots Q (F0 m pc ls (.int z :: rest)) := by
  obtain ⟨g1, g2⟩ := hH.2
  obtain ⟨g3, g4, g5⟩ := hw
  obtain ⟨n, hn⟩ : ∃ n, n = z.toInt.toNat := ⟨_, rfl⟩
  rw [← hn] at g4 g5
  refine r_newa (t0 := 3) (N' := n) (a0 := (n, .inl (fun _ => 0))) hF hdg hwd rfl rfl id hH.1.1 hH.1.2.1 hH.1.2.2.1 hA (fun _ => rfl) (fun q => by have := i_lt q; have k0 : (0 : Int32).toInt = 0 := rfl; omega) (by rw [hn]; rfl) (by show n * 1 ≤ _; omega) (by omega) (by omega) (fun a H1 h1 h2 h3 => ?_)
  have ho := new_out h2
  have he : hWd phI t κ.1 ++ [(a, .inl (t 3, (n, .inl (fun _ => 0))))] = hWd phI t (h_uN κ.1 a 23 n) := by
    rw [hWd_new ho, ent_newa (by decide)]
    rfl
  rw [he] at h1 h2
  exact kk a (h_uN κ.1 a 23 n, κ.2 - (n + 12)) H1 locs _ _ (g5 a ho _ rfl) ⟨⟨h1, h2, h3, okT⟩, by dsimp only; omega, by dsimp only; omega⟩
end RA0
set_option maxRecDepth 100000 in
def F_X12_init (G : GE) (h : Nat) (post : CS → Prop) (κ : CS) : Prop := (0 ≤ (8000 : Int32).toInt ∧ (8000 : Int32).toInt ≤ 1000000) ∧ ((8000 : Int32).toInt.toNat + 12 ≤ κ.2) ∧ ∀ o2 : Nat, o2 ∉ sL κ.1 → ∀ κ3 : CS, κ3 = (h_uN κ.1 o2 20 (8000 : Int32).toInt.toNat, κ.2 - ((8000 : Int32).toInt.toNat + 12)) → (h ∈ sL κ3.1 ∧ sK κ3.1 h = 0) ∧ ∀ κ4 : CS, κ4 = (h_uP κ3.1 h 0 (some o2), κ3.2) → (0 ≤ (160 : Int32).toInt ∧ (160 : Int32).toInt ≤ 1000000) ∧ ((160 : Int32).toInt.toNat + 12 ≤ κ4.2) ∧ ∀ o5 : Nat, o5 ∉ sL κ4.1 → ∀ κ6 : CS, κ6 = (h_uN κ4.1 o5 23 (160 : Int32).toInt.toNat, κ4.2 - ((160 : Int32).toInt.toNat + 12)) → (h ∈ sL κ6.1 ∧ sK κ6.1 h = 0) ∧ ∀ κ7 : CS, κ7 = (h_uP κ6.1 h 3 (some o5), κ6.2) → (0 ≤ (160 : Int32).toInt ∧ (160 : Int32).toInt ≤ 1000000) ∧ ((160 : Int32).toInt.toNat + 12 ≤ κ7.2) ∧ ∀ o8 : Nat, o8 ∉ sL κ7.1 → ∀ κ9 : CS, κ9 = (h_uN κ7.1 o8 21 (160 : Int32).toInt.toNat, κ7.2 - ((160 : Int32).toInt.toNat + 12)) → (h ∈ sL κ9.1 ∧ sK κ9.1 h = 0) ∧ ∀ κ10 : CS, κ10 = (h_uP κ9.1 h 4 (some o8), κ9.2) → (0 ≤ (160 : Int32).toInt ∧ (160 : Int32).toInt ≤ 1000000) ∧ ((160 : Int32).toInt.toNat + 12 ≤ κ10.2) ∧ ∀ o11 : Nat, o11 ∉ sL κ10.1 → ∀ κ12 : CS, κ12 = (h_uN κ10.1 o11 23 (160 : Int32).toInt.toNat, κ10.2 - ((160 : Int32).toInt.toNat + 12)) → (h ∈ sL κ12.1 ∧ sK κ12.1 h = 0) ∧ ∀ κ13 : CS, κ13 = (h_uP κ12.1 h 5 (some o11), κ12.2) → (0 ≤ (1920 : Int32).toInt ∧ (1920 : Int32).toInt ≤ 1000000) ∧ ((1920 : Int32).toInt.toNat + 12 ≤ κ13.2) ∧ ∀ o14 : Nat, o14 ∉ sL κ13.1 → ∀ κ15 : CS, κ15 = (h_uN κ13.1 o14 20 (1920 : Int32).toInt.toNat, κ13.2 - ((1920 : Int32).toInt.toNat + 12)) → (h ∈ sL κ15.1 ∧ sK κ15.1 h = 0) ∧ ∀ κ16 : CS, κ16 = (h_uP κ15.1 h 6 (some o14), κ15.2) → (0 ≤ (160 : Int32).toInt ∧ (160 : Int32).toInt ≤ 1000000) ∧ ((160 : Int32).toInt.toNat + 12 ≤ κ16.2) ∧ ∀ o17 : Nat, o17 ∉ sL κ16.1 → ∀ κ18 : CS, κ18 = (h_uN κ16.1 o17 21 (160 : Int32).toInt.toNat, κ16.2 - ((160 : Int32).toInt.toNat + 12)) → (h ∈ sL κ18.1 ∧ sK κ18.1 h = 0) ∧ ∀ κ19 : CS, κ19 = (h_uP κ18.1 h 7 (some o17), κ18.2) → (0 ≤ (160 : Int32).toInt ∧ (160 : Int32).toInt ≤ 1000000) ∧ ((160 : Int32).toInt.toNat + 12 ≤ κ19.2) ∧ ∀ o20 : Nat, o20 ∉ sL κ19.1 → ∀ κ21 : CS, κ21 = (h_uN κ19.1 o20 21 (160 : Int32).toInt.toNat, κ19.2 - ((160 : Int32).toInt.toNat + 12)) → (h ∈ sL κ21.1 ∧ sK κ21.1 h = 0) ∧ ∀ κ22 : CS, κ22 = (h_uP κ21.1 h 8 (some o20), κ21.2) → (0 ≤ (640 : Int32).toInt ∧ (640 : Int32).toInt ≤ 1000000) ∧ ((640 : Int32).toInt.toNat + 12 ≤ κ22.2) ∧ ∀ o23 : Nat, o23 ∉ sL κ22.1 → ∀ κ24 : CS, κ24 = (h_uN κ22.1 o23 22 (640 : Int32).toInt.toNat, κ22.2 - ((640 : Int32).toInt.toNat + 12)) → (h ∈ sL κ24.1 ∧ sK κ24.1 h = 0) ∧ ∀ κ25 : CS, κ25 = (h_uP κ24.1 h 9 (some o23), κ24.2) → (0 ≤ (160 : Int32).toInt ∧ (160 : Int32).toInt ≤ 1000000) ∧ ((160 : Int32).toInt.toNat + 12 ≤ κ25.2) ∧ ∀ o26 : Nat, o26 ∉ sL κ25.1 → ∀ κ27 : CS, κ27 = (h_uN κ25.1 o26 21 (160 : Int32).toInt.toNat, κ25.2 - ((160 : Int32).toInt.toNat + 12)) → (h ∈ sL κ27.1 ∧ sK κ27.1 h = 0) ∧ ∀ κ28 : CS, κ28 = (h_uP κ27.1 h 10 (some o26), κ27.2) → (0 ≤ (655360 : Int32).toInt ∧ (655360 : Int32).toInt ≤ 1000000) ∧ ((655360 : Int32).toInt.toNat + 12 ≤ κ28.2) ∧ ∀ o29 : Nat, o29 ∉ sL κ28.1 → ∀ κ30 : CS, κ30 = (h_uN κ28.1 o29 20 (655360 : Int32).toInt.toNat, κ28.2 - ((655360 : Int32).toInt.toNat + 12)) → (h ∈ sL κ30.1 ∧ sK κ30.1 h = 0) ∧ ∀ κ31 : CS, κ31 = (h_uP κ30.1 h 11 (some o29), κ30.2) → (0 ≤ (80 : Int32).toInt ∧ (80 : Int32).toInt ≤ 1000000) ∧ ((80 : Int32).toInt.toNat + 12 ≤ κ31.2) ∧ ∀ o32 : Nat, o32 ∉ sL κ31.1 → ∀ κ33 : CS, κ33 = (h_uN κ31.1 o32 23 (80 : Int32).toInt.toNat, κ31.2 - ((80 : Int32).toInt.toNat + 12)) → (h ∈ sL κ33.1 ∧ sK κ33.1 h = 0) ∧ ∀ κ34 : CS, κ34 = (h_uP κ33.1 h 12 (some o32), κ33.2) → (0 ≤ (4 : Int32).toInt ∧ (4 : Int32).toInt ≤ 1000000) ∧ ((4 : Int32).toInt.toNat + 12 ≤ κ34.2) ∧ ∀ o35 : Nat, o35 ∉ sL κ34.1 → ∀ κ36 : CS, κ36 = (h_uN κ34.1 o35 21 (4 : Int32).toInt.toNat, κ34.2 - ((4 : Int32).toInt.toNat + 12)) → (h ∈ sL κ36.1 ∧ sK κ36.1 h = 0) ∧ ∀ κ37 : CS, κ37 = (h_uP κ36.1 h 13 (some o35), κ36.2) → (0 ≤ (48 : Int32).toInt ∧ (48 : Int32).toInt ≤ 1000000) ∧ ((48 : Int32).toInt.toNat + 12 ≤ κ37.2) ∧ ∀ o38 : Nat, o38 ∉ sL κ37.1 → ∀ κ39 : CS, κ39 = (h_uN κ37.1 o38 20 (48 : Int32).toInt.toNat, κ37.2 - ((48 : Int32).toInt.toNat + 12)) → (h ∈ sL κ39.1 ∧ sK κ39.1 h = 0) ∧ ∀ κ40 : CS, κ40 = (h_uP κ39.1 h 14 (some o38), κ39.2) → (0 ≤ (4 : Int32).toInt ∧ (4 : Int32).toInt ≤ 1000000) ∧ ((4 : Int32).toInt.toNat + 12 ≤ κ40.2) ∧ ∀ o41 : Nat, o41 ∉ sL κ40.1 → ∀ κ42 : CS, κ42 = (h_uN κ40.1 o41 21 (4 : Int32).toInt.toNat, κ40.2 - ((4 : Int32).toInt.toNat + 12)) → (h ∈ sL κ42.1 ∧ sK κ42.1 h = 0) ∧ ∀ κ43 : CS, κ43 = (h_uP κ42.1 h 15 (some o41), κ42.2) → (0 ≤ (9 : Int32).toInt ∧ (9 : Int32).toInt ≤ 1000000) ∧ ((9 : Int32).toInt.toNat + 12 ≤ κ43.2) ∧ ∀ o44 : Nat, o44 ∉ sL κ43.1 → ∀ κ45 : CS, κ45 = (h_uN κ43.1 o44 21 (9 : Int32).toInt.toNat, κ43.2 - ((9 : Int32).toInt.toNat + 12)) → (h ∈ sL κ45.1 ∧ sK κ45.1 h = 0) ∧ ∀ κ46 : CS, κ46 = (h_uP κ45.1 h 17 (some o44), κ45.2) → (0 ≤ (9 : Int32).toInt ∧ (9 : Int32).toInt ≤ 1000000) ∧ ((9 : Int32).toInt.toNat + 12 ≤ κ46.2) ∧ ∀ o47 : Nat, o47 ∉ sL κ46.1 → ∀ κ48 : CS, κ48 = (h_uN κ46.1 o47 21 (9 : Int32).toInt.toNat, κ46.2 - ((9 : Int32).toInt.toNat + 12)) → (h ∈ sL κ48.1 ∧ sK κ48.1 h = 0) ∧ ∀ κ49 : CS, κ49 = (h_uP κ48.1 h 18 (some o47), κ48.2) → (0 ≤ (9 : Int32).toInt ∧ (9 : Int32).toInt ≤ 1000000) ∧ ((9 : Int32).toInt.toNat + 12 ≤ κ49.2) ∧ ∀ o50 : Nat, o50 ∉ sL κ49.1 → ∀ κ51 : CS, κ51 = (h_uN κ49.1 o50 21 (9 : Int32).toInt.toNat, κ49.2 - ((9 : Int32).toInt.toNat + 12)) → (h ∈ sL κ51.1 ∧ sK κ51.1 h = 0) ∧ ∀ κ52 : CS, κ52 = (h_uP κ51.1 h 19 (some o50), κ51.2) → (0 ≤ (9 : Int32).toInt ∧ (9 : Int32).toInt ≤ 1000000) ∧ ((9 : Int32).toInt.toNat + 12 ≤ κ52.2) ∧ ∀ o53 : Nat, o53 ∉ sL κ52.1 → ∀ κ54 : CS, κ54 = (h_uN κ52.1 o53 23 (9 : Int32).toInt.toNat, κ52.2 - ((9 : Int32).toInt.toNat + 12)) → (h ∈ sL κ54.1 ∧ sK κ54.1 h = 0) ∧ ∀ κ55 : CS, κ55 = (h_uP κ54.1 h 20 (some o53), κ54.2) → (0 ≤ (108 : Int32).toInt ∧ (108 : Int32).toInt ≤ 1000000) ∧ ((108 : Int32).toInt.toNat + 12 ≤ κ55.2) ∧ ∀ o56 : Nat, o56 ∉ sL κ55.1 → ∀ κ57 : CS, κ57 = (h_uN κ55.1 o56 20 (108 : Int32).toInt.toNat, κ55.2 - ((108 : Int32).toInt.toNat + 12)) → (h ∈ sL κ57.1 ∧ sK κ57.1 h = 0) ∧ ∀ κ58 : CS, κ58 = (h_uP κ57.1 h 21 (some o56), κ57.2) → (0 ≤ (9 : Int32).toInt ∧ (9 : Int32).toInt ≤ 1000000) ∧ ((9 : Int32).toInt.toNat + 12 ≤ κ58.2) ∧ ∀ o59 : Nat, o59 ∉ sL κ58.1 → ∀ κ60 : CS, κ60 = (h_uN κ58.1 o59 21 (9 : Int32).toInt.toNat, κ58.2 - ((9 : Int32).toInt.toNat + 12)) → (h ∈ sL κ60.1 ∧ sK κ60.1 h = 0) ∧ ∀ κ61 : CS, κ61 = (h_uP κ60.1 h 22 (some o59), κ60.2) → (0 ≤ (9 : Int32).toInt ∧ (9 : Int32).toInt ≤ 1000000) ∧ ((9 : Int32).toInt.toNat + 12 ≤ κ61.2) ∧ ∀ o62 : Nat, o62 ∉ sL κ61.1 → ∀ κ63 : CS, κ63 = (h_uN κ61.1 o62 21 (9 : Int32).toInt.toNat, κ61.2 - ((9 : Int32).toInt.toNat + 12)) → (h ∈ sL κ63.1 ∧ sK κ63.1 h = 0) ∧ ∀ κ64 : CS, κ64 = (h_uP κ63.1 h 23 (some o62), κ63.2) → (0 ≤ (36 : Int32).toInt ∧ (36 : Int32).toInt ≤ 1000000) ∧ ((36 : Int32).toInt.toNat + 12 ≤ κ64.2) ∧ ∀ o65 : Nat, o65 ∉ sL κ64.1 → ∀ κ66 : CS, κ66 = (h_uN κ64.1 o65 22 (36 : Int32).toInt.toNat, κ64.2 - ((36 : Int32).toInt.toNat + 12)) → (h ∈ sL κ66.1 ∧ sK κ66.1 h = 0) ∧ ∀ κ67 : CS, κ67 = (h_uP κ66.1 h 24 (some o65), κ66.2) → (0 ≤ (9 : Int32).toInt ∧ (9 : Int32).toInt ≤ 1000000) ∧ ((9 : Int32).toInt.toNat + 12 ≤ κ67.2) ∧ ∀ o68 : Nat, o68 ∉ sL κ67.1 → ∀ κ69 : CS, κ69 = (h_uN κ67.1 o68 21 (9 : Int32).toInt.toNat, κ67.2 - ((9 : Int32).toInt.toNat + 12)) → (h ∈ sL κ69.1 ∧ sK κ69.1 h = 0) ∧ ∀ κ70 : CS, κ70 = (h_uP κ69.1 h 25 (some o68), κ69.2) → (0 ≤ (9 : Int32).toInt ∧ (9 : Int32).toInt ≤ 1000000) ∧ ((9 : Int32).toInt.toNat + 12 ≤ κ70.2) ∧ ∀ o71 : Nat, o71 ∉ sL κ70.1 → ∀ κ72 : CS, κ72 = (h_uN κ70.1 o71 21 (9 : Int32).toInt.toNat, κ70.2 - ((9 : Int32).toInt.toNat + 12)) → (h ∈ sL κ72.1 ∧ sK κ72.1 h = 0) ∧ ∀ κ73 : CS, κ73 = (h_uP κ72.1 h 26 (some o71), κ72.2) → (0 ≤ (9216 : Int32).toInt ∧ (9216 : Int32).toInt ≤ 1000000) ∧ ((9216 : Int32).toInt.toNat + 12 ≤ κ73.2) ∧ ∀ o74 : Nat, o74 ∉ sL κ73.1 → ∀ κ75 : CS, κ75 = (h_uN κ73.1 o74 20 (9216 : Int32).toInt.toNat, κ73.2 - ((9216 : Int32).toInt.toNat + 12)) → (h ∈ sL κ75.1 ∧ sK κ75.1 h = 0) ∧ ∀ κ76 : CS, κ76 = (h_uP κ75.1 h 27 (some o74), κ75.2) → (0 ≤ (6 : Int32).toInt ∧ (6 : Int32).toInt ≤ 1000000) ∧ ((6 : Int32).toInt.toNat + 12 ≤ κ76.2) ∧ ∀ o77 : Nat, o77 ∉ sL κ76.1 → ∀ κ78 : CS, κ78 = (h_uN κ76.1 o77 23 (6 : Int32).toInt.toNat, κ76.2 - ((6 : Int32).toInt.toNat + 12)) → (h ∈ sL κ78.1 ∧ sK κ78.1 h = 0) ∧ ∀ κ79 : CS, κ79 = (h_uP κ78.1 h 28 (some o77), κ78.2) → (0 ≤ (6 : Int32).toInt ∧ (6 : Int32).toInt ≤ 1000000) ∧ ((6 : Int32).toInt.toNat + 12 ≤ κ79.2) ∧ ∀ o80 : Nat, o80 ∉ sL κ79.1 → ∀ κ81 : CS, κ81 = (h_uN κ79.1 o80 23 (6 : Int32).toInt.toNat, κ79.2 - ((6 : Int32).toInt.toNat + 12)) → (h ∈ sL κ81.1 ∧ sK κ81.1 h = 0) ∧ ∀ κ82 : CS, κ82 = (h_uP κ81.1 h 29 (some o80), κ81.2) → (0 ≤ (96000 : Int32).toInt ∧ (96000 : Int32).toInt ≤ 1000000) ∧ ((96000 : Int32).toInt.toNat + 12 ≤ κ82.2) ∧ ∀ o83 : Nat, o83 ∉ sL κ82.1 → ∀ κ84 : CS, κ84 = (h_uN κ82.1 o83 20 (96000 : Int32).toInt.toNat, κ82.2 - ((96000 : Int32).toInt.toNat + 12)) → (h ∈ sL κ84.1 ∧ sK κ84.1 h = 0) ∧ ∀ κ85 : CS, κ85 = (h_uP κ84.1 h 30 (some o83), κ84.2) → (0 ≤ (6 : Int32).toInt ∧ (6 : Int32).toInt ≤ 1000000) ∧ ((6 : Int32).toInt.toNat + 12 ≤ κ85.2) ∧ ∀ o86 : Nat, o86 ∉ sL κ85.1 → ∀ κ87 : CS, κ87 = (h_uN κ85.1 o86 21 (6 : Int32).toInt.toNat, κ85.2 - ((6 : Int32).toInt.toNat + 12)) → (h ∈ sL κ87.1 ∧ sK κ87.1 h = 0) ∧ ∀ κ88 : CS, κ88 = (h_uP κ87.1 h 31 (some o86), κ87.2) → (0 ≤ (72600 : Int32).toInt ∧ (72600 : Int32).toInt ≤ 1000000) ∧ ((72600 : Int32).toInt.toNat + 12 ≤ κ88.2) ∧ ∀ o89 : Nat, o89 ∉ sL κ88.1 → ∀ κ90 : CS, κ90 = (h_uN κ88.1 o89 20 (72600 : Int32).toInt.toNat, κ88.2 - ((72600 : Int32).toInt.toNat + 12)) → (h ∈ sL κ90.1 ∧ sK κ90.1 h = 0) ∧ ∀ κ91 : CS, κ91 = (h_uP κ90.1 h 32 (some o89), κ90.2) → (0 ≤ (6 : Int32).toInt ∧ (6 : Int32).toInt ≤ 1000000) ∧ ((6 : Int32).toInt.toNat + 12 ≤ κ91.2) ∧ ∀ o92 : Nat, o92 ∉ sL κ91.1 → ∀ κ93 : CS, κ93 = (h_uN κ91.1 o92 21 (6 : Int32).toInt.toNat, κ91.2 - ((6 : Int32).toInt.toNat + 12)) → (h ∈ sL κ93.1 ∧ sK κ93.1 h = 0) ∧ ∀ κ94 : CS, κ94 = (h_uP κ93.1 h 33 (some o92), κ93.2) → (0 ≤ (96 : Int32).toInt ∧ (96 : Int32).toInt ≤ 1000000) ∧ ((96 : Int32).toInt.toNat + 12 ≤ κ94.2) ∧ ∀ o95 : Nat, o95 ∉ sL κ94.1 → ∀ κ96 : CS, κ96 = (h_uN κ94.1 o95 22 (96 : Int32).toInt.toNat, κ94.2 - ((96 : Int32).toInt.toNat + 12)) → (h ∈ sL κ96.1 ∧ sK κ96.1 h = 0) ∧ ∀ κ97 : CS, κ97 = (h_uP κ96.1 h 34 (some o95), κ96.2) → (0 ≤ (6 : Int32).toInt ∧ (6 : Int32).toInt ≤ 1000000) ∧ ((6 : Int32).toInt.toNat + 12 ≤ κ97.2) ∧ ∀ o98 : Nat, o98 ∉ sL κ97.1 → ∀ κ99 : CS, κ99 = (h_uN κ97.1 o98 21 (6 : Int32).toInt.toNat, κ97.2 - ((6 : Int32).toInt.toNat + 12)) → (h ∈ sL κ99.1 ∧ sK κ99.1 h = 0) ∧ ∀ κ100 : CS, κ100 = (h_uP κ99.1 h 35 (some o98), κ99.2) → (0 ≤ (6 : Int32).toInt ∧ (6 : Int32).toInt ≤ 1000000) ∧ ((6 : Int32).toInt.toNat + 12 ≤ κ100.2) ∧ ∀ o101 : Nat, o101 ∉ sL κ100.1 → ∀ κ102 : CS, κ102 = (h_uN κ100.1 o101 22 (6 : Int32).toInt.toNat, κ100.2 - ((6 : Int32).toInt.toNat + 12)) → (h ∈ sL κ102.1 ∧ sK κ102.1 h = 0) ∧ ∀ κ103 : CS, κ103 = (h_uP κ102.1 h 36 (some o101), κ102.2) → (0 ≤ (8 : Int32).toInt ∧ (8 : Int32).toInt ≤ 1000000) ∧ ((8 : Int32).toInt.toNat + 12 ≤ κ103.2) ∧ ∀ o104 : Nat, o104 ∉ sL κ103.1 → ∀ κ105 : CS, κ105 = (h_uN κ103.1 o104 22 (8 : Int32).toInt.toNat, κ103.2 - ((8 : Int32).toInt.toNat + 12)) → (h ∈ sL κ105.1 ∧ sK κ105.1 h = 0) ∧ ∀ κ106 : CS, κ106 = (h_uP κ105.1 h 37 (some o104), κ105.2) → (0 ≤ (8 : Int32).toInt ∧ (8 : Int32).toInt ≤ 1000000) ∧ ((8 : Int32).toInt.toNat + 12 ≤ κ106.2) ∧ ∀ o107 : Nat, o107 ∉ sL κ106.1 → ∀ κ108 : CS, κ108 = (h_uN κ106.1 o107 21 (8 : Int32).toInt.toNat, κ106.2 - ((8 : Int32).toInt.toNat + 12)) → (h ∈ sL κ108.1 ∧ sK κ108.1 h = 0) ∧ ∀ κ109 : CS, κ109 = (h_uP κ108.1 h 38 (some o107), κ108.2) → (0 ≤ (128 : Int32).toInt ∧ (128 : Int32).toInt ≤ 1000000) ∧ ((128 : Int32).toInt.toNat + 12 ≤ κ109.2) ∧ ∀ o110 : Nat, o110 ∉ sL κ109.1 → ∀ κ111 : CS, κ111 = (h_uN κ109.1 o110 20 (128 : Int32).toInt.toNat, κ109.2 - ((128 : Int32).toInt.toNat + 12)) → (h ∈ sL κ111.1 ∧ sK κ111.1 h = 0) ∧ ∀ κ112 : CS, κ112 = (h_uP κ111.1 h 39 (some o110), κ111.2) → (0 ≤ (8 : Int32).toInt ∧ (8 : Int32).toInt ≤ 1000000) ∧ ((8 : Int32).toInt.toNat + 12 ≤ κ112.2) ∧ ∀ o113 : Nat, o113 ∉ sL κ112.1 → ∀ κ114 : CS, κ114 = (h_uN κ112.1 o113 21 (8 : Int32).toInt.toNat, κ112.2 - ((8 : Int32).toInt.toNat + 12)) → (h ∈ sL κ114.1 ∧ sK κ114.1 h = 0) ∧ ∀ κ115 : CS, κ115 = (h_uP κ114.1 h 40 (some o113), κ114.2) → (0 ≤ (16 : Int32).toInt ∧ (16 : Int32).toInt ≤ 1000000) ∧ ((16 : Int32).toInt.toNat + 12 ≤ κ115.2) ∧ ∀ o116 : Nat, o116 ∉ sL κ115.1 → ∀ κ117 : CS, κ117 = (h_uN κ115.1 o116 22 (16 : Int32).toInt.toNat, κ115.2 - ((16 : Int32).toInt.toNat + 12)) → (h ∈ sL κ117.1 ∧ sK κ117.1 h = 0) ∧ ∀ κ118 : CS, κ118 = (h_uP κ117.1 h 41 (some o116), κ117.2) → (0 ≤ (16 : Int32).toInt ∧ (16 : Int32).toInt ≤ 1000000) ∧ ((16 : Int32).toInt.toNat + 12 ≤ κ118.2) ∧ ∀ o119 : Nat, o119 ∉ sL κ118.1 → ∀ κ120 : CS, κ120 = (h_uN κ118.1 o119 21 (16 : Int32).toInt.toNat, κ118.2 - ((16 : Int32).toInt.toNat + 12)) → (h ∈ sL κ120.1 ∧ sK κ120.1 h = 0) ∧ ∀ κ121 : CS, κ121 = (h_uP κ120.1 h 42 (some o119), κ120.2) → (0 ≤ (16 : Int32).toInt ∧ (16 : Int32).toInt ≤ 1000000) ∧ ((16 : Int32).toInt.toNat + 12 ≤ κ121.2) ∧ ∀ o122 : Nat, o122 ∉ sL κ121.1 → ∀ κ123 : CS, κ123 = (h_uN κ121.1 o122 21 (16 : Int32).toInt.toNat, κ121.2 - ((16 : Int32).toInt.toNat + 12)) → (h ∈ sL κ123.1 ∧ sK κ123.1 h = 0) ∧ ∀ κ124 : CS, κ124 = (h_uP κ123.1 h 43 (some o122), κ123.2) → (0 ≤ (40 : Int32).toInt ∧ (40 : Int32).toInt ≤ 1000000) ∧ ((40 : Int32).toInt.toNat + 12 ≤ κ124.2) ∧ ∀ o125 : Nat, o125 ∉ sL κ124.1 → ∀ κ126 : CS, κ126 = (h_uN κ124.1 o125 22 (40 : Int32).toInt.toNat, κ124.2 - ((40 : Int32).toInt.toNat + 12)) → (h ∈ sL κ126.1 ∧ sK κ126.1 h = 0) ∧ ∀ κ127 : CS, κ127 = (h_uP κ126.1 h 44 (some o125), κ126.2) → (0 ≤ (40 : Int32).toInt ∧ (40 : Int32).toInt ≤ 1000000) ∧ ((40 : Int32).toInt.toNat + 12 ≤ κ127.2) ∧ ∀ o128 : Nat, o128 ∉ sL κ127.1 → ∀ κ129 : CS, κ129 = (h_uN κ127.1 o128 21 (40 : Int32).toInt.toNat, κ127.2 - ((40 : Int32).toInt.toNat + 12)) → (h ∈ sL κ129.1 ∧ sK κ129.1 h = 0) ∧ ∀ κ130 : CS, κ130 = (h_uP κ129.1 h 45 (some o128), κ129.2) → (0 ≤ (40 : Int32).toInt ∧ (40 : Int32).toInt ≤ 1000000) ∧ ((40 : Int32).toInt.toNat + 12 ≤ κ130.2) ∧ ∀ o131 : Nat, o131 ∉ sL κ130.1 → ∀ κ132 : CS, κ132 = (h_uN κ130.1 o131 21 (40 : Int32).toInt.toNat, κ130.2 - ((40 : Int32).toInt.toNat + 12)) → (h ∈ sL κ132.1 ∧ sK κ132.1 h = 0) ∧ ∀ κ133 : CS, κ133 = (h_uP κ132.1 h 46 (some o131), κ132.2) → (0 ≤ (40 : Int32).toInt ∧ (40 : Int32).toInt ≤ 1000000) ∧ ((40 : Int32).toInt.toNat + 12 ≤ κ133.2) ∧ ∀ o134 : Nat, o134 ∉ sL κ133.1 → ∀ κ135 : CS, κ135 = (h_uN κ133.1 o134 21 (40 : Int32).toInt.toNat, κ133.2 - ((40 : Int32).toInt.toNat + 12)) → (h ∈ sL κ135.1 ∧ sK κ135.1 h = 0) ∧ ∀ κ136 : CS, κ136 = (h_uP κ135.1 h 47 (some o134), κ135.2) → (0 ≤ (40 : Int32).toInt ∧ (40 : Int32).toInt ≤ 1000000) ∧ ((40 : Int32).toInt.toNat + 12 ≤ κ136.2) ∧ ∀ o137 : Nat, o137 ∉ sL κ136.1 → ∀ κ138 : CS, κ138 = (h_uN κ136.1 o137 21 (40 : Int32).toInt.toNat, κ136.2 - ((40 : Int32).toInt.toNat + 12)) → (h ∈ sL κ138.1 ∧ sK κ138.1 h = 0) ∧ ∀ κ139 : CS, κ139 = (h_uP κ138.1 h 48 (some o137), κ138.2) → (0 ≤ (40 : Int32).toInt ∧ (40 : Int32).toInt ≤ 1000000) ∧ ((40 : Int32).toInt.toNat + 12 ≤ κ139.2) ∧ ∀ o140 : Nat, o140 ∉ sL κ139.1 → ∀ κ141 : CS, κ141 = (h_uN κ139.1 o140 21 (40 : Int32).toInt.toNat, κ139.2 - ((40 : Int32).toInt.toNat + 12)) → (h ∈ sL κ141.1 ∧ sK κ141.1 h = 0) ∧ ∀ κ142 : CS, κ142 = (h_uP κ141.1 h 49 (some o140), κ141.2) → (0 ≤ (40 : Int32).toInt ∧ (40 : Int32).toInt ≤ 1000000) ∧ ((40 : Int32).toInt.toNat + 12 ≤ κ142.2) ∧ ∀ o143 : Nat, o143 ∉ sL κ142.1 → ∀ κ144 : CS, κ144 = (h_uN κ142.1 o143 23 (40 : Int32).toInt.toNat, κ142.2 - ((40 : Int32).toInt.toNat + 12)) → (h ∈ sL κ144.1 ∧ sK κ144.1 h = 0) ∧ ∀ κ145 : CS, κ145 = (h_uP κ144.1 h 50 (some o143), κ144.2) → (0 ≤ (40 : Int32).toInt ∧ (40 : Int32).toInt ≤ 1000000) ∧ ((40 : Int32).toInt.toNat + 12 ≤ κ145.2) ∧ ∀ o146 : Nat, o146 ∉ sL κ145.1 → ∀ κ147 : CS, κ147 = (h_uN κ145.1 o146 21 (40 : Int32).toInt.toNat, κ145.2 - ((40 : Int32).toInt.toNat + 12)) → (h ∈ sL κ147.1 ∧ sK κ147.1 h = 0) ∧ ∀ κ148 : CS, κ148 = (h_uP κ147.1 h 51 (some o146), κ147.2) → (0 ≤ (40 : Int32).toInt ∧ (40 : Int32).toInt ≤ 1000000) ∧ ((40 : Int32).toInt.toNat + 12 ≤ κ148.2) ∧ ∀ o149 : Nat, o149 ∉ sL κ148.1 → ∀ κ150 : CS, κ150 = (h_uN κ148.1 o149 22 (40 : Int32).toInt.toNat, κ148.2 - ((40 : Int32).toInt.toNat + 12)) → (h ∈ sL κ150.1 ∧ sK κ150.1 h = 0) ∧ ∀ κ151 : CS, κ151 = (h_uP κ150.1 h 52 (some o149), κ150.2) → (0 ≤ (40 : Int32).toInt ∧ (40 : Int32).toInt ≤ 1000000) ∧ ((40 : Int32).toInt.toNat + 12 ≤ κ151.2) ∧ ∀ o152 : Nat, o152 ∉ sL κ151.1 → ∀ κ153 : CS, κ153 = (h_uN κ151.1 o152 23 (40 : Int32).toInt.toNat, κ151.2 - ((40 : Int32).toInt.toNat + 12)) → (h ∈ sL κ153.1 ∧ sK κ153.1 h = 0) ∧ ∀ κ154 : CS, κ154 = (h_uP κ153.1 h 53 (some o152), κ153.2) → (0 ≤ (40 : Int32).toInt ∧ (40 : Int32).toInt ≤ 1000000) ∧ ((40 : Int32).toInt.toNat + 12 ≤ κ154.2) ∧ ∀ o155 : Nat, o155 ∉ sL κ154.1 → ∀ κ156 : CS, κ156 = (h_uN κ154.1 o155 21 (40 : Int32).toInt.toNat, κ154.2 - ((40 : Int32).toInt.toNat + 12)) → (h ∈ sL κ156.1 ∧ sK κ156.1 h = 0) ∧ ∀ κ157 : CS, κ157 = (h_uP κ156.1 h 54 (some o155), κ156.2) → (0 ≤ (800 : Int32).toInt ∧ (800 : Int32).toInt ≤ 1000000) ∧ ((800 : Int32).toInt.toNat + 12 ≤ κ157.2) ∧ ∀ o158 : Nat, o158 ∉ sL κ157.1 → ∀ κ159 : CS, κ159 = (h_uN κ157.1 o158 21 (800 : Int32).toInt.toNat, κ157.2 - ((800 : Int32).toInt.toNat + 12)) → (h ∈ sL κ159.1 ∧ sK κ159.1 h = 0) ∧ ∀ κ160 : CS, κ160 = (h_uP κ159.1 h 55 (some o158), κ159.2) → (0 ≤ (40 : Int32).toInt ∧ (40 : Int32).toInt ≤ 1000000) ∧ ((40 : Int32).toInt.toNat + 12 ≤ κ160.2) ∧ ∀ o161 : Nat, o161 ∉ sL κ160.1 → ∀ κ162 : CS, κ162 = (h_uN κ160.1 o161 21 (40 : Int32).toInt.toNat, κ160.2 - ((40 : Int32).toInt.toNat + 12)) → (h ∈ sL κ162.1 ∧ sK κ162.1 h = 0) ∧ ∀ κ163 : CS, κ163 = (h_uP κ162.1 h 56 (some o161), κ162.2) → (0 ≤ (480 : Int32).toInt ∧ (480 : Int32).toInt ≤ 1000000) ∧ ((480 : Int32).toInt.toNat + 12 ≤ κ163.2) ∧ ∀ o164 : Nat, o164 ∉ sL κ163.1 → ∀ κ165 : CS, κ165 = (h_uN κ163.1 o164 20 (480 : Int32).toInt.toNat, κ163.2 - ((480 : Int32).toInt.toNat + 12)) → (h ∈ sL κ165.1 ∧ sK κ165.1 h = 0) ∧ ∀ κ166 : CS, κ166 = (h_uP κ165.1 h 57 (some o164), κ165.2) → (0 ≤ (40 : Int32).toInt ∧ (40 : Int32).toInt ≤ 1000000) ∧ ((40 : Int32).toInt.toNat + 12 ≤ κ166.2) ∧ ∀ o167 : Nat, o167 ∉ sL κ166.1 → ∀ κ168 : CS, κ168 = (h_uN κ166.1 o167 21 (40 : Int32).toInt.toNat, κ166.2 - ((40 : Int32).toInt.toNat + 12)) → (h ∈ sL κ168.1 ∧ sK κ168.1 h = 0) ∧ ∀ κ169 : CS, κ169 = (h_uP κ168.1 h 58 (some o167), κ168.2) → (0 ≤ (80 : Int32).toInt ∧ (80 : Int32).toInt ≤ 1000000) ∧ ((80 : Int32).toInt.toNat + 12 ≤ κ169.2) ∧ ∀ o170 : Nat, o170 ∉ sL κ169.1 → ∀ κ171 : CS, κ171 = (h_uN κ169.1 o170 22 (80 : Int32).toInt.toNat, κ169.2 - ((80 : Int32).toInt.toNat + 12)) → (h ∈ sL κ171.1 ∧ sK κ171.1 h = 0) ∧ ∀ κ172 : CS, κ172 = (h_uP κ171.1 h 64 (some o170), κ171.2) → (0 ≤ (80 : Int32).toInt ∧ (80 : Int32).toInt ≤ 1000000) ∧ ((80 : Int32).toInt.toNat + 12 ≤ κ172.2) ∧ ∀ o173 : Nat, o173 ∉ sL κ172.1 → ∀ κ174 : CS, κ174 = (h_uN κ172.1 o173 21 (80 : Int32).toInt.toNat, κ172.2 - ((80 : Int32).toInt.toNat + 12)) → (h ∈ sL κ174.1 ∧ sK κ174.1 h = 0) ∧ ∀ κ175 : CS, κ175 = (h_uP κ174.1 h 65 (some o173), κ174.2) → (0 ≤ (80 : Int32).toInt ∧ (80 : Int32).toInt ≤ 1000000) ∧ ((80 : Int32).toInt.toNat + 12 ≤ κ175.2) ∧ ∀ o176 : Nat, o176 ∉ sL κ175.1 → ∀ κ177 : CS, κ177 = (h_uN κ175.1 o176 22 (80 : Int32).toInt.toNat, κ175.2 - ((80 : Int32).toInt.toNat + 12)) → (h ∈ sL κ177.1 ∧ sK κ177.1 h = 0) ∧ ∀ κ178 : CS, κ178 = (h_uP κ177.1 h 66 (some o176), κ177.2) → (0 ≤ (80 : Int32).toInt ∧ (80 : Int32).toInt ≤ 1000000) ∧ ((80 : Int32).toInt.toNat + 12 ≤ κ178.2) ∧ ∀ o179 : Nat, o179 ∉ sL κ178.1 → ∀ κ180 : CS, κ180 = (h_uN κ178.1 o179 22 (80 : Int32).toInt.toNat, κ178.2 - ((80 : Int32).toInt.toNat + 12)) → (h ∈ sL κ180.1 ∧ sK κ180.1 h = 0) ∧ ∀ κ181 : CS, κ181 = (h_uP κ180.1 h 67 (some o179), κ180.2) → (0 ≤ (80 : Int32).toInt ∧ (80 : Int32).toInt ≤ 1000000) ∧ ((80 : Int32).toInt.toNat + 12 ≤ κ181.2) ∧ ∀ o182 : Nat, o182 ∉ sL κ181.1 → ∀ κ183 : CS, κ183 = (h_uN κ181.1 o182 23 (80 : Int32).toInt.toNat, κ181.2 - ((80 : Int32).toInt.toNat + 12)) → (h ∈ sL κ183.1 ∧ sK κ183.1 h = 0) ∧ ∀ κ184 : CS, κ184 = (h_uP κ183.1 h 68 (some o182), κ183.2) → (0 ≤ (16 : Int32).toInt ∧ (16 : Int32).toInt ≤ 1000000) ∧ ((16 : Int32).toInt.toNat + 12 ≤ κ184.2) ∧ ∀ o185 : Nat, o185 ∉ sL κ184.1 → ∀ κ186 : CS, κ186 = (h_uN κ184.1 o185 21 (16 : Int32).toInt.toNat, κ184.2 - ((16 : Int32).toInt.toNat + 12)) → (h ∈ sL κ186.1 ∧ sK κ186.1 h = 0) ∧ ∀ κ187 : CS, κ187 = (h_uP κ186.1 h 70 (some o185), κ186.2) → (0 ≤ (16 : Int32).toInt ∧ (16 : Int32).toInt ≤ 1000000) ∧ ((16 : Int32).toInt.toNat + 12 ≤ κ187.2) ∧ ∀ o188 : Nat, o188 ∉ sL κ187.1 → ∀ κ189 : CS, κ189 = (h_uN κ187.1 o188 21 (16 : Int32).toInt.toNat, κ187.2 - ((16 : Int32).toInt.toNat + 12)) → (h ∈ sL κ189.1 ∧ sK κ189.1 h = 0) ∧ ∀ κ190 : CS, κ190 = (h_uP κ189.1 h 71 (some o188), κ189.2) → (0 ≤ (16 : Int32).toInt ∧ (16 : Int32).toInt ≤ 1000000) ∧ ((16 : Int32).toInt.toNat + 12 ≤ κ190.2) ∧ ∀ o191 : Nat, o191 ∉ sL κ190.1 → ∀ κ192 : CS, κ192 = (h_uN κ190.1 o191 21 (16 : Int32).toInt.toNat, κ190.2 - ((16 : Int32).toInt.toNat + 12)) → (h ∈ sL κ192.1 ∧ sK κ192.1 h = 0) ∧ ∀ κ193 : CS, κ193 = (h_uP κ192.1 h 72 (some o191), κ192.2) → (0 ≤ (16 : Int32).toInt ∧ (16 : Int32).toInt ≤ 1000000) ∧ ((16 : Int32).toInt.toNat + 12 ≤ κ193.2) ∧ ∀ o194 : Nat, o194 ∉ sL κ193.1 → ∀ κ195 : CS, κ195 = (h_uN κ193.1 o194 23 (16 : Int32).toInt.toNat, κ193.2 - ((16 : Int32).toInt.toNat + 12)) → (h ∈ sL κ195.1 ∧ sK κ195.1 h = 0) ∧ ∀ κ196 : CS, κ196 = (h_uP κ195.1 h 73 (some o194), κ195.2) → (0 ≤ (16 : Int32).toInt ∧ (16 : Int32).toInt ≤ 1000000) ∧ ((16 : Int32).toInt.toNat + 12 ≤ κ196.2) ∧ ∀ o197 : Nat, o197 ∉ sL κ196.1 → ∀ κ198 : CS, κ198 = (h_uN κ196.1 o197 22 (16 : Int32).toInt.toNat, κ196.2 - ((16 : Int32).toInt.toNat + 12)) → (h ∈ sL κ198.1 ∧ sK κ198.1 h = 0) ∧ ∀ κ199 : CS, κ199 = (h_uP κ198.1 h 74 (some o197), κ198.2) → (0 ≤ (16 : Int32).toInt ∧ (16 : Int32).toInt ≤ 1000000) ∧ ((16 : Int32).toInt.toNat + 12 ≤ κ199.2) ∧ ∀ o200 : Nat, o200 ∉ sL κ199.1 → ∀ κ201 : CS, κ201 = (h_uN κ199.1 o200 22 (16 : Int32).toInt.toNat, κ199.2 - ((16 : Int32).toInt.toNat + 12)) → (h ∈ sL κ201.1 ∧ sK κ201.1 h = 0) ∧ ∀ κ202 : CS, κ202 = (h_uP κ201.1 h 75 (some o200), κ201.2) → (0 ≤ (16 : Int32).toInt ∧ (16 : Int32).toInt ≤ 1000000) ∧ ((16 : Int32).toInt.toNat + 12 ≤ κ202.2) ∧ ∀ o203 : Nat, o203 ∉ sL κ202.1 → ∀ κ204 : CS, κ204 = (h_uN κ202.1 o203 21 (16 : Int32).toInt.toNat, κ202.2 - ((16 : Int32).toInt.toNat + 12)) → (h ∈ sL κ204.1 ∧ sK κ204.1 h = 0) ∧ ∀ κ205 : CS, κ205 = (h_uP κ204.1 h 76 (some o203), κ204.2) → (0 ≤ (16 : Int32).toInt ∧ (16 : Int32).toInt ≤ 1000000) ∧ ((16 : Int32).toInt.toNat + 12 ≤ κ205.2) ∧ ∀ o206 : Nat, o206 ∉ sL κ205.1 → ∀ κ207 : CS, κ207 = (h_uN κ205.1 o206 21 (16 : Int32).toInt.toNat, κ205.2 - ((16 : Int32).toInt.toNat + 12)) → (h ∈ sL κ207.1 ∧ sK κ207.1 h = 0) ∧ ∀ κ208 : CS, κ208 = (h_uP κ207.1 h 77 (some o206), κ207.2) → (0 ≤ (16 : Int32).toInt ∧ (16 : Int32).toInt ≤ 1000000) ∧ ((16 : Int32).toInt.toNat + 12 ≤ κ208.2) ∧ ∀ o209 : Nat, o209 ∉ sL κ208.1 → ∀ κ210 : CS, κ210 = (h_uN κ208.1 o209 22 (16 : Int32).toInt.toNat, κ208.2 - ((16 : Int32).toInt.toNat + 12)) → (h ∈ sL κ210.1 ∧ sK κ210.1 h = 0) ∧ ∀ κ211 : CS, κ211 = (h_uP κ210.1 h 78 (some o209), κ210.2) → (0 ≤ (16 : Int32).toInt ∧ (16 : Int32).toInt ≤ 1000000) ∧ ((16 : Int32).toInt.toNat + 12 ≤ κ211.2) ∧ ∀ o212 : Nat, o212 ∉ sL κ211.1 → ∀ κ213 : CS, κ213 = (h_uN κ211.1 o212 21 (16 : Int32).toInt.toNat, κ211.2 - ((16 : Int32).toInt.toNat + 12)) → (h ∈ sL κ213.1 ∧ sK κ213.1 h = 0) ∧ ∀ κ214 : CS, κ214 = (h_uP κ213.1 h 79 (some o212), κ213.2) → (0 ≤ (16 : Int32).toInt ∧ (16 : Int32).toInt ≤ 1000000) ∧ ((16 : Int32).toInt.toNat + 12 ≤ κ214.2) ∧ ∀ o215 : Nat, o215 ∉ sL κ214.1 → ∀ κ216 : CS, κ216 = (h_uN κ214.1 o215 22 (16 : Int32).toInt.toNat, κ214.2 - ((16 : Int32).toInt.toNat + 12)) → (h ∈ sL κ216.1 ∧ sK κ216.1 h = 0) ∧ ∀ κ217 : CS, κ217 = (h_uP κ216.1 h 80 (some o215), κ216.2) → (0 ≤ (16 : Int32).toInt ∧ (16 : Int32).toInt ≤ 1000000) ∧ ((16 : Int32).toInt.toNat + 12 ≤ κ217.2) ∧ ∀ o218 : Nat, o218 ∉ sL κ217.1 → ∀ κ219 : CS, κ219 = (h_uN κ217.1 o218 22 (16 : Int32).toInt.toNat, κ217.2 - ((16 : Int32).toInt.toNat + 12)) → (h ∈ sL κ219.1 ∧ sK κ219.1 h = 0) ∧ ∀ κ220 : CS, κ220 = (h_uP κ219.1 h 81 (some o218), κ219.2) → (0 ≤ (16 : Int32).toInt ∧ (16 : Int32).toInt ≤ 1000000) ∧ ((16 : Int32).toInt.toNat + 12 ≤ κ220.2) ∧ ∀ o221 : Nat, o221 ∉ sL κ220.1 → ∀ κ222 : CS, κ222 = (h_uN κ220.1 o221 23 (16 : Int32).toInt.toNat, κ220.2 - ((16 : Int32).toInt.toNat + 12)) → (h ∈ sL κ222.1 ∧ sK κ222.1 h = 0) ∧ ∀ κ223 : CS, κ223 = (h_uP κ222.1 h 82 (some o221), κ222.2) → (0 ≤ (16 : Int32).toInt ∧ (16 : Int32).toInt ≤ 1000000) ∧ ((16 : Int32).toInt.toNat + 12 ≤ κ223.2) ∧ ∀ o224 : Nat, o224 ∉ sL κ223.1 → ∀ κ225 : CS, κ225 = (h_uN κ223.1 o224 21 (16 : Int32).toInt.toNat, κ223.2 - ((16 : Int32).toInt.toNat + 12)) → (h ∈ sL κ225.1 ∧ sK κ225.1 h = 0) ∧ ∀ κ226 : CS, κ226 = (h_uP κ225.1 h 83 (some o224), κ225.2) → (0 ≤ (64000 : Int32).toInt ∧ (64000 : Int32).toInt ≤ 1000000) ∧ ((64000 : Int32).toInt.toNat + 12 ≤ κ226.2) ∧ ∀ o227 : Nat, o227 ∉ sL κ226.1 → ∀ κ228 : CS, κ228 = (h_uN κ226.1 o227 20 (64000 : Int32).toInt.toNat, κ226.2 - ((64000 : Int32).toInt.toNat + 12)) → (h ∈ sL κ228.1 ∧ sK κ228.1 h = 0) ∧ ∀ κ229 : CS, κ229 = (h_uP κ228.1 h 84 (some o227), κ228.2) → (0 ≤ (90000 : Int32).toInt ∧ (90000 : Int32).toInt ≤ 1000000) ∧ ((90000 : Int32).toInt.toNat + 12 ≤ κ229.2) ∧ ∀ o230 : Nat, o230 ∉ sL κ229.1 → ∀ κ231 : CS, κ231 = (h_uN κ229.1 o230 20 (90000 : Int32).toInt.toNat, κ229.2 - ((90000 : Int32).toInt.toNat + 12)) → (h ∈ sL κ231.1 ∧ sK κ231.1 h = 0) ∧ ∀ κ232 : CS, κ232 = (h_uP κ231.1 h 89 (some o230), κ231.2) → (0 ≤ (130 : Int32).toInt ∧ (130 : Int32).toInt ≤ 1000000) ∧ ((130 : Int32).toInt.toNat + 12 ≤ κ232.2) ∧ ∀ o233 : Nat, o233 ∉ sL κ232.1 → ∀ κ234 : CS, κ234 = (h_uN κ232.1 o233 21 (130 : Int32).toInt.toNat, κ232.2 - ((130 : Int32).toInt.toNat + 12)) → (h ∈ sL κ234.1 ∧ sK κ234.1 h = 0) ∧ ∀ κ235 : CS, κ235 = (h_uP κ234.1 h 112 (some o233), κ234.2) → (0 ≤ (130 : Int32).toInt ∧ (130 : Int32).toInt ≤ 1000000) ∧ ((130 : Int32).toInt.toNat + 12 ≤ κ235.2) ∧ ∀ o236 : Nat, o236 ∉ sL κ235.1 → ∀ κ237 : CS, κ237 = (h_uN κ235.1 o236 21 (130 : Int32).toInt.toNat, κ235.2 - ((130 : Int32).toInt.toNat + 12)) → (h ∈ sL κ237.1 ∧ sK κ237.1 h = 0) ∧ ∀ κ238 : CS, κ238 = (h_uP κ237.1 h 113 (some o236), κ237.2) → (0 ≤ (130 : Int32).toInt ∧ (130 : Int32).toInt ≤ 1000000) ∧ ((130 : Int32).toInt.toNat + 12 ≤ κ238.2) ∧ ∀ o239 : Nat, o239 ∉ sL κ238.1 → ∀ κ240 : CS, κ240 = (h_uN κ238.1 o239 21 (130 : Int32).toInt.toNat, κ238.2 - ((130 : Int32).toInt.toNat + 12)) → (h ∈ sL κ240.1 ∧ sK κ240.1 h = 0) ∧ ∀ κ241 : CS, κ241 = (h_uP κ240.1 h 114 (some o239), κ240.2) → lc (fun (K244 : Int32 → CS → Prop) (x242 : Int32) (κ243 : CS) => (((4 : Int32).toInt ≤ x242.toInt) → ∃ (L : Nat → Nat) (K : Nat → Nat), (∀ a ∈ sL κ243.1, ph (K a) = sK κ243.1 a) ∧ MdI h L (sL κ243.1, K, κ243.1.2.2) ∧ F_X12_begin h L (fun σ' => post (unl σ', κ243.2)) (sL κ243.1, K, κ243.1.2.2)) ∧ ((x242.toInt < (4 : Int32).toInt) → (h ∈ sL κ243.1 ∧ sK κ243.1 h = 0) ∧ ∀ z247 : Option Nat, z247 = sP κ243.1 h 13 → ∃ b : Nat, z247 = some b ∧ (b ∈ sL κ243.1 ∧ sK κ243.1 b = 21) ∧ (0 ≤ x242.toInt ∧ x242.toInt < (sN κ243.1 b : Int)) ∧ ∀ κ248 : CS, κ248 = (h_uI κ243.1 b x242.toInt.toNat (-1), κ243.2) → ∀ z249 : Int32, z249 = x242 + 1 → K244 z249 κ248)) 0 κ241
theorem dX12_init_0 : decode cX12_init 0 = .ok (.aload_n 0, 1) := by decide +kernel
theorem dX12_init_1 : decode cX12_init 1 = .ok (.invokespecial 1, 3) := by decide +kernel
theorem dX12_init_4 : decode cX12_init 4 = .ok (.aload_n 0, 1) := by decide +kernel
theorem dX12_init_5 : decode cX12_init 5 = .ok (.sipush 8000, 3) := by decide +kernel
theorem dX12_init_8 : decode cX12_init 8 = .ok (.newarray .byte, 2) := by decide +kernel
theorem dX12_init_10 : decode cX12_init 10 = .ok (.putfield 7, 3) := by decide +kernel
theorem dX12_init_13 : decode cX12_init 13 = .ok (.aload_n 0, 1) := by decide +kernel
theorem dX12_init_14 : decode cX12_init 14 = .ok (.sipush 160, 3) := by decide +kernel
theorem dX12_init_17 : decode cX12_init 17 = .ok (.newarray .boolean, 2) := by decide +kernel
theorem dX12_init_19 : decode cX12_init 19 = .ok (.putfield 13, 3) := by decide +kernel
theorem dX12_init_22 : decode cX12_init 22 = .ok (.aload_n 0, 1) := by decide +kernel
theorem dX12_init_23 : decode cX12_init 23 = .ok (.sipush 160, 3) := by decide +kernel
theorem dX12_init_26 : decode cX12_init 26 = .ok (.newarray .int, 2) := by decide +kernel
theorem dX12_init_28 : decode cX12_init 28 = .ok (.putfield 17, 3) := by decide +kernel
theorem dX12_init_31 : decode cX12_init 31 = .ok (.aload_n 0, 1) := by decide +kernel
theorem dX12_init_32 : decode cX12_init 32 = .ok (.sipush 160, 3) := by decide +kernel
theorem dX12_init_35 : decode cX12_init 35 = .ok (.newarray .boolean, 2) := by decide +kernel
theorem dX12_init_37 : decode cX12_init 37 = .ok (.putfield 21, 3) := by decide +kernel
theorem dX12_init_40 : decode cX12_init 40 = .ok (.aload_n 0, 1) := by decide +kernel
theorem dX12_init_41 : decode cX12_init 41 = .ok (.sipush 1920, 3) := by decide +kernel
theorem dX12_init_44 : decode cX12_init 44 = .ok (.newarray .byte, 2) := by decide +kernel
theorem dX12_init_46 : decode cX12_init 46 = .ok (.putfield 24, 3) := by decide +kernel
theorem dX12_init_49 : decode cX12_init 49 = .ok (.aload_n 0, 1) := by decide +kernel
theorem dX12_init_50 : decode cX12_init 50 = .ok (.sipush 160, 3) := by decide +kernel
theorem dX12_init_53 : decode cX12_init 53 = .ok (.newarray .int, 2) := by decide +kernel
theorem dX12_init_55 : decode cX12_init 55 = .ok (.putfield 27, 3) := by decide +kernel
theorem dX12_init_58 : decode cX12_init 58 = .ok (.aload_n 0, 1) := by decide +kernel
theorem dX12_init_59 : decode cX12_init 59 = .ok (.sipush 160, 3) := by decide +kernel
theorem dX12_init_62 : decode cX12_init 62 = .ok (.newarray .int, 2) := by decide +kernel
theorem dX12_init_64 : decode cX12_init 64 = .ok (.putfield 30, 3) := by decide +kernel
theorem dX12_init_67 : decode cX12_init 67 = .ok (.aload_n 0, 1) := by decide +kernel
theorem dX12_init_68 : decode cX12_init 68 = .ok (.sipush 640, 3) := by decide +kernel
theorem dX12_init_71 : decode cX12_init 71 = .ok (.newarray .long, 2) := by decide +kernel
theorem dX12_init_73 : decode cX12_init 73 = .ok (.putfield 33, 3) := by decide +kernel
theorem dX12_init_76 : decode cX12_init 76 = .ok (.aload_n 0, 1) := by decide +kernel
theorem dX12_init_77 : decode cX12_init 77 = .ok (.sipush 160, 3) := by decide +kernel
theorem dX12_init_80 : decode cX12_init 80 = .ok (.newarray .int, 2) := by decide +kernel
theorem dX12_init_82 : decode cX12_init 82 = .ok (.putfield 37, 3) := by decide +kernel
theorem dX12_init_85 : decode cX12_init 85 = .ok (.aload_n 0, 1) := by decide +kernel
theorem dX12_init_86 : decode cX12_init 86 = .ok (.ldc 40, 2) := by decide +kernel
theorem dX12_init_88 : decode cX12_init 88 = .ok (.newarray .byte, 2) := by decide +kernel
theorem dX12_init_90 : decode cX12_init 90 = .ok (.putfield 41, 3) := by decide +kernel
theorem dX12_init_93 : decode cX12_init 93 = .ok (.aload_n 0, 1) := by decide +kernel
theorem dX12_init_94 : decode cX12_init 94 = .ok (.bipush 80, 2) := by decide +kernel
theorem dX12_init_96 : decode cX12_init 96 = .ok (.newarray .boolean, 2) := by decide +kernel
theorem dX12_init_98 : decode cX12_init 98 = .ok (.putfield 44, 3) := by decide +kernel
theorem dX12_init_101 : decode cX12_init 101 = .ok (.aload_n 0, 1) := by decide +kernel
theorem dX12_init_102 : decode cX12_init 102 = .ok (.iconst 4, 1) := by decide +kernel
theorem dX12_init_103 : decode cX12_init 103 = .ok (.newarray .int, 2) := by decide +kernel
theorem dX12_init_105 : decode cX12_init 105 = .ok (.putfield 47, 3) := by decide +kernel
theorem dX12_init_108 : decode cX12_init 108 = .ok (.aload_n 0, 1) := by decide +kernel
theorem dX12_init_109 : decode cX12_init 109 = .ok (.bipush 48, 2) := by decide +kernel
theorem dX12_init_111 : decode cX12_init 111 = .ok (.newarray .byte, 2) := by decide +kernel
theorem dX12_init_113 : decode cX12_init 113 = .ok (.putfield 50, 3) := by decide +kernel
theorem dX12_init_116 : decode cX12_init 116 = .ok (.aload_n 0, 1) := by decide +kernel
theorem dX12_init_117 : decode cX12_init 117 = .ok (.iconst 4, 1) := by decide +kernel
theorem dX12_init_118 : decode cX12_init 118 = .ok (.newarray .int, 2) := by decide +kernel
theorem dX12_init_120 : decode cX12_init 120 = .ok (.putfield 53, 3) := by decide +kernel
theorem dX12_init_123 : decode cX12_init 123 = .ok (.aload_n 0, 1) := by decide +kernel
theorem dX12_init_124 : decode cX12_init 124 = .ok (.bipush 9, 2) := by decide +kernel
theorem dX12_init_126 : decode cX12_init 126 = .ok (.newarray .int, 2) := by decide +kernel
theorem dX12_init_128 : decode cX12_init 128 = .ok (.putfield 56, 3) := by decide +kernel
theorem dX12_init_131 : decode cX12_init 131 = .ok (.aload_n 0, 1) := by decide +kernel
theorem dX12_init_132 : decode cX12_init 132 = .ok (.bipush 9, 2) := by decide +kernel
theorem dX12_init_134 : decode cX12_init 134 = .ok (.newarray .int, 2) := by decide +kernel
theorem dX12_init_136 : decode cX12_init 136 = .ok (.putfield 59, 3) := by decide +kernel
theorem dX12_init_139 : decode cX12_init 139 = .ok (.aload_n 0, 1) := by decide +kernel
theorem dX12_init_140 : decode cX12_init 140 = .ok (.bipush 9, 2) := by decide +kernel
theorem dX12_init_142 : decode cX12_init 142 = .ok (.newarray .int, 2) := by decide +kernel
theorem dX12_init_144 : decode cX12_init 144 = .ok (.putfield 62, 3) := by decide +kernel
theorem dX12_init_147 : decode cX12_init 147 = .ok (.aload_n 0, 1) := by decide +kernel
theorem dX12_init_148 : decode cX12_init 148 = .ok (.bipush 9, 2) := by decide +kernel
theorem dX12_init_150 : decode cX12_init 150 = .ok (.newarray .boolean, 2) := by decide +kernel
theorem dX12_init_152 : decode cX12_init 152 = .ok (.putfield 65, 3) := by decide +kernel
theorem dX12_init_155 : decode cX12_init 155 = .ok (.aload_n 0, 1) := by decide +kernel
theorem dX12_init_156 : decode cX12_init 156 = .ok (.bipush 108, 2) := by decide +kernel
theorem dX12_init_158 : decode cX12_init 158 = .ok (.newarray .byte, 2) := by decide +kernel
theorem dX12_init_160 : decode cX12_init 160 = .ok (.putfield 68, 3) := by decide +kernel
theorem dX12_init_163 : decode cX12_init 163 = .ok (.aload_n 0, 1) := by decide +kernel
theorem dX12_init_164 : decode cX12_init 164 = .ok (.bipush 9, 2) := by decide +kernel
theorem dX12_init_166 : decode cX12_init 166 = .ok (.newarray .int, 2) := by decide +kernel
theorem dX12_init_168 : decode cX12_init 168 = .ok (.putfield 71, 3) := by decide +kernel
theorem dX12_init_171 : decode cX12_init 171 = .ok (.aload_n 0, 1) := by decide +kernel
theorem dX12_init_172 : decode cX12_init 172 = .ok (.bipush 9, 2) := by decide +kernel
theorem dX12_init_174 : decode cX12_init 174 = .ok (.newarray .int, 2) := by decide +kernel
theorem dX12_init_176 : decode cX12_init 176 = .ok (.putfield 74, 3) := by decide +kernel
theorem dX12_init_179 : decode cX12_init 179 = .ok (.aload_n 0, 1) := by decide +kernel
theorem dX12_init_180 : decode cX12_init 180 = .ok (.bipush 36, 2) := by decide +kernel
theorem dX12_init_182 : decode cX12_init 182 = .ok (.newarray .long, 2) := by decide +kernel
theorem dX12_init_184 : decode cX12_init 184 = .ok (.putfield 77, 3) := by decide +kernel
theorem dX12_init_187 : decode cX12_init 187 = .ok (.aload_n 0, 1) := by decide +kernel
theorem dX12_init_188 : decode cX12_init 188 = .ok (.bipush 9, 2) := by decide +kernel
theorem dX12_init_190 : decode cX12_init 190 = .ok (.newarray .int, 2) := by decide +kernel
theorem dX12_init_192 : decode cX12_init 192 = .ok (.putfield 80, 3) := by decide +kernel
theorem dX12_init_195 : decode cX12_init 195 = .ok (.aload_n 0, 1) := by decide +kernel
theorem dX12_init_196 : decode cX12_init 196 = .ok (.bipush 9, 2) := by decide +kernel
theorem dX12_init_198 : decode cX12_init 198 = .ok (.newarray .int, 2) := by decide +kernel
theorem dX12_init_200 : decode cX12_init 200 = .ok (.putfield 83, 3) := by decide +kernel
theorem dX12_init_203 : decode cX12_init 203 = .ok (.aload_n 0, 1) := by decide +kernel
theorem dX12_init_204 : decode cX12_init 204 = .ok (.sipush 9216, 3) := by decide +kernel
theorem dX12_init_207 : decode cX12_init 207 = .ok (.newarray .byte, 2) := by decide +kernel
theorem dX12_init_209 : decode cX12_init 209 = .ok (.putfield 86, 3) := by decide +kernel
theorem dX12_init_212 : decode cX12_init 212 = .ok (.aload_n 0, 1) := by decide +kernel
theorem dX12_init_213 : decode cX12_init 213 = .ok (.bipush 6, 2) := by decide +kernel
theorem dX12_init_215 : decode cX12_init 215 = .ok (.newarray .boolean, 2) := by decide +kernel
theorem dX12_init_217 : decode cX12_init 217 = .ok (.putfield 89, 3) := by decide +kernel
theorem dX12_init_220 : decode cX12_init 220 = .ok (.aload_n 0, 1) := by decide +kernel
theorem dX12_init_221 : decode cX12_init 221 = .ok (.bipush 6, 2) := by decide +kernel
theorem dX12_init_223 : decode cX12_init 223 = .ok (.newarray .boolean, 2) := by decide +kernel
theorem dX12_init_225 : decode cX12_init 225 = .ok (.putfield 92, 3) := by decide +kernel
theorem dX12_init_228 : decode cX12_init 228 = .ok (.aload_n 0, 1) := by decide +kernel
theorem dX12_init_229 : decode cX12_init 229 = .ok (.ldc 95, 2) := by decide +kernel
theorem dX12_init_231 : decode cX12_init 231 = .ok (.newarray .byte, 2) := by decide +kernel
theorem dX12_init_233 : decode cX12_init 233 = .ok (.putfield 96, 3) := by decide +kernel
theorem dX12_init_236 : decode cX12_init 236 = .ok (.aload_n 0, 1) := by decide +kernel
theorem dX12_init_237 : decode cX12_init 237 = .ok (.bipush 6, 2) := by decide +kernel
theorem dX12_init_239 : decode cX12_init 239 = .ok (.newarray .int, 2) := by decide +kernel
theorem dX12_init_241 : decode cX12_init 241 = .ok (.putfield 99, 3) := by decide +kernel
theorem dX12_init_244 : decode cX12_init 244 = .ok (.aload_n 0, 1) := by decide +kernel
theorem dX12_init_245 : decode cX12_init 245 = .ok (.ldc 102, 2) := by decide +kernel
theorem dX12_init_247 : decode cX12_init 247 = .ok (.newarray .byte, 2) := by decide +kernel
theorem dX12_init_249 : decode cX12_init 249 = .ok (.putfield 103, 3) := by decide +kernel
theorem dX12_init_252 : decode cX12_init 252 = .ok (.aload_n 0, 1) := by decide +kernel
theorem dX12_init_253 : decode cX12_init 253 = .ok (.bipush 6, 2) := by decide +kernel
theorem dX12_init_255 : decode cX12_init 255 = .ok (.newarray .int, 2) := by decide +kernel
theorem dX12_init_257 : decode cX12_init 257 = .ok (.putfield 106, 3) := by decide +kernel
theorem dX12_init_260 : decode cX12_init 260 = .ok (.aload_n 0, 1) := by decide +kernel
theorem dX12_init_261 : decode cX12_init 261 = .ok (.bipush 96, 2) := by decide +kernel
theorem dX12_init_263 : decode cX12_init 263 = .ok (.newarray .long, 2) := by decide +kernel
theorem dX12_init_265 : decode cX12_init 265 = .ok (.putfield 109, 3) := by decide +kernel
theorem dX12_init_268 : decode cX12_init 268 = .ok (.aload_n 0, 1) := by decide +kernel
theorem dX12_init_269 : decode cX12_init 269 = .ok (.bipush 6, 2) := by decide +kernel
theorem dX12_init_271 : decode cX12_init 271 = .ok (.newarray .int, 2) := by decide +kernel
theorem dX12_init_273 : decode cX12_init 273 = .ok (.putfield 112, 3) := by decide +kernel
theorem dX12_init_276 : decode cX12_init 276 = .ok (.aload_n 0, 1) := by decide +kernel
theorem dX12_init_277 : decode cX12_init 277 = .ok (.bipush 6, 2) := by decide +kernel
theorem dX12_init_279 : decode cX12_init 279 = .ok (.newarray .long, 2) := by decide +kernel
theorem dX12_init_281 : decode cX12_init 281 = .ok (.putfield 115, 3) := by decide +kernel
theorem dX12_init_284 : decode cX12_init 284 = .ok (.aload_n 0, 1) := by decide +kernel
theorem dX12_init_285 : decode cX12_init 285 = .ok (.bipush 8, 2) := by decide +kernel
theorem dX12_init_287 : decode cX12_init 287 = .ok (.newarray .long, 2) := by decide +kernel
theorem dX12_init_289 : decode cX12_init 289 = .ok (.putfield 118, 3) := by decide +kernel
theorem dX12_init_292 : decode cX12_init 292 = .ok (.aload_n 0, 1) := by decide +kernel
theorem dX12_init_293 : decode cX12_init 293 = .ok (.bipush 8, 2) := by decide +kernel
theorem dX12_init_295 : decode cX12_init 295 = .ok (.newarray .int, 2) := by decide +kernel
theorem dX12_init_297 : decode cX12_init 297 = .ok (.putfield 121, 3) := by decide +kernel
theorem dX12_init_300 : decode cX12_init 300 = .ok (.aload_n 0, 1) := by decide +kernel
theorem dX12_init_301 : decode cX12_init 301 = .ok (.sipush 128, 3) := by decide +kernel
theorem dX12_init_304 : decode cX12_init 304 = .ok (.newarray .byte, 2) := by decide +kernel
theorem dX12_init_306 : decode cX12_init 306 = .ok (.putfield 124, 3) := by decide +kernel
theorem dX12_init_309 : decode cX12_init 309 = .ok (.aload_n 0, 1) := by decide +kernel
theorem dX12_init_310 : decode cX12_init 310 = .ok (.bipush 8, 2) := by decide +kernel
theorem dX12_init_312 : decode cX12_init 312 = .ok (.newarray .int, 2) := by decide +kernel
theorem dX12_init_314 : decode cX12_init 314 = .ok (.putfield 127, 3) := by decide +kernel
theorem dX12_init_317 : decode cX12_init 317 = .ok (.aload_n 0, 1) := by decide +kernel
theorem dX12_init_318 : decode cX12_init 318 = .ok (.bipush 16, 2) := by decide +kernel
theorem dX12_init_320 : decode cX12_init 320 = .ok (.newarray .long, 2) := by decide +kernel
theorem dX12_init_322 : decode cX12_init 322 = .ok (.putfield 130, 3) := by decide +kernel
theorem dX12_init_325 : decode cX12_init 325 = .ok (.aload_n 0, 1) := by decide +kernel
theorem dX12_init_326 : decode cX12_init 326 = .ok (.bipush 16, 2) := by decide +kernel
theorem dX12_init_328 : decode cX12_init 328 = .ok (.newarray .int, 2) := by decide +kernel
theorem dX12_init_330 : decode cX12_init 330 = .ok (.putfield 133, 3) := by decide +kernel
theorem dX12_init_333 : decode cX12_init 333 = .ok (.aload_n 0, 1) := by decide +kernel
theorem dX12_init_334 : decode cX12_init 334 = .ok (.bipush 16, 2) := by decide +kernel
theorem dX12_init_336 : decode cX12_init 336 = .ok (.newarray .int, 2) := by decide +kernel
theorem dX12_init_338 : decode cX12_init 338 = .ok (.putfield 136, 3) := by decide +kernel
theorem dX12_init_341 : decode cX12_init 341 = .ok (.aload_n 0, 1) := by decide +kernel
theorem dX12_init_342 : decode cX12_init 342 = .ok (.bipush 40, 2) := by decide +kernel
theorem dX12_init_344 : decode cX12_init 344 = .ok (.newarray .long, 2) := by decide +kernel
theorem dX12_init_346 : decode cX12_init 346 = .ok (.putfield 139, 3) := by decide +kernel
theorem dX12_init_349 : decode cX12_init 349 = .ok (.aload_n 0, 1) := by decide +kernel
theorem dX12_init_350 : decode cX12_init 350 = .ok (.bipush 40, 2) := by decide +kernel
theorem dX12_init_352 : decode cX12_init 352 = .ok (.newarray .int, 2) := by decide +kernel
theorem dX12_init_354 : decode cX12_init 354 = .ok (.putfield 142, 3) := by decide +kernel
theorem dX12_init_357 : decode cX12_init 357 = .ok (.aload_n 0, 1) := by decide +kernel
theorem dX12_init_358 : decode cX12_init 358 = .ok (.bipush 40, 2) := by decide +kernel
theorem dX12_init_360 : decode cX12_init 360 = .ok (.newarray .int, 2) := by decide +kernel
theorem dX12_init_362 : decode cX12_init 362 = .ok (.putfield 145, 3) := by decide +kernel
theorem dX12_init_365 : decode cX12_init 365 = .ok (.aload_n 0, 1) := by decide +kernel
theorem dX12_init_366 : decode cX12_init 366 = .ok (.bipush 40, 2) := by decide +kernel
theorem dX12_init_368 : decode cX12_init 368 = .ok (.newarray .int, 2) := by decide +kernel
theorem dX12_init_370 : decode cX12_init 370 = .ok (.putfield 148, 3) := by decide +kernel
theorem dX12_init_373 : decode cX12_init 373 = .ok (.aload_n 0, 1) := by decide +kernel
theorem dX12_init_374 : decode cX12_init 374 = .ok (.bipush 40, 2) := by decide +kernel
theorem dX12_init_376 : decode cX12_init 376 = .ok (.newarray .int, 2) := by decide +kernel
theorem dX12_init_378 : decode cX12_init 378 = .ok (.putfield 151, 3) := by decide +kernel
theorem dX12_init_381 : decode cX12_init 381 = .ok (.aload_n 0, 1) := by decide +kernel
theorem dX12_init_382 : decode cX12_init 382 = .ok (.bipush 40, 2) := by decide +kernel
theorem dX12_init_384 : decode cX12_init 384 = .ok (.newarray .int, 2) := by decide +kernel
theorem dX12_init_386 : decode cX12_init 386 = .ok (.putfield 154, 3) := by decide +kernel
theorem dX12_init_389 : decode cX12_init 389 = .ok (.aload_n 0, 1) := by decide +kernel
theorem dX12_init_390 : decode cX12_init 390 = .ok (.bipush 40, 2) := by decide +kernel
theorem dX12_init_392 : decode cX12_init 392 = .ok (.newarray .boolean, 2) := by decide +kernel
theorem dX12_init_394 : decode cX12_init 394 = .ok (.putfield 157, 3) := by decide +kernel
theorem dX12_init_397 : decode cX12_init 397 = .ok (.aload_n 0, 1) := by decide +kernel
theorem dX12_init_398 : decode cX12_init 398 = .ok (.bipush 40, 2) := by decide +kernel
theorem dX12_init_400 : decode cX12_init 400 = .ok (.newarray .int, 2) := by decide +kernel
theorem dX12_init_402 : decode cX12_init 402 = .ok (.putfield 160, 3) := by decide +kernel
theorem dX12_init_405 : decode cX12_init 405 = .ok (.aload_n 0, 1) := by decide +kernel
theorem dX12_init_406 : decode cX12_init 406 = .ok (.bipush 40, 2) := by decide +kernel
theorem dX12_init_408 : decode cX12_init 408 = .ok (.newarray .long, 2) := by decide +kernel
theorem dX12_init_410 : decode cX12_init 410 = .ok (.putfield 163, 3) := by decide +kernel
theorem dX12_init_413 : decode cX12_init 413 = .ok (.aload_n 0, 1) := by decide +kernel
theorem dX12_init_414 : decode cX12_init 414 = .ok (.bipush 40, 2) := by decide +kernel
theorem dX12_init_416 : decode cX12_init 416 = .ok (.newarray .boolean, 2) := by decide +kernel
theorem dX12_init_418 : decode cX12_init 418 = .ok (.putfield 166, 3) := by decide +kernel
theorem dX12_init_421 : decode cX12_init 421 = .ok (.aload_n 0, 1) := by decide +kernel
theorem dX12_init_422 : decode cX12_init 422 = .ok (.bipush 40, 2) := by decide +kernel
theorem dX12_init_424 : decode cX12_init 424 = .ok (.newarray .int, 2) := by decide +kernel
theorem dX12_init_426 : decode cX12_init 426 = .ok (.putfield 169, 3) := by decide +kernel
theorem dX12_init_429 : decode cX12_init 429 = .ok (.aload_n 0, 1) := by decide +kernel
theorem dX12_init_430 : decode cX12_init 430 = .ok (.sipush 800, 3) := by decide +kernel
theorem dX12_init_433 : decode cX12_init 433 = .ok (.newarray .int, 2) := by decide +kernel
theorem dX12_init_435 : decode cX12_init 435 = .ok (.putfield 172, 3) := by decide +kernel
theorem dX12_init_438 : decode cX12_init 438 = .ok (.aload_n 0, 1) := by decide +kernel
theorem dX12_init_439 : decode cX12_init 439 = .ok (.bipush 40, 2) := by decide +kernel
theorem dX12_init_441 : decode cX12_init 441 = .ok (.newarray .int, 2) := by decide +kernel
theorem dX12_init_443 : decode cX12_init 443 = .ok (.putfield 175, 3) := by decide +kernel
theorem dX12_init_446 : decode cX12_init 446 = .ok (.aload_n 0, 1) := by decide +kernel
theorem dX12_init_447 : decode cX12_init 447 = .ok (.sipush 480, 3) := by decide +kernel
theorem dX12_init_450 : decode cX12_init 450 = .ok (.newarray .byte, 2) := by decide +kernel
theorem dX12_init_452 : decode cX12_init 452 = .ok (.putfield 178, 3) := by decide +kernel
theorem dX12_init_455 : decode cX12_init 455 = .ok (.aload_n 0, 1) := by decide +kernel
theorem dX12_init_456 : decode cX12_init 456 = .ok (.bipush 40, 2) := by decide +kernel
theorem dX12_init_458 : decode cX12_init 458 = .ok (.newarray .int, 2) := by decide +kernel
theorem dX12_init_460 : decode cX12_init 460 = .ok (.putfield 181, 3) := by decide +kernel
theorem dX12_init_463 : decode cX12_init 463 = .ok (.aload_n 0, 1) := by decide +kernel
theorem dX12_init_464 : decode cX12_init 464 = .ok (.bipush 80, 2) := by decide +kernel
theorem dX12_init_466 : decode cX12_init 466 = .ok (.newarray .long, 2) := by decide +kernel
theorem dX12_init_468 : decode cX12_init 468 = .ok (.putfield 184, 3) := by decide +kernel
theorem dX12_init_471 : decode cX12_init 471 = .ok (.aload_n 0, 1) := by decide +kernel
theorem dX12_init_472 : decode cX12_init 472 = .ok (.bipush 80, 2) := by decide +kernel
theorem dX12_init_474 : decode cX12_init 474 = .ok (.newarray .int, 2) := by decide +kernel
theorem dX12_init_476 : decode cX12_init 476 = .ok (.putfield 187, 3) := by decide +kernel
theorem dX12_init_479 : decode cX12_init 479 = .ok (.aload_n 0, 1) := by decide +kernel
theorem dX12_init_480 : decode cX12_init 480 = .ok (.bipush 80, 2) := by decide +kernel
theorem dX12_init_482 : decode cX12_init 482 = .ok (.newarray .long, 2) := by decide +kernel
theorem dX12_init_484 : decode cX12_init 484 = .ok (.putfield 190, 3) := by decide +kernel
theorem dX12_init_487 : decode cX12_init 487 = .ok (.aload_n 0, 1) := by decide +kernel
theorem dX12_init_488 : decode cX12_init 488 = .ok (.bipush 80, 2) := by decide +kernel
theorem dX12_init_490 : decode cX12_init 490 = .ok (.newarray .long, 2) := by decide +kernel
theorem dX12_init_492 : decode cX12_init 492 = .ok (.putfield 193, 3) := by decide +kernel
theorem dX12_init_495 : decode cX12_init 495 = .ok (.aload_n 0, 1) := by decide +kernel
theorem dX12_init_496 : decode cX12_init 496 = .ok (.bipush 80, 2) := by decide +kernel
theorem dX12_init_498 : decode cX12_init 498 = .ok (.newarray .boolean, 2) := by decide +kernel
theorem dX12_init_500 : decode cX12_init 500 = .ok (.putfield 196, 3) := by decide +kernel
theorem dX12_init_503 : decode cX12_init 503 = .ok (.aload_n 0, 1) := by decide +kernel
theorem dX12_init_504 : decode cX12_init 504 = .ok (.bipush 16, 2) := by decide +kernel
theorem dX12_init_506 : decode cX12_init 506 = .ok (.newarray .int, 2) := by decide +kernel
theorem dX12_init_508 : decode cX12_init 508 = .ok (.putfield 199, 3) := by decide +kernel
theorem dX12_init_511 : decode cX12_init 511 = .ok (.aload_n 0, 1) := by decide +kernel
theorem dX12_init_512 : decode cX12_init 512 = .ok (.bipush 16, 2) := by decide +kernel
theorem dX12_init_514 : decode cX12_init 514 = .ok (.newarray .int, 2) := by decide +kernel
theorem dX12_init_516 : decode cX12_init 516 = .ok (.putfield 202, 3) := by decide +kernel
theorem dX12_init_519 : decode cX12_init 519 = .ok (.aload_n 0, 1) := by decide +kernel
theorem dX12_init_520 : decode cX12_init 520 = .ok (.bipush 16, 2) := by decide +kernel
theorem dX12_init_522 : decode cX12_init 522 = .ok (.newarray .int, 2) := by decide +kernel
theorem dX12_init_524 : decode cX12_init 524 = .ok (.putfield 205, 3) := by decide +kernel
theorem dX12_init_527 : decode cX12_init 527 = .ok (.aload_n 0, 1) := by decide +kernel
theorem dX12_init_528 : decode cX12_init 528 = .ok (.bipush 16, 2) := by decide +kernel
theorem dX12_init_530 : decode cX12_init 530 = .ok (.newarray .boolean, 2) := by decide +kernel
theorem dX12_init_532 : decode cX12_init 532 = .ok (.putfield 208, 3) := by decide +kernel
theorem dX12_init_535 : decode cX12_init 535 = .ok (.aload_n 0, 1) := by decide +kernel
theorem dX12_init_536 : decode cX12_init 536 = .ok (.bipush 16, 2) := by decide +kernel
theorem dX12_init_538 : decode cX12_init 538 = .ok (.newarray .long, 2) := by decide +kernel
theorem dX12_init_540 : decode cX12_init 540 = .ok (.putfield 211, 3) := by decide +kernel
theorem dX12_init_543 : decode cX12_init 543 = .ok (.aload_n 0, 1) := by decide +kernel
theorem dX12_init_544 : decode cX12_init 544 = .ok (.bipush 16, 2) := by decide +kernel
theorem dX12_init_546 : decode cX12_init 546 = .ok (.newarray .long, 2) := by decide +kernel
theorem dX12_init_548 : decode cX12_init 548 = .ok (.putfield 214, 3) := by decide +kernel
theorem dX12_init_551 : decode cX12_init 551 = .ok (.aload_n 0, 1) := by decide +kernel
theorem dX12_init_552 : decode cX12_init 552 = .ok (.bipush 16, 2) := by decide +kernel
theorem dX12_init_554 : decode cX12_init 554 = .ok (.newarray .int, 2) := by decide +kernel
theorem dX12_init_556 : decode cX12_init 556 = .ok (.putfield 217, 3) := by decide +kernel
theorem dX12_init_559 : decode cX12_init 559 = .ok (.aload_n 0, 1) := by decide +kernel
theorem dX12_init_560 : decode cX12_init 560 = .ok (.bipush 16, 2) := by decide +kernel
theorem dX12_init_562 : decode cX12_init 562 = .ok (.newarray .int, 2) := by decide +kernel
theorem dX12_init_564 : decode cX12_init 564 = .ok (.putfield 220, 3) := by decide +kernel
theorem dX12_init_567 : decode cX12_init 567 = .ok (.aload_n 0, 1) := by decide +kernel
theorem dX12_init_568 : decode cX12_init 568 = .ok (.bipush 16, 2) := by decide +kernel
theorem dX12_init_570 : decode cX12_init 570 = .ok (.newarray .long, 2) := by decide +kernel
theorem dX12_init_572 : decode cX12_init 572 = .ok (.putfield 223, 3) := by decide +kernel
theorem dX12_init_575 : decode cX12_init 575 = .ok (.aload_n 0, 1) := by decide +kernel
theorem dX12_init_576 : decode cX12_init 576 = .ok (.bipush 16, 2) := by decide +kernel
theorem dX12_init_578 : decode cX12_init 578 = .ok (.newarray .int, 2) := by decide +kernel
theorem dX12_init_580 : decode cX12_init 580 = .ok (.putfield 226, 3) := by decide +kernel
theorem dX12_init_583 : decode cX12_init 583 = .ok (.aload_n 0, 1) := by decide +kernel
theorem dX12_init_584 : decode cX12_init 584 = .ok (.bipush 16, 2) := by decide +kernel
theorem dX12_init_586 : decode cX12_init 586 = .ok (.newarray .long, 2) := by decide +kernel
theorem dX12_init_588 : decode cX12_init 588 = .ok (.putfield 229, 3) := by decide +kernel
theorem dX12_init_591 : decode cX12_init 591 = .ok (.aload_n 0, 1) := by decide +kernel
theorem dX12_init_592 : decode cX12_init 592 = .ok (.bipush 16, 2) := by decide +kernel
theorem dX12_init_594 : decode cX12_init 594 = .ok (.newarray .long, 2) := by decide +kernel
theorem dX12_init_596 : decode cX12_init 596 = .ok (.putfield 232, 3) := by decide +kernel
theorem dX12_init_599 : decode cX12_init 599 = .ok (.aload_n 0, 1) := by decide +kernel
theorem dX12_init_600 : decode cX12_init 600 = .ok (.bipush 16, 2) := by decide +kernel
theorem dX12_init_602 : decode cX12_init 602 = .ok (.newarray .boolean, 2) := by decide +kernel
theorem dX12_init_604 : decode cX12_init 604 = .ok (.putfield 235, 3) := by decide +kernel
theorem dX12_init_607 : decode cX12_init 607 = .ok (.aload_n 0, 1) := by decide +kernel
theorem dX12_init_608 : decode cX12_init 608 = .ok (.bipush 16, 2) := by decide +kernel
theorem dX12_init_610 : decode cX12_init 610 = .ok (.newarray .int, 2) := by decide +kernel
theorem dX12_init_612 : decode cX12_init 612 = .ok (.putfield 238, 3) := by decide +kernel
theorem dX12_init_615 : decode cX12_init 615 = .ok (.aload_n 0, 1) := by decide +kernel
theorem dX12_init_616 : decode cX12_init 616 = .ok (.ldc 241, 2) := by decide +kernel
theorem dX12_init_618 : decode cX12_init 618 = .ok (.newarray .byte, 2) := by decide +kernel
theorem dX12_init_620 : decode cX12_init 620 = .ok (.putfield 242, 3) := by decide +kernel
theorem dX12_init_623 : decode cX12_init 623 = .ok (.aload_n 0, 1) := by decide +kernel
theorem dX12_init_624 : decode cX12_init 624 = .ok (.ldc 245, 2) := by decide +kernel
theorem dX12_init_626 : decode cX12_init 626 = .ok (.newarray .byte, 2) := by decide +kernel
theorem dX12_init_628 : decode cX12_init 628 = .ok (.putfield 246, 3) := by decide +kernel
theorem dX12_init_631 : decode cX12_init 631 = .ok (.aload_n 0, 1) := by decide +kernel
theorem dX12_init_632 : decode cX12_init 632 = .ok (.sipush 130, 3) := by decide +kernel
theorem dX12_init_635 : decode cX12_init 635 = .ok (.newarray .int, 2) := by decide +kernel
theorem dX12_init_637 : decode cX12_init 637 = .ok (.putfield 249, 3) := by decide +kernel
theorem dX12_init_640 : decode cX12_init 640 = .ok (.aload_n 0, 1) := by decide +kernel
theorem dX12_init_641 : decode cX12_init 641 = .ok (.sipush 130, 3) := by decide +kernel
theorem dX12_init_644 : decode cX12_init 644 = .ok (.newarray .int, 2) := by decide +kernel
theorem dX12_init_646 : decode cX12_init 646 = .ok (.putfield 252, 3) := by decide +kernel
theorem dX12_init_649 : decode cX12_init 649 = .ok (.aload_n 0, 1) := by decide +kernel
theorem dX12_init_650 : decode cX12_init 650 = .ok (.sipush 130, 3) := by decide +kernel
theorem dX12_init_653 : decode cX12_init 653 = .ok (.newarray .int, 2) := by decide +kernel
theorem dX12_init_655 : decode cX12_init 655 = .ok (.putfield 255, 3) := by decide +kernel
theorem dX12_init_658 : decode cX12_init 658 = .ok (.iconst 0, 1) := by decide +kernel
theorem dX12_init_659 : decode cX12_init 659 = .ok (.istore_n 1, 1) := by decide +kernel
theorem dX12_init_660 : decode cX12_init 660 = .ok (.iload_n 1, 1) := by decide +kernel
theorem dX12_init_661 : decode cX12_init 661 = .ok (.iconst 4, 1) := by decide +kernel
theorem dX12_init_662 : decode cX12_init 662 = .ok (.if_icmp .ge 16, 3) := by decide +kernel
theorem dX12_init_665 : decode cX12_init 665 = .ok (.aload_n 0, 1) := by decide +kernel
theorem dX12_init_666 : decode cX12_init 666 = .ok (.getfield 47, 3) := by decide +kernel
theorem dX12_init_669 : decode cX12_init 669 = .ok (.iload_n 1, 1) := by decide +kernel
theorem dX12_init_670 : decode cX12_init 670 = .ok (.iconst (-1), 1) := by decide +kernel
theorem dX12_init_671 : decode cX12_init 671 = .ok (.iastore, 1) := by decide +kernel
theorem dX12_init_672 : decode cX12_init 672 = .ok (.iinc 1 1, 3) := by decide +kernel
theorem dX12_init_675 : decode cX12_init 675 = .ok (.goto (-15), 3) := by decide +kernel
theorem dX12_init_678 : decode cX12_init 678 = .ok (.aload_n 0, 1) := by decide +kernel
theorem dX12_init_679 : decode cX12_init 679 = .ok (.invokevirtual 258, 3) := by decide +kernel
theorem dX12_init_682 : decode cX12_init 682 = .ok (.return_, 1) := by decide +kernel
set_option maxRecDepth 100000 in
set_option maxHeartbeats 4000000 in
theorem c_X12_init (l : Launch) (D : va_G) (t : Nat → ClassId) (G : GE) (κ : CS) (h : Nat) (post : CS → Prop) (hw : F_X12_init G h post κ) (sz : Nat) : CMv l D t yX12_init cX12_init 2 2 44 G κ sz [.ref h] post := by
  refine c_go (by decide) (Nat.le_of_ble_eq_true rfl) ?_
  intro p e s m below meth c ls A hF hr hlk hin hAe hH hA hE hl
  unfold cB
  rw [hAe]
  clear hAe
  have hF : FX p m c cX12_init 2 s _ RX12 D t := hF
  have hx := hF.1.1
  have hb := hF.1.2.1
  have hl : lv_has ls 2 [(0, .ref h)] := hl
  unfold F_X12_init at hw
  refine lv_aload_n hx hb dX12_init_0 rfl (lv_at hl 0 rfl) ?_
  refine W.objInit hx hb hF.1.2.2.2.1 (hF.1.2.2.2.2 _ (wc_38 16 rfl)) (hF.1.2.2.2.2 _ (wc_5 1 rfl)) (hF.1.2.2.2.2 _ (wc_5 0 rfl)) rfl (hl.1.trans hF.1.2.2.1.symm) rfl dX12_init_1 (Nat.le_of_ble_eq_true rfl) (Nat.le_of_ble_eq_true rfl) ?_
  refine lv_aload_n hx hb dX12_init_4 rfl (lv_at hl 0 rfl) ?_
  refine lv_sipush (v := 8000) hx hb dX12_init_5 (by decide) ?_
  refine cw_newarr_byte hF hH hA (wc_5 11 rfl) dX12_init_8 hw (fun o2 κ3 H locs cells slots hw hH => ?_)
  refine cw_putFP (a := h) (v := (some o2)) hF hH fk_X12_7 dX12_init_10 hin rfl rfl rfl hw (fun κ4 H locs cells slots hw hH => ?_)
  refine lv_aload_n hx hb dX12_init_13 rfl (lv_at hl 0 rfl) ?_
  refine lv_sipush (v := 160) hx hb dX12_init_14 (by decide) ?_
  refine cw_newarr_boolean hF hH hA (wc_46 0 rfl) dX12_init_17 hw (fun o5 κ6 H locs cells slots hw hH => ?_)
  refine cw_putFP (a := h) (v := (some o5)) hF hH fk_X12_13 dX12_init_19 hin rfl rfl rfl hw (fun κ7 H locs cells slots hw hH => ?_)
  refine lv_aload_n hx hb dX12_init_22 rfl (lv_at hl 0 rfl) ?_
  refine lv_sipush (v := 160) hx hb dX12_init_23 (by decide) ?_
  refine cw_newarr_int hF hH hA (wc_6 20 rfl) dX12_init_26 hw (fun o8 κ9 H locs cells slots hw hH => ?_)
  refine cw_putFP (a := h) (v := (some o8)) hF hH fk_X12_17 dX12_init_28 hin rfl rfl rfl hw (fun κ10 H locs cells slots hw hH => ?_)
  refine lv_aload_n hx hb dX12_init_31 rfl (lv_at hl 0 rfl) ?_
  refine lv_sipush (v := 160) hx hb dX12_init_32 (by decide) ?_
  refine cw_newarr_boolean hF hH hA (wc_46 0 rfl) dX12_init_35 hw (fun o11 κ12 H locs cells slots hw hH => ?_)
  refine cw_putFP (a := h) (v := (some o11)) hF hH fk_X12_21 dX12_init_37 hin rfl rfl rfl hw (fun κ13 H locs cells slots hw hH => ?_)
  refine lv_aload_n hx hb dX12_init_40 rfl (lv_at hl 0 rfl) ?_
  refine lv_sipush (v := 1920) hx hb dX12_init_41 (by decide) ?_
  refine cw_newarr_byte hF hH hA (wc_5 11 rfl) dX12_init_44 hw (fun o14 κ15 H locs cells slots hw hH => ?_)
  refine cw_putFP (a := h) (v := (some o14)) hF hH fk_X12_24 dX12_init_46 hin rfl rfl rfl hw (fun κ16 H locs cells slots hw hH => ?_)
  refine lv_aload_n hx hb dX12_init_49 rfl (lv_at hl 0 rfl) ?_
  refine lv_sipush (v := 160) hx hb dX12_init_50 (by decide) ?_
  refine cw_newarr_int hF hH hA (wc_6 20 rfl) dX12_init_53 hw (fun o17 κ18 H locs cells slots hw hH => ?_)
  refine cw_putFP (a := h) (v := (some o17)) hF hH fk_X12_27 dX12_init_55 hin rfl rfl rfl hw (fun κ19 H locs cells slots hw hH => ?_)
  refine lv_aload_n hx hb dX12_init_58 rfl (lv_at hl 0 rfl) ?_
  refine lv_sipush (v := 160) hx hb dX12_init_59 (by decide) ?_
  refine cw_newarr_int hF hH hA (wc_6 20 rfl) dX12_init_62 hw (fun o20 κ21 H locs cells slots hw hH => ?_)
  refine cw_putFP (a := h) (v := (some o20)) hF hH fk_X12_30 dX12_init_64 hin rfl rfl rfl hw (fun κ22 H locs cells slots hw hH => ?_)
  refine lv_aload_n hx hb dX12_init_67 rfl (lv_at hl 0 rfl) ?_
  refine lv_sipush (v := 640) hx hb dX12_init_68 (by decide) ?_
  refine cw_newarr_long hF hH hA (wc_10 26 rfl) dX12_init_71 hw (fun o23 κ24 H locs cells slots hw hH => ?_)
  refine cw_putFP (a := h) (v := (some o23)) hF hH fk_X12_33 dX12_init_73 hin rfl rfl rfl hw (fun κ25 H locs cells slots hw hH => ?_)
  refine lv_aload_n hx hb dX12_init_76 rfl (lv_at hl 0 rfl) ?_
  refine lv_sipush (v := 160) hx hb dX12_init_77 (by decide) ?_
  refine cw_newarr_int hF hH hA (wc_6 20 rfl) dX12_init_80 hw (fun o26 κ27 H locs cells slots hw hH => ?_)
  refine cw_putFP (a := h) (v := (some o26)) hF hH fk_X12_37 dX12_init_82 hin rfl rfl rfl hw (fun κ28 H locs cells slots hw hH => ?_)
  refine lv_aload_n hx hb dX12_init_85 rfl (lv_at hl 0 rfl) ?_
  refine lv_ldc (v := 655360) hx hb hF.1.2.2.2.1 (hF.1.2.2.2.2 _ (wc_38 26 rfl)) dX12_init_86 ?_
  refine cw_newarr_byte hF hH hA (wc_5 11 rfl) dX12_init_88 hw (fun o29 κ30 H locs cells slots hw hH => ?_)
  refine cw_putFP (a := h) (v := (some o29)) hF hH fk_X12_41 dX12_init_90 hin rfl rfl rfl hw (fun κ31 H locs cells slots hw hH => ?_)
  refine lv_aload_n hx hb dX12_init_93 rfl (lv_at hl 0 rfl) ?_
  refine lv_bipush (v := 80) hx hb dX12_init_94 (by decide) ?_
  refine cw_newarr_boolean hF hH hA (wc_46 0 rfl) dX12_init_96 hw (fun o32 κ33 H locs cells slots hw hH => ?_)
  refine cw_putFP (a := h) (v := (some o32)) hF hH fk_X12_44 dX12_init_98 hin rfl rfl rfl hw (fun κ34 H locs cells slots hw hH => ?_)
  refine lv_aload_n hx hb dX12_init_101 rfl (lv_at hl 0 rfl) ?_
  refine lv_iconst (v := 4) hx hb dX12_init_102 (by decide) ?_
  refine cw_newarr_int hF hH hA (wc_6 20 rfl) dX12_init_103 hw (fun o35 κ36 H locs cells slots hw hH => ?_)
  refine cw_putFP (a := h) (v := (some o35)) hF hH fk_X12_47 dX12_init_105 hin rfl rfl rfl hw (fun κ37 H locs cells slots hw hH => ?_)
  refine lv_aload_n hx hb dX12_init_108 rfl (lv_at hl 0 rfl) ?_
  refine lv_bipush (v := 48) hx hb dX12_init_109 (by decide) ?_
  refine cw_newarr_byte hF hH hA (wc_5 11 rfl) dX12_init_111 hw (fun o38 κ39 H locs cells slots hw hH => ?_)
  refine cw_putFP (a := h) (v := (some o38)) hF hH fk_X12_50 dX12_init_113 hin rfl rfl rfl hw (fun κ40 H locs cells slots hw hH => ?_)
  refine lv_aload_n hx hb dX12_init_116 rfl (lv_at hl 0 rfl) ?_
  refine lv_iconst (v := 4) hx hb dX12_init_117 (by decide) ?_
  refine cw_newarr_int hF hH hA (wc_6 20 rfl) dX12_init_118 hw (fun o41 κ42 H locs cells slots hw hH => ?_)
  refine cw_putFP (a := h) (v := (some o41)) hF hH fk_X12_53 dX12_init_120 hin rfl rfl rfl hw (fun κ43 H locs cells slots hw hH => ?_)
  refine lv_aload_n hx hb dX12_init_123 rfl (lv_at hl 0 rfl) ?_
  refine lv_bipush (v := 9) hx hb dX12_init_124 (by decide) ?_
  refine cw_newarr_int hF hH hA (wc_6 20 rfl) dX12_init_126 hw (fun o44 κ45 H locs cells slots hw hH => ?_)
  refine cw_putFP (a := h) (v := (some o44)) hF hH fk_X12_56 dX12_init_128 hin rfl rfl rfl hw (fun κ46 H locs cells slots hw hH => ?_)
  refine lv_aload_n hx hb dX12_init_131 rfl (lv_at hl 0 rfl) ?_
  refine lv_bipush (v := 9) hx hb dX12_init_132 (by decide) ?_
  refine cw_newarr_int hF hH hA (wc_6 20 rfl) dX12_init_134 hw (fun o47 κ48 H locs cells slots hw hH => ?_)
  refine cw_putFP (a := h) (v := (some o47)) hF hH fk_X12_59 dX12_init_136 hin rfl rfl rfl hw (fun κ49 H locs cells slots hw hH => ?_)
  refine lv_aload_n hx hb dX12_init_139 rfl (lv_at hl 0 rfl) ?_
  refine lv_bipush (v := 9) hx hb dX12_init_140 (by decide) ?_
  refine cw_newarr_int hF hH hA (wc_6 20 rfl) dX12_init_142 hw (fun o50 κ51 H locs cells slots hw hH => ?_)
  refine cw_putFP (a := h) (v := (some o50)) hF hH fk_X12_62 dX12_init_144 hin rfl rfl rfl hw (fun κ52 H locs cells slots hw hH => ?_)
  refine lv_aload_n hx hb dX12_init_147 rfl (lv_at hl 0 rfl) ?_
  refine lv_bipush (v := 9) hx hb dX12_init_148 (by decide) ?_
  refine cw_newarr_boolean hF hH hA (wc_46 0 rfl) dX12_init_150 hw (fun o53 κ54 H locs cells slots hw hH => ?_)
  refine cw_putFP (a := h) (v := (some o53)) hF hH fk_X12_65 dX12_init_152 hin rfl rfl rfl hw (fun κ55 H locs cells slots hw hH => ?_)
  refine lv_aload_n hx hb dX12_init_155 rfl (lv_at hl 0 rfl) ?_
  refine lv_bipush (v := 108) hx hb dX12_init_156 (by decide) ?_
  refine cw_newarr_byte hF hH hA (wc_5 11 rfl) dX12_init_158 hw (fun o56 κ57 H locs cells slots hw hH => ?_)
  refine cw_putFP (a := h) (v := (some o56)) hF hH fk_X12_68 dX12_init_160 hin rfl rfl rfl hw (fun κ58 H locs cells slots hw hH => ?_)
  refine lv_aload_n hx hb dX12_init_163 rfl (lv_at hl 0 rfl) ?_
  refine lv_bipush (v := 9) hx hb dX12_init_164 (by decide) ?_
  refine cw_newarr_int hF hH hA (wc_6 20 rfl) dX12_init_166 hw (fun o59 κ60 H locs cells slots hw hH => ?_)
  refine cw_putFP (a := h) (v := (some o59)) hF hH fk_X12_71 dX12_init_168 hin rfl rfl rfl hw (fun κ61 H locs cells slots hw hH => ?_)
  refine lv_aload_n hx hb dX12_init_171 rfl (lv_at hl 0 rfl) ?_
  refine lv_bipush (v := 9) hx hb dX12_init_172 (by decide) ?_
  refine cw_newarr_int hF hH hA (wc_6 20 rfl) dX12_init_174 hw (fun o62 κ63 H locs cells slots hw hH => ?_)
  refine cw_putFP (a := h) (v := (some o62)) hF hH fk_X12_74 dX12_init_176 hin rfl rfl rfl hw (fun κ64 H locs cells slots hw hH => ?_)
  refine lv_aload_n hx hb dX12_init_179 rfl (lv_at hl 0 rfl) ?_
  refine lv_bipush (v := 36) hx hb dX12_init_180 (by decide) ?_
  refine cw_newarr_long hF hH hA (wc_10 26 rfl) dX12_init_182 hw (fun o65 κ66 H locs cells slots hw hH => ?_)
  refine cw_putFP (a := h) (v := (some o65)) hF hH fk_X12_77 dX12_init_184 hin rfl rfl rfl hw (fun κ67 H locs cells slots hw hH => ?_)
  refine lv_aload_n hx hb dX12_init_187 rfl (lv_at hl 0 rfl) ?_
  refine lv_bipush (v := 9) hx hb dX12_init_188 (by decide) ?_
  refine cw_newarr_int hF hH hA (wc_6 20 rfl) dX12_init_190 hw (fun o68 κ69 H locs cells slots hw hH => ?_)
  refine cw_putFP (a := h) (v := (some o68)) hF hH fk_X12_80 dX12_init_192 hin rfl rfl rfl hw (fun κ70 H locs cells slots hw hH => ?_)
  refine lv_aload_n hx hb dX12_init_195 rfl (lv_at hl 0 rfl) ?_
  refine lv_bipush (v := 9) hx hb dX12_init_196 (by decide) ?_
  refine cw_newarr_int hF hH hA (wc_6 20 rfl) dX12_init_198 hw (fun o71 κ72 H locs cells slots hw hH => ?_)
  refine cw_putFP (a := h) (v := (some o71)) hF hH fk_X12_83 dX12_init_200 hin rfl rfl rfl hw (fun κ73 H locs cells slots hw hH => ?_)
  refine lv_aload_n hx hb dX12_init_203 rfl (lv_at hl 0 rfl) ?_
  refine lv_sipush (v := 9216) hx hb dX12_init_204 (by decide) ?_
  refine cw_newarr_byte hF hH hA (wc_5 11 rfl) dX12_init_207 hw (fun o74 κ75 H locs cells slots hw hH => ?_)
  refine cw_putFP (a := h) (v := (some o74)) hF hH fk_X12_86 dX12_init_209 hin rfl rfl rfl hw (fun κ76 H locs cells slots hw hH => ?_)
  refine lv_aload_n hx hb dX12_init_212 rfl (lv_at hl 0 rfl) ?_
  refine lv_bipush (v := 6) hx hb dX12_init_213 (by decide) ?_
  refine cw_newarr_boolean hF hH hA (wc_46 0 rfl) dX12_init_215 hw (fun o77 κ78 H locs cells slots hw hH => ?_)
  refine cw_putFP (a := h) (v := (some o77)) hF hH fk_X12_89 dX12_init_217 hin rfl rfl rfl hw (fun κ79 H locs cells slots hw hH => ?_)
  refine lv_aload_n hx hb dX12_init_220 rfl (lv_at hl 0 rfl) ?_
  refine lv_bipush (v := 6) hx hb dX12_init_221 (by decide) ?_
  refine cw_newarr_boolean hF hH hA (wc_46 0 rfl) dX12_init_223 hw (fun o80 κ81 H locs cells slots hw hH => ?_)
  refine cw_putFP (a := h) (v := (some o80)) hF hH fk_X12_92 dX12_init_225 hin rfl rfl rfl hw (fun κ82 H locs cells slots hw hH => ?_)
  refine lv_aload_n hx hb dX12_init_228 rfl (lv_at hl 0 rfl) ?_
  refine lv_ldc (v := 96000) hx hb hF.1.2.2.2.1 (hF.1.2.2.2.2 _ (wc_39 5 rfl)) dX12_init_229 ?_
  refine cw_newarr_byte hF hH hA (wc_5 11 rfl) dX12_init_231 hw (fun o83 κ84 H locs cells slots hw hH => ?_)
  refine cw_putFP (a := h) (v := (some o83)) hF hH fk_X12_96 dX12_init_233 hin rfl rfl rfl hw (fun κ85 H locs cells slots hw hH => ?_)
  refine lv_aload_n hx hb dX12_init_236 rfl (lv_at hl 0 rfl) ?_
  refine lv_bipush (v := 6) hx hb dX12_init_237 (by decide) ?_
  refine cw_newarr_int hF hH hA (wc_6 20 rfl) dX12_init_239 hw (fun o86 κ87 H locs cells slots hw hH => ?_)
  refine cw_putFP (a := h) (v := (some o86)) hF hH fk_X12_99 dX12_init_241 hin rfl rfl rfl hw (fun κ88 H locs cells slots hw hH => ?_)
  refine lv_aload_n hx hb dX12_init_244 rfl (lv_at hl 0 rfl) ?_
  refine lv_ldc (v := 72600) hx hb hF.1.2.2.2.1 (hF.1.2.2.2.2 _ (wc_39 8 rfl)) dX12_init_245 ?_
  refine cw_newarr_byte hF hH hA (wc_5 11 rfl) dX12_init_247 hw (fun o89 κ90 H locs cells slots hw hH => ?_)
  refine cw_putFP (a := h) (v := (some o89)) hF hH fk_X12_103 dX12_init_249 hin rfl rfl rfl hw (fun κ91 H locs cells slots hw hH => ?_)
  refine lv_aload_n hx hb dX12_init_252 rfl (lv_at hl 0 rfl) ?_
  refine lv_bipush (v := 6) hx hb dX12_init_253 (by decide) ?_
  refine cw_newarr_int hF hH hA (wc_6 20 rfl) dX12_init_255 hw (fun o92 κ93 H locs cells slots hw hH => ?_)
  refine cw_putFP (a := h) (v := (some o92)) hF hH fk_X12_106 dX12_init_257 hin rfl rfl rfl hw (fun κ94 H locs cells slots hw hH => ?_)
  refine lv_aload_n hx hb dX12_init_260 rfl (lv_at hl 0 rfl) ?_
  refine lv_bipush (v := 96) hx hb dX12_init_261 (by decide) ?_
  refine cw_newarr_long hF hH hA (wc_10 26 rfl) dX12_init_263 hw (fun o95 κ96 H locs cells slots hw hH => ?_)
  refine cw_putFP (a := h) (v := (some o95)) hF hH fk_X12_109 dX12_init_265 hin rfl rfl rfl hw (fun κ97 H locs cells slots hw hH => ?_)
  refine lv_aload_n hx hb dX12_init_268 rfl (lv_at hl 0 rfl) ?_
  refine lv_bipush (v := 6) hx hb dX12_init_269 (by decide) ?_
  refine cw_newarr_int hF hH hA (wc_6 20 rfl) dX12_init_271 hw (fun o98 κ99 H locs cells slots hw hH => ?_)
  refine cw_putFP (a := h) (v := (some o98)) hF hH fk_X12_112 dX12_init_273 hin rfl rfl rfl hw (fun κ100 H locs cells slots hw hH => ?_)
  refine lv_aload_n hx hb dX12_init_276 rfl (lv_at hl 0 rfl) ?_
  refine lv_bipush (v := 6) hx hb dX12_init_277 (by decide) ?_
  refine cw_newarr_long hF hH hA (wc_10 26 rfl) dX12_init_279 hw (fun o101 κ102 H locs cells slots hw hH => ?_)
  refine cw_putFP (a := h) (v := (some o101)) hF hH fk_X12_115 dX12_init_281 hin rfl rfl rfl hw (fun κ103 H locs cells slots hw hH => ?_)
  refine lv_aload_n hx hb dX12_init_284 rfl (lv_at hl 0 rfl) ?_
  refine lv_bipush (v := 8) hx hb dX12_init_285 (by decide) ?_
  refine cw_newarr_long hF hH hA (wc_10 26 rfl) dX12_init_287 hw (fun o104 κ105 H locs cells slots hw hH => ?_)
  refine cw_putFP (a := h) (v := (some o104)) hF hH fk_X12_118 dX12_init_289 hin rfl rfl rfl hw (fun κ106 H locs cells slots hw hH => ?_)
  refine lv_aload_n hx hb dX12_init_292 rfl (lv_at hl 0 rfl) ?_
  refine lv_bipush (v := 8) hx hb dX12_init_293 (by decide) ?_
  refine cw_newarr_int hF hH hA (wc_6 20 rfl) dX12_init_295 hw (fun o107 κ108 H locs cells slots hw hH => ?_)
  refine cw_putFP (a := h) (v := (some o107)) hF hH fk_X12_121 dX12_init_297 hin rfl rfl rfl hw (fun κ109 H locs cells slots hw hH => ?_)
  refine lv_aload_n hx hb dX12_init_300 rfl (lv_at hl 0 rfl) ?_
  refine lv_sipush (v := 128) hx hb dX12_init_301 (by decide) ?_
  refine cw_newarr_byte hF hH hA (wc_5 11 rfl) dX12_init_304 hw (fun o110 κ111 H locs cells slots hw hH => ?_)
  refine cw_putFP (a := h) (v := (some o110)) hF hH fk_X12_124 dX12_init_306 hin rfl rfl rfl hw (fun κ112 H locs cells slots hw hH => ?_)
  refine lv_aload_n hx hb dX12_init_309 rfl (lv_at hl 0 rfl) ?_
  refine lv_bipush (v := 8) hx hb dX12_init_310 (by decide) ?_
  refine cw_newarr_int hF hH hA (wc_6 20 rfl) dX12_init_312 hw (fun o113 κ114 H locs cells slots hw hH => ?_)
  refine cw_putFP (a := h) (v := (some o113)) hF hH fk_X12_127 dX12_init_314 hin rfl rfl rfl hw (fun κ115 H locs cells slots hw hH => ?_)
  refine lv_aload_n hx hb dX12_init_317 rfl (lv_at hl 0 rfl) ?_
  refine lv_bipush (v := 16) hx hb dX12_init_318 (by decide) ?_
  refine cw_newarr_long hF hH hA (wc_10 26 rfl) dX12_init_320 hw (fun o116 κ117 H locs cells slots hw hH => ?_)
  refine cw_putFP (a := h) (v := (some o116)) hF hH fk_X12_130 dX12_init_322 hin rfl rfl rfl hw (fun κ118 H locs cells slots hw hH => ?_)
  refine lv_aload_n hx hb dX12_init_325 rfl (lv_at hl 0 rfl) ?_
  refine lv_bipush (v := 16) hx hb dX12_init_326 (by decide) ?_
  refine cw_newarr_int hF hH hA (wc_6 20 rfl) dX12_init_328 hw (fun o119 κ120 H locs cells slots hw hH => ?_)
  refine cw_putFP (a := h) (v := (some o119)) hF hH fk_X12_133 dX12_init_330 hin rfl rfl rfl hw (fun κ121 H locs cells slots hw hH => ?_)
  refine lv_aload_n hx hb dX12_init_333 rfl (lv_at hl 0 rfl) ?_
  refine lv_bipush (v := 16) hx hb dX12_init_334 (by decide) ?_
  refine cw_newarr_int hF hH hA (wc_6 20 rfl) dX12_init_336 hw (fun o122 κ123 H locs cells slots hw hH => ?_)
  refine cw_putFP (a := h) (v := (some o122)) hF hH fk_X12_136 dX12_init_338 hin rfl rfl rfl hw (fun κ124 H locs cells slots hw hH => ?_)
  refine lv_aload_n hx hb dX12_init_341 rfl (lv_at hl 0 rfl) ?_
  refine lv_bipush (v := 40) hx hb dX12_init_342 (by decide) ?_
  refine cw_newarr_long hF hH hA (wc_10 26 rfl) dX12_init_344 hw (fun o125 κ126 H locs cells slots hw hH => ?_)
  refine cw_putFP (a := h) (v := (some o125)) hF hH fk_X12_139 dX12_init_346 hin rfl rfl rfl hw (fun κ127 H locs cells slots hw hH => ?_)
  refine lv_aload_n hx hb dX12_init_349 rfl (lv_at hl 0 rfl) ?_
  refine lv_bipush (v := 40) hx hb dX12_init_350 (by decide) ?_
  refine cw_newarr_int hF hH hA (wc_6 20 rfl) dX12_init_352 hw (fun o128 κ129 H locs cells slots hw hH => ?_)
  refine cw_putFP (a := h) (v := (some o128)) hF hH fk_X12_142 dX12_init_354 hin rfl rfl rfl hw (fun κ130 H locs cells slots hw hH => ?_)
  refine lv_aload_n hx hb dX12_init_357 rfl (lv_at hl 0 rfl) ?_
  refine lv_bipush (v := 40) hx hb dX12_init_358 (by decide) ?_
  refine cw_newarr_int hF hH hA (wc_6 20 rfl) dX12_init_360 hw (fun o131 κ132 H locs cells slots hw hH => ?_)
  refine cw_putFP (a := h) (v := (some o131)) hF hH fk_X12_145 dX12_init_362 hin rfl rfl rfl hw (fun κ133 H locs cells slots hw hH => ?_)
  refine lv_aload_n hx hb dX12_init_365 rfl (lv_at hl 0 rfl) ?_
  refine lv_bipush (v := 40) hx hb dX12_init_366 (by decide) ?_
  refine cw_newarr_int hF hH hA (wc_6 20 rfl) dX12_init_368 hw (fun o134 κ135 H locs cells slots hw hH => ?_)
  refine cw_putFP (a := h) (v := (some o134)) hF hH fk_X12_148 dX12_init_370 hin rfl rfl rfl hw (fun κ136 H locs cells slots hw hH => ?_)
  refine lv_aload_n hx hb dX12_init_373 rfl (lv_at hl 0 rfl) ?_
  refine lv_bipush (v := 40) hx hb dX12_init_374 (by decide) ?_
  refine cw_newarr_int hF hH hA (wc_6 20 rfl) dX12_init_376 hw (fun o137 κ138 H locs cells slots hw hH => ?_)
  refine cw_putFP (a := h) (v := (some o137)) hF hH fk_X12_151 dX12_init_378 hin rfl rfl rfl hw (fun κ139 H locs cells slots hw hH => ?_)
  refine lv_aload_n hx hb dX12_init_381 rfl (lv_at hl 0 rfl) ?_
  refine lv_bipush (v := 40) hx hb dX12_init_382 (by decide) ?_
  refine cw_newarr_int hF hH hA (wc_6 20 rfl) dX12_init_384 hw (fun o140 κ141 H locs cells slots hw hH => ?_)
  refine cw_putFP (a := h) (v := (some o140)) hF hH fk_X12_154 dX12_init_386 hin rfl rfl rfl hw (fun κ142 H locs cells slots hw hH => ?_)
  refine lv_aload_n hx hb dX12_init_389 rfl (lv_at hl 0 rfl) ?_
  refine lv_bipush (v := 40) hx hb dX12_init_390 (by decide) ?_
  refine cw_newarr_boolean hF hH hA (wc_46 0 rfl) dX12_init_392 hw (fun o143 κ144 H locs cells slots hw hH => ?_)
  refine cw_putFP (a := h) (v := (some o143)) hF hH fk_X12_157 dX12_init_394 hin rfl rfl rfl hw (fun κ145 H locs cells slots hw hH => ?_)
  refine lv_aload_n hx hb dX12_init_397 rfl (lv_at hl 0 rfl) ?_
  refine lv_bipush (v := 40) hx hb dX12_init_398 (by decide) ?_
  refine cw_newarr_int hF hH hA (wc_6 20 rfl) dX12_init_400 hw (fun o146 κ147 H locs cells slots hw hH => ?_)
  refine cw_putFP (a := h) (v := (some o146)) hF hH fk_X12_160 dX12_init_402 hin rfl rfl rfl hw (fun κ148 H locs cells slots hw hH => ?_)
  refine lv_aload_n hx hb dX12_init_405 rfl (lv_at hl 0 rfl) ?_
  refine lv_bipush (v := 40) hx hb dX12_init_406 (by decide) ?_
  refine cw_newarr_long hF hH hA (wc_10 26 rfl) dX12_init_408 hw (fun o149 κ150 H locs cells slots hw hH => ?_)
  refine cw_putFP (a := h) (v := (some o149)) hF hH fk_X12_163 dX12_init_410 hin rfl rfl rfl hw (fun κ151 H locs cells slots hw hH => ?_)
  refine lv_aload_n hx hb dX12_init_413 rfl (lv_at hl 0 rfl) ?_
  refine lv_bipush (v := 40) hx hb dX12_init_414 (by decide) ?_
  refine cw_newarr_boolean hF hH hA (wc_46 0 rfl) dX12_init_416 hw (fun o152 κ153 H locs cells slots hw hH => ?_)
  refine cw_putFP (a := h) (v := (some o152)) hF hH fk_X12_166 dX12_init_418 hin rfl rfl rfl hw (fun κ154 H locs cells slots hw hH => ?_)
  refine lv_aload_n hx hb dX12_init_421 rfl (lv_at hl 0 rfl) ?_
  refine lv_bipush (v := 40) hx hb dX12_init_422 (by decide) ?_
  refine cw_newarr_int hF hH hA (wc_6 20 rfl) dX12_init_424 hw (fun o155 κ156 H locs cells slots hw hH => ?_)
  refine cw_putFP (a := h) (v := (some o155)) hF hH fk_X12_169 dX12_init_426 hin rfl rfl rfl hw (fun κ157 H locs cells slots hw hH => ?_)
  refine lv_aload_n hx hb dX12_init_429 rfl (lv_at hl 0 rfl) ?_
  refine lv_sipush (v := 800) hx hb dX12_init_430 (by decide) ?_
  refine cw_newarr_int hF hH hA (wc_6 20 rfl) dX12_init_433 hw (fun o158 κ159 H locs cells slots hw hH => ?_)
  refine cw_putFP (a := h) (v := (some o158)) hF hH fk_X12_172 dX12_init_435 hin rfl rfl rfl hw (fun κ160 H locs cells slots hw hH => ?_)
  refine lv_aload_n hx hb dX12_init_438 rfl (lv_at hl 0 rfl) ?_
  refine lv_bipush (v := 40) hx hb dX12_init_439 (by decide) ?_
  refine cw_newarr_int hF hH hA (wc_6 20 rfl) dX12_init_441 hw (fun o161 κ162 H locs cells slots hw hH => ?_)
  refine cw_putFP (a := h) (v := (some o161)) hF hH fk_X12_175 dX12_init_443 hin rfl rfl rfl hw (fun κ163 H locs cells slots hw hH => ?_)
  refine lv_aload_n hx hb dX12_init_446 rfl (lv_at hl 0 rfl) ?_
  refine lv_sipush (v := 480) hx hb dX12_init_447 (by decide) ?_
  refine cw_newarr_byte hF hH hA (wc_5 11 rfl) dX12_init_450 hw (fun o164 κ165 H locs cells slots hw hH => ?_)
  refine cw_putFP (a := h) (v := (some o164)) hF hH fk_X12_178 dX12_init_452 hin rfl rfl rfl hw (fun κ166 H locs cells slots hw hH => ?_)
  refine lv_aload_n hx hb dX12_init_455 rfl (lv_at hl 0 rfl) ?_
  refine lv_bipush (v := 40) hx hb dX12_init_456 (by decide) ?_
  refine cw_newarr_int hF hH hA (wc_6 20 rfl) dX12_init_458 hw (fun o167 κ168 H locs cells slots hw hH => ?_)
  refine cw_putFP (a := h) (v := (some o167)) hF hH fk_X12_181 dX12_init_460 hin rfl rfl rfl hw (fun κ169 H locs cells slots hw hH => ?_)
  refine lv_aload_n hx hb dX12_init_463 rfl (lv_at hl 0 rfl) ?_
  refine lv_bipush (v := 80) hx hb dX12_init_464 (by decide) ?_
  refine cw_newarr_long hF hH hA (wc_10 26 rfl) dX12_init_466 hw (fun o170 κ171 H locs cells slots hw hH => ?_)
  refine cw_putFP (a := h) (v := (some o170)) hF hH fk_X12_184 dX12_init_468 hin rfl rfl rfl hw (fun κ172 H locs cells slots hw hH => ?_)
  refine lv_aload_n hx hb dX12_init_471 rfl (lv_at hl 0 rfl) ?_
  refine lv_bipush (v := 80) hx hb dX12_init_472 (by decide) ?_
  refine cw_newarr_int hF hH hA (wc_6 20 rfl) dX12_init_474 hw (fun o173 κ174 H locs cells slots hw hH => ?_)
  refine cw_putFP (a := h) (v := (some o173)) hF hH fk_X12_187 dX12_init_476 hin rfl rfl rfl hw (fun κ175 H locs cells slots hw hH => ?_)
  refine lv_aload_n hx hb dX12_init_479 rfl (lv_at hl 0 rfl) ?_
  refine lv_bipush (v := 80) hx hb dX12_init_480 (by decide) ?_
  refine cw_newarr_long hF hH hA (wc_10 26 rfl) dX12_init_482 hw (fun o176 κ177 H locs cells slots hw hH => ?_)
  refine cw_putFP (a := h) (v := (some o176)) hF hH fk_X12_190 dX12_init_484 hin rfl rfl rfl hw (fun κ178 H locs cells slots hw hH => ?_)
  refine lv_aload_n hx hb dX12_init_487 rfl (lv_at hl 0 rfl) ?_
  refine lv_bipush (v := 80) hx hb dX12_init_488 (by decide) ?_
  refine cw_newarr_long hF hH hA (wc_10 26 rfl) dX12_init_490 hw (fun o179 κ180 H locs cells slots hw hH => ?_)
  refine cw_putFP (a := h) (v := (some o179)) hF hH fk_X12_193 dX12_init_492 hin rfl rfl rfl hw (fun κ181 H locs cells slots hw hH => ?_)
  refine lv_aload_n hx hb dX12_init_495 rfl (lv_at hl 0 rfl) ?_
  refine lv_bipush (v := 80) hx hb dX12_init_496 (by decide) ?_
  refine cw_newarr_boolean hF hH hA (wc_46 0 rfl) dX12_init_498 hw (fun o182 κ183 H locs cells slots hw hH => ?_)
  refine cw_putFP (a := h) (v := (some o182)) hF hH fk_X12_196 dX12_init_500 hin rfl rfl rfl hw (fun κ184 H locs cells slots hw hH => ?_)
  refine lv_aload_n hx hb dX12_init_503 rfl (lv_at hl 0 rfl) ?_
  refine lv_bipush (v := 16) hx hb dX12_init_504 (by decide) ?_
  refine cw_newarr_int hF hH hA (wc_6 20 rfl) dX12_init_506 hw (fun o185 κ186 H locs cells slots hw hH => ?_)
  refine cw_putFP (a := h) (v := (some o185)) hF hH fk_X12_199 dX12_init_508 hin rfl rfl rfl hw (fun κ187 H locs cells slots hw hH => ?_)
  refine lv_aload_n hx hb dX12_init_511 rfl (lv_at hl 0 rfl) ?_
  refine lv_bipush (v := 16) hx hb dX12_init_512 (by decide) ?_
  refine cw_newarr_int hF hH hA (wc_6 20 rfl) dX12_init_514 hw (fun o188 κ189 H locs cells slots hw hH => ?_)
  refine cw_putFP (a := h) (v := (some o188)) hF hH fk_X12_202 dX12_init_516 hin rfl rfl rfl hw (fun κ190 H locs cells slots hw hH => ?_)
  refine lv_aload_n hx hb dX12_init_519 rfl (lv_at hl 0 rfl) ?_
  refine lv_bipush (v := 16) hx hb dX12_init_520 (by decide) ?_
  refine cw_newarr_int hF hH hA (wc_6 20 rfl) dX12_init_522 hw (fun o191 κ192 H locs cells slots hw hH => ?_)
  refine cw_putFP (a := h) (v := (some o191)) hF hH fk_X12_205 dX12_init_524 hin rfl rfl rfl hw (fun κ193 H locs cells slots hw hH => ?_)
  refine lv_aload_n hx hb dX12_init_527 rfl (lv_at hl 0 rfl) ?_
  refine lv_bipush (v := 16) hx hb dX12_init_528 (by decide) ?_
  refine cw_newarr_boolean hF hH hA (wc_46 0 rfl) dX12_init_530 hw (fun o194 κ195 H locs cells slots hw hH => ?_)
  refine cw_putFP (a := h) (v := (some o194)) hF hH fk_X12_208 dX12_init_532 hin rfl rfl rfl hw (fun κ196 H locs cells slots hw hH => ?_)
  refine lv_aload_n hx hb dX12_init_535 rfl (lv_at hl 0 rfl) ?_
  refine lv_bipush (v := 16) hx hb dX12_init_536 (by decide) ?_
  refine cw_newarr_long hF hH hA (wc_10 26 rfl) dX12_init_538 hw (fun o197 κ198 H locs cells slots hw hH => ?_)
  refine cw_putFP (a := h) (v := (some o197)) hF hH fk_X12_211 dX12_init_540 hin rfl rfl rfl hw (fun κ199 H locs cells slots hw hH => ?_)
  refine lv_aload_n hx hb dX12_init_543 rfl (lv_at hl 0 rfl) ?_
  refine lv_bipush (v := 16) hx hb dX12_init_544 (by decide) ?_
  refine cw_newarr_long hF hH hA (wc_10 26 rfl) dX12_init_546 hw (fun o200 κ201 H locs cells slots hw hH => ?_)
  refine cw_putFP (a := h) (v := (some o200)) hF hH fk_X12_214 dX12_init_548 hin rfl rfl rfl hw (fun κ202 H locs cells slots hw hH => ?_)
  refine lv_aload_n hx hb dX12_init_551 rfl (lv_at hl 0 rfl) ?_
  refine lv_bipush (v := 16) hx hb dX12_init_552 (by decide) ?_
  refine cw_newarr_int hF hH hA (wc_6 20 rfl) dX12_init_554 hw (fun o203 κ204 H locs cells slots hw hH => ?_)
  refine cw_putFP (a := h) (v := (some o203)) hF hH fk_X12_217 dX12_init_556 hin rfl rfl rfl hw (fun κ205 H locs cells slots hw hH => ?_)
  refine lv_aload_n hx hb dX12_init_559 rfl (lv_at hl 0 rfl) ?_
  refine lv_bipush (v := 16) hx hb dX12_init_560 (by decide) ?_
  refine cw_newarr_int hF hH hA (wc_6 20 rfl) dX12_init_562 hw (fun o206 κ207 H locs cells slots hw hH => ?_)
  refine cw_putFP (a := h) (v := (some o206)) hF hH fk_X12_220 dX12_init_564 hin rfl rfl rfl hw (fun κ208 H locs cells slots hw hH => ?_)
  refine lv_aload_n hx hb dX12_init_567 rfl (lv_at hl 0 rfl) ?_
  refine lv_bipush (v := 16) hx hb dX12_init_568 (by decide) ?_
  refine cw_newarr_long hF hH hA (wc_10 26 rfl) dX12_init_570 hw (fun o209 κ210 H locs cells slots hw hH => ?_)
  refine cw_putFP (a := h) (v := (some o209)) hF hH fk_X12_223 dX12_init_572 hin rfl rfl rfl hw (fun κ211 H locs cells slots hw hH => ?_)
  refine lv_aload_n hx hb dX12_init_575 rfl (lv_at hl 0 rfl) ?_
  refine lv_bipush (v := 16) hx hb dX12_init_576 (by decide) ?_
  refine cw_newarr_int hF hH hA (wc_6 20 rfl) dX12_init_578 hw (fun o212 κ213 H locs cells slots hw hH => ?_)
  refine cw_putFP (a := h) (v := (some o212)) hF hH fk_X12_226 dX12_init_580 hin rfl rfl rfl hw (fun κ214 H locs cells slots hw hH => ?_)
  refine lv_aload_n hx hb dX12_init_583 rfl (lv_at hl 0 rfl) ?_
  refine lv_bipush (v := 16) hx hb dX12_init_584 (by decide) ?_
  refine cw_newarr_long hF hH hA (wc_10 26 rfl) dX12_init_586 hw (fun o215 κ216 H locs cells slots hw hH => ?_)
  refine cw_putFP (a := h) (v := (some o215)) hF hH fk_X12_229 dX12_init_588 hin rfl rfl rfl hw (fun κ217 H locs cells slots hw hH => ?_)
  refine lv_aload_n hx hb dX12_init_591 rfl (lv_at hl 0 rfl) ?_
  refine lv_bipush (v := 16) hx hb dX12_init_592 (by decide) ?_
  refine cw_newarr_long hF hH hA (wc_10 26 rfl) dX12_init_594 hw (fun o218 κ219 H locs cells slots hw hH => ?_)
  refine cw_putFP (a := h) (v := (some o218)) hF hH fk_X12_232 dX12_init_596 hin rfl rfl rfl hw (fun κ220 H locs cells slots hw hH => ?_)
  refine lv_aload_n hx hb dX12_init_599 rfl (lv_at hl 0 rfl) ?_
  refine lv_bipush (v := 16) hx hb dX12_init_600 (by decide) ?_
  refine cw_newarr_boolean hF hH hA (wc_46 0 rfl) dX12_init_602 hw (fun o221 κ222 H locs cells slots hw hH => ?_)
  refine cw_putFP (a := h) (v := (some o221)) hF hH fk_X12_235 dX12_init_604 hin rfl rfl rfl hw (fun κ223 H locs cells slots hw hH => ?_)
  refine lv_aload_n hx hb dX12_init_607 rfl (lv_at hl 0 rfl) ?_
  refine lv_bipush (v := 16) hx hb dX12_init_608 (by decide) ?_
  refine cw_newarr_int hF hH hA (wc_6 20 rfl) dX12_init_610 hw (fun o224 κ225 H locs cells slots hw hH => ?_)
  refine cw_putFP (a := h) (v := (some o224)) hF hH fk_X12_238 dX12_init_612 hin rfl rfl rfl hw (fun κ226 H locs cells slots hw hH => ?_)
  refine lv_aload_n hx hb dX12_init_615 rfl (lv_at hl 0 rfl) ?_
  refine lv_ldc (v := 64000) hx hb hF.1.2.2.2.1 (hF.1.2.2.2.2 _ (wc_39 39 rfl)) dX12_init_616 ?_
  refine cw_newarr_byte hF hH hA (wc_5 11 rfl) dX12_init_618 hw (fun o227 κ228 H locs cells slots hw hH => ?_)
  refine cw_putFP (a := h) (v := (some o227)) hF hH fk_X12_242 dX12_init_620 hin rfl rfl rfl hw (fun κ229 H locs cells slots hw hH => ?_)
  refine lv_aload_n hx hb dX12_init_623 rfl (lv_at hl 0 rfl) ?_
  refine lv_ldc (v := 90000) hx hb hF.1.2.2.2.1 (hF.1.2.2.2.2 _ (wc_40 0 rfl)) dX12_init_624 ?_
  refine cw_newarr_byte hF hH hA (wc_5 11 rfl) dX12_init_626 hw (fun o230 κ231 H locs cells slots hw hH => ?_)
  refine cw_putFP (a := h) (v := (some o230)) hF hH fk_X12_246 dX12_init_628 hin rfl rfl rfl hw (fun κ232 H locs cells slots hw hH => ?_)
  refine lv_aload_n hx hb dX12_init_631 rfl (lv_at hl 0 rfl) ?_
  refine lv_sipush (v := 130) hx hb dX12_init_632 (by decide) ?_
  refine cw_newarr_int hF hH hA (wc_6 20 rfl) dX12_init_635 hw (fun o233 κ234 H locs cells slots hw hH => ?_)
  refine cw_putFP (a := h) (v := (some o233)) hF hH fk_X12_249 dX12_init_637 hin rfl rfl rfl hw (fun κ235 H locs cells slots hw hH => ?_)
  refine lv_aload_n hx hb dX12_init_640 rfl (lv_at hl 0 rfl) ?_
  refine lv_sipush (v := 130) hx hb dX12_init_641 (by decide) ?_
  refine cw_newarr_int hF hH hA (wc_6 20 rfl) dX12_init_644 hw (fun o236 κ237 H locs cells slots hw hH => ?_)
  refine cw_putFP (a := h) (v := (some o236)) hF hH fk_X12_252 dX12_init_646 hin rfl rfl rfl hw (fun κ238 H locs cells slots hw hH => ?_)
  refine lv_aload_n hx hb dX12_init_649 rfl (lv_at hl 0 rfl) ?_
  refine lv_sipush (v := 130) hx hb dX12_init_650 (by decide) ?_
  refine cw_newarr_int hF hH hA (wc_6 20 rfl) dX12_init_653 hw (fun o239 κ240 H locs cells slots hw hH => ?_)
  refine cw_putFP (a := h) (v := (some o239)) hF hH fk_X12_255 dX12_init_655 hin rfl rfl rfl hw (fun κ241 H locs cells slots hw hH => ?_)
  refine lv_iconst (v := 0) hx hb dX12_init_658 (by decide) ?_
  refine lv_istore_n (lv' := [(1, .int 0), (0, .ref h)]) hx hb dX12_init_659 rfl hl (by decide) rfl (fun ls hl => ?_)
  refine cw_loop (β := Int32) (fun x242 => [(1, .int x242), (0, .ref h)]) 0 hl hw hH (fun K244 x242 κ243 ls H locs cells slots hl hw hH ih245 => ?_)
  have hl : lv_has ls 2 [(1, .int x242), (0, .ref h)] := hl
  refine lv_iload_n hx hb dX12_init_660 rfl (lv_at hl 0 rfl) ?_
  refine lv_iconst (v := 4) hx hb dX12_init_661 (by decide) ?_
  refine w_icmp_ge (tgt := 678) hF dX12_init_662 rfl hw (fun hw => ?_) (fun hw => ?_)
  · refine lv_aload_n hx hb dX12_init_678 rfl (lv_at hl 1 rfl) ?_
    obtain ⟨L, K, hK, hM, hw⟩ := hw
    have eW : hWd ph t (sL κ243.1, K, κ243.1.2.2) = hWd phI t κ243.1 := hWd_lab rfl rfl hK
    have hR : RT D t A _ h L (sL κ243.1, K, κ243.1.2.2) H locs := ⟨⟨by rw [eW]; exact hH.1.1, by rw [eW]; exact hH.1.2.1, hH.1.2.2.1, okT⟩, hM⟩
    have hC := hH.2
    refine w_cVv (As := []) (rest := []) hF hR hA mv_X12_258 (fun sz => c_X12_begin l D t h L _ hR.2 _ hw sz) dX12_init_679 rfl rfl ⟨Nat.le_of_ble_eq_true rfl, Nat.le_of_ble_eq_true rfl⟩ rfl hl.1 (Nat.le_of_ble_eq_true rfl) ⟨by omega, by omega⟩ rfl (fun σ' H locs hw hR => ?_)
    have eV : hWd phI t (unl σ') = hWd ph t σ' := (hWd_lab (t := t) (σ := unl σ') (σ' := σ') rfl rfl (fun _ _ => rfl)).symm
    have hH : CT _ D t A _ (unl σ', κ243.2) H locs cells slots := ⟨⟨by rw [eV]; exact hR.1.1, by rw [eV]; exact hR.1.2.1, hR.1.2.2.1, okT⟩, hC⟩
    exact cw_retv hF hH ⟨rfl, rfl⟩ hr hlk dX12_init_682 hw
  · refine lv_aload_n hx hb dX12_init_665 rfl (lv_at hl 1 rfl) ?_
    refine cw_getPr (a := h) hF hH fk_X12_47 dX12_init_666 hw (fun z247 hw => ?_)
    refine lv_iload_n hx hb dX12_init_669 rfl (lv_at hl 0 rfl) ?_
    refine lv_iconst (v := (-1)) hx hb dX12_init_670 (by decide) ?_
    refine cw_iast (q := z247) hF hH dX12_init_671 hw (fun κ248 H locs cells slots hw hH => ?_)
    obtain ⟨z249, ez249⟩ : ∃ z : Int32, z = x242 + 1 := ⟨_, rfl⟩
    have hw := hw z249 ez249
    refine lv_iinc (lv' := [(1, .int z249), (0, .ref h)]) (k := 0) (v := z249) hx hb dX12_init_672 hl rfl ez249.symm (by decide) rfl (fun ls hl => ?_)
    refine lv_goto (tgt := 660) hx hb dX12_init_675 rfl ?_
    exact ih245 z249 κ248 ls _ _ _ _ hl hw hH

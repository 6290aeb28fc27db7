theorem RF.put {L : Nat → Nat} {σ σ2 : HS} {i : Nat} {x y : Int32} (h : RF L σ) (h1 : sI σ2 (L 22) = upd (sI σ (L 22)) i x) (h2 : sI σ2 (L 23) = upd (sI σ (L 23)) i y) (hx : x.toInt + y.toInt ≤ 4096) : RF L σ2 := fun q hq => by
  rw [h1, h2]
  unfold upd
  by_cases hqi : q = i
  · rw [if_pos hqi, if_pos hqi]
    exact hx
  · rw [if_neg hqi, if_neg hqi]
    exact h q hq
theorem dX12_record_0 : decode cX12_record 0 = .ok (.aload_n 0, 1) := by decide +kernel
theorem dX12_record_1 : decode cX12_record 1 = .ok (.getfield 271, 3) := by decide +kernel
theorem dX12_record_4 : decode cX12_record 4 = .ok (.istore_n 3, 1) := by decide +kernel
theorem dX12_record_5 : decode cX12_record 5 = .ok (.aload_n 0, 1) := by decide +kernel
theorem dX12_record_6 : decode cX12_record 6 = .ok (.getfield 56, 3) := by decide +kernel
theorem dX12_record_9 : decode cX12_record 9 = .ok (.iload_n 3, 1) := by decide +kernel
theorem dX12_record_10 : decode cX12_record 10 = .ok (.iload_n 1, 1) := by decide +kernel
theorem dX12_record_11 : decode cX12_record 11 = .ok (.iastore, 1) := by decide +kernel
theorem dX12_record_12 : decode cX12_record 12 = .ok (.aload_n 0, 1) := by decide +kernel
theorem dX12_record_13 : decode cX12_record 13 = .ok (.getfield 59, 3) := by decide +kernel
theorem dX12_record_16 : decode cX12_record 16 = .ok (.iload_n 3, 1) := by decide +kernel
theorem dX12_record_17 : decode cX12_record 17 = .ok (.iload_n 2, 1) := by decide +kernel
theorem dX12_record_18 : decode cX12_record 18 = .ok (.iastore, 1) := by decide +kernel
theorem dX12_record_19 : decode cX12_record 19 = .ok (.aload_n 0, 1) := by decide +kernel
theorem dX12_record_20 : decode cX12_record 20 = .ok (.getfield 62, 3) := by decide +kernel
theorem dX12_record_23 : decode cX12_record 23 = .ok (.iload_n 3, 1) := by decide +kernel
theorem dX12_record_24 : decode cX12_record 24 = .ok (.aload_n 0, 1) := by decide +kernel
theorem dX12_record_25 : decode cX12_record 25 = .ok (.getfield 17, 3) := by decide +kernel
theorem dX12_record_28 : decode cX12_record 28 = .ok (.iload_n 2, 1) := by decide +kernel
theorem dX12_record_29 : decode cX12_record 29 = .ok (.iaload, 1) := by decide +kernel
theorem dX12_record_30 : decode cX12_record 30 = .ok (.iastore, 1) := by decide +kernel
theorem dX12_record_31 : decode cX12_record 31 = .ok (.aload_n 0, 1) := by decide +kernel
theorem dX12_record_32 : decode cX12_record 32 = .ok (.getfield 65, 3) := by decide +kernel
theorem dX12_record_35 : decode cX12_record 35 = .ok (.iload_n 3, 1) := by decide +kernel
theorem dX12_record_36 : decode cX12_record 36 = .ok (.aload_n 0, 1) := by decide +kernel
theorem dX12_record_37 : decode cX12_record 37 = .ok (.getfield 21, 3) := by decide +kernel
theorem dX12_record_40 : decode cX12_record 40 = .ok (.iload_n 2, 1) := by decide +kernel
theorem dX12_record_41 : decode cX12_record 41 = .ok (.baload, 1) := by decide +kernel
theorem dX12_record_42 : decode cX12_record 42 = .ok (.bastore, 1) := by decide +kernel
theorem dX12_record_43 : decode cX12_record 43 = .ok (.aload_n 0, 1) := by decide +kernel
theorem dX12_record_44 : decode cX12_record 44 = .ok (.getfield 71, 3) := by decide +kernel
theorem dX12_record_47 : decode cX12_record 47 = .ok (.iload_n 3, 1) := by decide +kernel
theorem dX12_record_48 : decode cX12_record 48 = .ok (.aload_n 0, 1) := by decide +kernel
theorem dX12_record_49 : decode cX12_record 49 = .ok (.getfield 27, 3) := by decide +kernel
theorem dX12_record_52 : decode cX12_record 52 = .ok (.iload_n 2, 1) := by decide +kernel
theorem dX12_record_53 : decode cX12_record 53 = .ok (.iaload, 1) := by decide +kernel
theorem dX12_record_54 : decode cX12_record 54 = .ok (.iastore, 1) := by decide +kernel
theorem dX12_record_55 : decode cX12_record 55 = .ok (.aload_n 0, 1) := by decide +kernel
theorem dX12_record_56 : decode cX12_record 56 = .ok (.getfield 74, 3) := by decide +kernel
theorem dX12_record_59 : decode cX12_record 59 = .ok (.iload_n 3, 1) := by decide +kernel
theorem dX12_record_60 : decode cX12_record 60 = .ok (.aload_n 0, 1) := by decide +kernel
theorem dX12_record_61 : decode cX12_record 61 = .ok (.getfield 30, 3) := by decide +kernel
theorem dX12_record_64 : decode cX12_record 64 = .ok (.iload_n 2, 1) := by decide +kernel
theorem dX12_record_65 : decode cX12_record 65 = .ok (.iaload, 1) := by decide +kernel
theorem dX12_record_66 : decode cX12_record 66 = .ok (.iastore, 1) := by decide +kernel
theorem dX12_record_67 : decode cX12_record 67 = .ok (.aload_n 0, 1) := by decide +kernel
theorem dX12_record_68 : decode cX12_record 68 = .ok (.getfield 80, 3) := by decide +kernel
theorem dX12_record_71 : decode cX12_record 71 = .ok (.iload_n 3, 1) := by decide +kernel
theorem dX12_record_72 : decode cX12_record 72 = .ok (.iconst 0, 1) := by decide +kernel
theorem dX12_record_73 : decode cX12_record 73 = .ok (.iastore, 1) := by decide +kernel
theorem dX12_record_74 : decode cX12_record 74 = .ok (.aload_n 0, 1) := by decide +kernel
theorem dX12_record_75 : decode cX12_record 75 = .ok (.getfield 83, 3) := by decide +kernel
theorem dX12_record_78 : decode cX12_record 78 = .ok (.iload_n 3, 1) := by decide +kernel
theorem dX12_record_79 : decode cX12_record 79 = .ok (.iconst 0, 1) := by decide +kernel
theorem dX12_record_80 : decode cX12_record 80 = .ok (.iastore, 1) := by decide +kernel
theorem dX12_record_81 : decode cX12_record 81 = .ok (.iconst 0, 1) := by decide +kernel
theorem dX12_record_82 : decode cX12_record 82 = .ok (.istore 4, 2) := by decide +kernel
theorem dX12_record_84 : decode cX12_record 84 = .ok (.iload 4, 2) := by decide +kernel
theorem dX12_record_86 : decode cX12_record 86 = .ok (.bipush 12, 2) := by decide +kernel
theorem dX12_record_88 : decode cX12_record 88 = .ok (.if_icmp .ge 33, 3) := by decide +kernel
theorem dX12_record_91 : decode cX12_record 91 = .ok (.aload_n 0, 1) := by decide +kernel
theorem dX12_record_92 : decode cX12_record 92 = .ok (.getfield 68, 3) := by decide +kernel
theorem dX12_record_95 : decode cX12_record 95 = .ok (.bipush 12, 2) := by decide +kernel
theorem dX12_record_97 : decode cX12_record 97 = .ok (.iload_n 3, 1) := by decide +kernel
theorem dX12_record_98 : decode cX12_record 98 = .ok (.imul, 1) := by decide +kernel
theorem dX12_record_99 : decode cX12_record 99 = .ok (.iload 4, 2) := by decide +kernel
theorem dX12_record_101 : decode cX12_record 101 = .ok (.iadd, 1) := by decide +kernel
theorem dX12_record_102 : decode cX12_record 102 = .ok (.aload_n 0, 1) := by decide +kernel
theorem dX12_record_103 : decode cX12_record 103 = .ok (.getfield 24, 3) := by decide +kernel
theorem dX12_record_106 : decode cX12_record 106 = .ok (.bipush 12, 2) := by decide +kernel
theorem dX12_record_108 : decode cX12_record 108 = .ok (.iload_n 2, 1) := by decide +kernel
theorem dX12_record_109 : decode cX12_record 109 = .ok (.imul, 1) := by decide +kernel
theorem dX12_record_110 : decode cX12_record 110 = .ok (.iload 4, 2) := by decide +kernel
theorem dX12_record_112 : decode cX12_record 112 = .ok (.iadd, 1) := by decide +kernel
theorem dX12_record_113 : decode cX12_record 113 = .ok (.baload, 1) := by decide +kernel
theorem dX12_record_114 : decode cX12_record 114 = .ok (.bastore, 1) := by decide +kernel
theorem dX12_record_115 : decode cX12_record 115 = .ok (.iinc 4 1, 3) := by decide +kernel
theorem dX12_record_118 : decode cX12_record 118 = .ok (.goto (-34), 3) := by decide +kernel
theorem dX12_record_121 : decode cX12_record 121 = .ok (.iconst 0, 1) := by decide +kernel
theorem dX12_record_122 : decode cX12_record 122 = .ok (.istore 4, 2) := by decide +kernel
theorem dX12_record_124 : decode cX12_record 124 = .ok (.iload 4, 2) := by decide +kernel
theorem dX12_record_126 : decode cX12_record 126 = .ok (.iconst 4, 1) := by decide +kernel
theorem dX12_record_127 : decode cX12_record 127 = .ok (.if_icmp .ge 31, 3) := by decide +kernel
theorem dX12_record_130 : decode cX12_record 130 = .ok (.aload_n 0, 1) := by decide +kernel
theorem dX12_record_131 : decode cX12_record 131 = .ok (.getfield 77, 3) := by decide +kernel
theorem dX12_record_134 : decode cX12_record 134 = .ok (.iconst 4, 1) := by decide +kernel
theorem dX12_record_135 : decode cX12_record 135 = .ok (.iload_n 3, 1) := by decide +kernel
theorem dX12_record_136 : decode cX12_record 136 = .ok (.imul, 1) := by decide +kernel
theorem dX12_record_137 : decode cX12_record 137 = .ok (.iload 4, 2) := by decide +kernel
theorem dX12_record_139 : decode cX12_record 139 = .ok (.iadd, 1) := by decide +kernel
theorem dX12_record_140 : decode cX12_record 140 = .ok (.aload_n 0, 1) := by decide +kernel
theorem dX12_record_141 : decode cX12_record 141 = .ok (.getfield 33, 3) := by decide +kernel
theorem dX12_record_144 : decode cX12_record 144 = .ok (.iconst 4, 1) := by decide +kernel
theorem dX12_record_145 : decode cX12_record 145 = .ok (.iload_n 2, 1) := by decide +kernel
theorem dX12_record_146 : decode cX12_record 146 = .ok (.imul, 1) := by decide +kernel
theorem dX12_record_147 : decode cX12_record 147 = .ok (.iload 4, 2) := by decide +kernel
theorem dX12_record_149 : decode cX12_record 149 = .ok (.iadd, 1) := by decide +kernel
theorem dX12_record_150 : decode cX12_record 150 = .ok (.laload, 1) := by decide +kernel
theorem dX12_record_151 : decode cX12_record 151 = .ok (.lastore, 1) := by decide +kernel
theorem dX12_record_152 : decode cX12_record 152 = .ok (.iinc 4 1, 3) := by decide +kernel
theorem dX12_record_155 : decode cX12_record 155 = .ok (.goto (-31), 3) := by decide +kernel
theorem dX12_record_158 : decode cX12_record 158 = .ok (.iload_n 3, 1) := by decide +kernel
theorem dX12_record_159 : decode cX12_record 159 = .ok (.ireturn, 1) := by decide +kernel
set_option maxRecDepth 100000 in
set_option maxHeartbeats 4000000 in
theorem c_X12_record (l : Launch) (D : va_G) (t : Nat → ClassId) (h0 : Nat) (L : Nat → Nat) (σ : HS) (hO : OK ph τ0 σ) (hM : MdI h0 L σ) (k n : Int32) (hz : 0 ≤ k.toInt ∧ k.toInt ≤ 5 ∧ 0 ≤ n.toInt ∧ n.toInt ≤ 79) (sz : Nat) : HMi ph τ0 l D t yX12_record cX12_record 5 (some .int) ({ frames := 0, cells := 0, slots := 0, locals := 0 }) σ sz [.ref h0, .int k, .int n] 0 0 (fun r σ' => MdI h0 L σ' ∧ Fr h0 L [] [14, 15, 16, 17, 18, 19, 20, 21, 22, 23] σ σ' ∧ (r.toInt = (sI σ h0 16).toInt ∧ (RF L σ → RF L σ') ∧ sI σ' (L 22) = upd (sI σ (L 22)) r.toInt.toNat 0 ∧ sI σ' (L 23) = upd (sI σ (L 23)) r.toInt.toNat 0)) := by
  refine h_go hO (by decide) (Nat.le_of_ble_eq_true rfl) ?_
  intro p e s m below meth c ls A hF hr hlk hAe hH0 hA hl
  unfold hB
  rw [hAe]
  clear hAe
  have hF : FX p m c cX12_record 5 s _ RX12 D t := hF
  have hx := hF.1.1
  have hb := hF.1.2.1
  have hH : MT D t A s.heap h0 L σ s.heap [] := ⟨hH0, hM⟩
  have hle : HLe σ σ := HLe.rf
  have hfr : Fr h0 L [] [14, 15, 16, 17, 18, 19, 20, 21, 22, 23] σ σ := Fr.rf
  have k_0 : (0 : Int32).toInt = 0 := rfl
  have k_4 : (4 : Int32).toInt = 4 := rfl
  have k_12 : (12 : Int32).toInt = 12 := rfl
  have rg_1 := i_range k
  have rg_2 := i_range n
  have hl : lv_has ls 5 [(0, .ref h0), (1, .int k), (2, .int n)] := hl
  have rf_16 : (0 : Int) ≤ (sI σ h0 16).toInt ∧ (sI σ h0 16).toInt ≤ 8 := m_fld hH 16 (by decide) rfl
  have kp_22 : sI σ (L 22) = sI σ (L 22) := rfl
  have kp_23 : sI σ (L 23) = sI σ (L 23) := rfl
  refine lv_aload_n hx hb dX12_record_0 rfl (lv_at hl 0 rfl) ?_
  refine m_getI hF hH fk_X12_271 dX12_record_1 0 8 rfl rfl (fun z734 ez734 vz734 => ?_)
  have wz734 := i_eq ez734
  refine lv_istore_n (lv' := [(3, .int z734), (0, .ref h0), (1, .int k), (2, .int n)]) hx hb dX12_record_4 rfl hl (by decide) rfl (fun ls hl => ?_)
  refine lv_aload_n hx hb dX12_record_5 rfl (lv_at hl 1 rfl) ?_
  refine m_getA 14 hF hH fk_X12_56 dX12_record_6 (by decide) rfl ?_
  refine lv_iload_n hx hb dX12_record_9 rfl (lv_at hl 0 rfl) ?_
  refine lv_iload_n hx hb dX12_record_10 rfl (lv_at hl 2 rfl) ?_
  have hMp := hH.2
  refine m_iast 14 9 hF hH dX12_record_11 (by decide) rfl rfl 0 5 rfl rfl (by omega) (by omega) (by omega) (fun σ735 H locs eσ735 hH => ?_)
  have kp_22 : sI σ735 (L 22) = sI σ (L 22) := (keepAA eσ735 hMp (by decide) (by decide) (by decide)).trans kp_22
  have kp_23 : sI σ735 (L 23) = sI σ (L 23) := (keepAA eσ735 hMp (by decide) (by decide) (by decide)).trans kp_23
  have hle := hle.tr (show HLe σ σ735 by rw [eσ735]; exact HLe.uI)
  have hfr := hfr.aI hMp (by decide) eσ735 (by decide)
  refine lv_aload_n hx hb dX12_record_12 rfl (lv_at hl 1 rfl) ?_
  refine m_getA 15 hF hH fk_X12_59 dX12_record_13 (by decide) rfl ?_
  refine lv_iload_n hx hb dX12_record_16 rfl (lv_at hl 0 rfl) ?_
  refine lv_iload_n hx hb dX12_record_17 rfl (lv_at hl 3 rfl) ?_
  have hMp := hH.2
  refine m_iast 15 9 hF hH dX12_record_18 (by decide) rfl rfl 0 79 rfl rfl (by omega) (by omega) (by omega) (fun σ736 H locs eσ736 hH => ?_)
  have kp_22 : sI σ736 (L 22) = sI σ (L 22) := (keepAA eσ736 hMp (by decide) (by decide) (by decide)).trans kp_22
  have kp_23 : sI σ736 (L 23) = sI σ (L 23) := (keepAA eσ736 hMp (by decide) (by decide) (by decide)).trans kp_23
  have hle := hle.tr (show HLe σ735 σ736 by rw [eσ736]; exact HLe.uI)
  have hfr := hfr.aI hMp (by decide) eσ736 (by decide)
  refine lv_aload_n hx hb dX12_record_19 rfl (lv_at hl 1 rfl) ?_
  refine m_getA 16 hF hH fk_X12_62 dX12_record_20 (by decide) rfl ?_
  refine lv_iload_n hx hb dX12_record_23 rfl (lv_at hl 0 rfl) ?_
  refine lv_aload_n hx hb dX12_record_24 rfl (lv_at hl 1 rfl) ?_
  refine m_getA 2 hF hH fk_X12_17 dX12_record_25 (by decide) rfl ?_
  refine lv_iload_n hx hb dX12_record_28 rfl (lv_at hl 3 rfl) ?_
  refine m_iald 2 160 hF hH dX12_record_29 (by decide) rfl rfl (-1) 79 rfl rfl (by omega) (by omega) (fun z737 ez737 vz737 => ?_)
  have wz737 := i_eq ez737
  have hMp := hH.2
  refine m_iast 16 9 hF hH dX12_record_30 (by decide) rfl rfl (-1) 79 rfl rfl (by omega) (by omega) (by omega) (fun σ738 H locs eσ738 hH => ?_)
  have kp_22 : sI σ738 (L 22) = sI σ (L 22) := (keepAA eσ738 hMp (by decide) (by decide) (by decide)).trans kp_22
  have kp_23 : sI σ738 (L 23) = sI σ (L 23) := (keepAA eσ738 hMp (by decide) (by decide) (by decide)).trans kp_23
  have hle := hle.tr (show HLe σ736 σ738 by rw [eσ738]; exact HLe.uI)
  have hfr := hfr.aI hMp (by decide) eσ738 (by decide)
  refine lv_aload_n hx hb dX12_record_31 rfl (lv_at hl 1 rfl) ?_
  refine m_getA 17 hF hH fk_X12_65 dX12_record_32 (by decide) rfl ?_
  refine lv_iload_n hx hb dX12_record_35 rfl (lv_at hl 0 rfl) ?_
  refine lv_aload_n hx hb dX12_record_36 rfl (lv_at hl 1 rfl) ?_
  refine m_getA 3 hF hH fk_X12_21 dX12_record_37 (by decide) rfl ?_
  refine lv_iload_n hx hb dX12_record_40 rfl (lv_at hl 3 rfl) ?_
  refine m_zald 3 160 hF hH dX12_record_41 (by decide) rfl rfl 0 1 rfl rfl (by omega) (by omega) (fun z739 ez739 vz739 => ?_)
  have wz739 := i_eq ez739
  have hMp := hH.2
  refine m_zast 17 9 hF hH dX12_record_42 (by decide) rfl rfl rfl rfl (by omega) (by omega) (fun σ740 H locs eσ740 hH => ?_)
  have kp_22 : sI σ740 (L 22) = sI σ (L 22) := (keepAA eσ740 hMp (by decide) (by decide) (by decide)).trans kp_22
  have kp_23 : sI σ740 (L 23) = sI σ (L 23) := (keepAA eσ740 hMp (by decide) (by decide) (by decide)).trans kp_23
  have hle := hle.tr (show HLe σ738 σ740 by rw [eσ740]; exact HLe.uI)
  have hfr := hfr.aI hMp (by decide) eσ740 (by decide)
  refine lv_aload_n hx hb dX12_record_43 rfl (lv_at hl 1 rfl) ?_
  refine m_getA 19 hF hH fk_X12_71 dX12_record_44 (by decide) rfl ?_
  refine lv_iload_n hx hb dX12_record_47 rfl (lv_at hl 0 rfl) ?_
  refine lv_aload_n hx hb dX12_record_48 rfl (lv_at hl 1 rfl) ?_
  refine m_getA 5 hF hH fk_X12_27 dX12_record_49 (by decide) rfl ?_
  refine lv_iload_n hx hb dX12_record_52 rfl (lv_at hl 3 rfl) ?_
  refine m_iald 5 160 hF hH dX12_record_53 (by decide) rfl rfl 0 12 rfl rfl (by omega) (by omega) (fun z741 ez741 vz741 => ?_)
  have wz741 := i_eq ez741
  have hMp := hH.2
  refine m_iast 19 9 hF hH dX12_record_54 (by decide) rfl rfl 0 12 rfl rfl (by omega) (by omega) (by omega) (fun σ742 H locs eσ742 hH => ?_)
  have kp_22 : sI σ742 (L 22) = sI σ (L 22) := (keepAA eσ742 hMp (by decide) (by decide) (by decide)).trans kp_22
  have kp_23 : sI σ742 (L 23) = sI σ (L 23) := (keepAA eσ742 hMp (by decide) (by decide) (by decide)).trans kp_23
  have hle := hle.tr (show HLe σ740 σ742 by rw [eσ742]; exact HLe.uI)
  have hfr := hfr.aI hMp (by decide) eσ742 (by decide)
  refine lv_aload_n hx hb dX12_record_55 rfl (lv_at hl 1 rfl) ?_
  refine m_getA 20 hF hH fk_X12_74 dX12_record_56 (by decide) rfl ?_
  refine lv_iload_n hx hb dX12_record_59 rfl (lv_at hl 0 rfl) ?_
  refine lv_aload_n hx hb dX12_record_60 rfl (lv_at hl 1 rfl) ?_
  refine m_getA 6 hF hH fk_X12_30 dX12_record_61 (by decide) rfl ?_
  refine lv_iload_n hx hb dX12_record_64 rfl (lv_at hl 3 rfl) ?_
  refine m_iald 6 160 hF hH dX12_record_65 (by decide) rfl rfl (-2147483648) 2147483647 rfl rfl (by omega) (by omega) (fun z743 ez743 vz743 => ?_)
  have wz743 := i_eq ez743
  have hMp := hH.2
  refine m_iast 20 9 hF hH dX12_record_66 (by decide) rfl rfl (-2147483648) 2147483647 rfl rfl (by omega) (by omega) (by omega) (fun σ744 H locs eσ744 hH => ?_)
  have kp_22 : sI σ744 (L 22) = sI σ (L 22) := (keepAA eσ744 hMp (by decide) (by decide) (by decide)).trans kp_22
  have kp_23 : sI σ744 (L 23) = sI σ (L 23) := (keepAA eσ744 hMp (by decide) (by decide) (by decide)).trans kp_23
  have hle := hle.tr (show HLe σ742 σ744 by rw [eσ744]; exact HLe.uI)
  have hfr := hfr.aI hMp (by decide) eσ744 (by decide)
  refine lv_aload_n hx hb dX12_record_67 rfl (lv_at hl 1 rfl) ?_
  refine m_getA 22 hF hH fk_X12_80 dX12_record_68 (by decide) rfl ?_
  refine lv_iload_n hx hb dX12_record_71 rfl (lv_at hl 0 rfl) ?_
  refine lv_iconst (v := 0) hx hb dX12_record_72 (by decide) ?_
  have hMp := hH.2
  refine m_iast 22 9 hF hH dX12_record_73 (by decide) rfl rfl 0 4096 rfl rfl (by omega) (by omega) (by omega) (fun σ745 H locs eσ745 hH => ?_)
  have kp_22 : sI σ745 (L 22) = upd (sI σ (L 22)) z734.toInt.toNat 0 := by rw [eσ745]; exact u2_upd.trans (congrArg (fun f => upd f z734.toInt.toNat 0) kp_22)
  have kp_23 : sI σ745 (L 23) = sI σ (L 23) := (keepAA eσ745 hMp (by decide) (by decide) (by decide)).trans kp_23
  have hle := hle.tr (show HLe σ744 σ745 by rw [eσ745]; exact HLe.uI)
  have hfr := hfr.aI hMp (by decide) eσ745 (by decide)
  refine lv_aload_n hx hb dX12_record_74 rfl (lv_at hl 1 rfl) ?_
  refine m_getA 23 hF hH fk_X12_83 dX12_record_75 (by decide) rfl ?_
  refine lv_iload_n hx hb dX12_record_78 rfl (lv_at hl 0 rfl) ?_
  refine lv_iconst (v := 0) hx hb dX12_record_79 (by decide) ?_
  have hMp := hH.2
  refine m_iast 23 9 hF hH dX12_record_80 (by decide) rfl rfl 0 1024 rfl rfl (by omega) (by omega) (by omega) (fun σ746 H locs eσ746 hH => ?_)
  have kp_22 : sI σ746 (L 22) = upd (sI σ (L 22)) z734.toInt.toNat 0 := (keepAA eσ746 hMp (by decide) (by decide) (by decide)).trans kp_22
  have kp_23 : sI σ746 (L 23) = upd (sI σ (L 23)) z734.toInt.toNat 0 := by rw [eσ746]; exact u2_upd.trans (congrArg (fun f => upd f z734.toInt.toNat 0) kp_23)
  have hle := hle.tr (show HLe σ745 σ746 by rw [eσ746]; exact HLe.uI)
  have hfr := hfr.aI hMp (by decide) eσ746 (by decide)
  refine lv_iconst (v := 0) hx hb dX12_record_81 (by decide) ?_
  refine lv_istore (lv' := [(4, .int 0), (3, .int z734), (0, .ref h0), (1, .int k), (2, .int n)]) hx hb dX12_record_82 hl (by decide) rfl (fun ls hl => ?_)
  have hl : lv_has ls 5 [(4, .int 0), (3, .int z734), (2, .int n), (1, .int k), (0, .ref h0)] := lv_sub hl [0, 1, 4, 3, 2] rfl
  refine m_loop (β := Int32) (L0 := fun x => [(4, .int x), (3, .int z734), (2, .int n), (1, .int k), (0, .ref h0)]) (I := fun x σ2 => HLe σ σ2 ∧ Fr h0 L [] [14, 15, 16, 17, 18, 19, 20, 21, 22, 23] σ σ2 ∧ ((0 ≤ x.toInt ∧ x.toInt ≤ 12) ∧ sI σ2 (L 22) = upd (sI σ (L 22)) z734.toInt.toNat 0 ∧ sI σ2 (L 23) = upd (sI σ (L 23)) z734.toInt.toNat 0)) (fun x σ2 => (12 - x.toInt).toNat) (0) hl ⟨hle, hfr, ⟨by (try dsimp only); omega, kp_22, kp_23⟩⟩ hH (fun x σL ls H locs hl hI hH ih => ?_)
  obtain ⟨x747, hx1⟩ : ∃ y, y = x := ⟨_, rfl⟩
  subst hx1
  obtain ⟨hle, hfr, hI⟩ := hI
  have hl : lv_has ls 5 [(4, .int x747), (3, .int z734), (2, .int n), (1, .int k), (0, .ref h0)] := hl
  have hI : (0 ≤ x747.toInt ∧ x747.toInt ≤ 12) ∧ sI σL (L 22) = upd (sI σ (L 22)) z734.toInt.toNat 0 ∧ sI σL (L 23) = upd (sI σ (L 23)) z734.toInt.toNat 0 := hI
  have rg_x747 := i_range x747
  have kp_22 : sI σL (L 22) = upd (sI σ (L 22)) z734.toInt.toNat 0 := hI.2.1
  have kp_23 : sI σL (L 23) = upd (sI σ (L 23)) z734.toInt.toNat 0 := hI.2.2
  refine lv_iload hx hb dX12_record_84 (lv_at hl 0 rfl) ?_
  refine lv_bipush (v := 12) hx hb dX12_record_86 (by decide) ?_
  refine lv_icmp_ge (tgt := 121) hx hb dX12_record_88 rfl (fun h748 => ?_) (fun h748 => ?_)
  · have ch748 := i_le h748
    refine lv_iconst (v := 0) hx hb dX12_record_121 (by decide) ?_
    refine lv_istore (lv' := [(4, .int 0), (3, .int z734), (2, .int n), (1, .int k), (0, .ref h0)]) hx hb dX12_record_122 hl (by decide) rfl (fun ls hl => ?_)
    have hl : lv_has ls 5 [(4, .int 0), (3, .int z734), (2, .int n), (1, .int k), (0, .ref h0)] := lv_sub hl [0, 1, 2, 3, 4] rfl
    refine m_loop (β := Int32) (L0 := fun x => [(4, .int x), (3, .int z734), (2, .int n), (1, .int k), (0, .ref h0)]) (I := fun x σ2 => HLe σ σ2 ∧ Fr h0 L [] [14, 15, 16, 17, 18, 19, 20, 21, 22, 23] σ σ2 ∧ ((0 ≤ x.toInt ∧ x.toInt ≤ 4) ∧ sI σ2 (L 22) = upd (sI σ (L 22)) z734.toInt.toNat 0 ∧ sI σ2 (L 23) = upd (sI σ (L 23)) z734.toInt.toNat 0)) (fun x σ2 => (4 - x.toInt).toNat) (0) hl ⟨hle, hfr, ⟨by (try dsimp only); omega, kp_22, kp_23⟩⟩ hH (fun x σL756 ls H locs hl hI hH ih757 => ?_)
    obtain ⟨x758, hx1⟩ : ∃ y, y = x := ⟨_, rfl⟩
    subst hx1
    obtain ⟨hle, hfr, hI⟩ := hI
    have hl : lv_has ls 5 [(4, .int x758), (3, .int z734), (2, .int n), (1, .int k), (0, .ref h0)] := hl
    have hI : (0 ≤ x758.toInt ∧ x758.toInt ≤ 4) ∧ sI σL756 (L 22) = upd (sI σ (L 22)) z734.toInt.toNat 0 ∧ sI σL756 (L 23) = upd (sI σ (L 23)) z734.toInt.toNat 0 := hI
    have rg_x758 := i_range x758
    have kp_22 : sI σL756 (L 22) = upd (sI σ (L 22)) z734.toInt.toNat 0 := hI.2.1
    have kp_23 : sI σL756 (L 23) = upd (sI σ (L 23)) z734.toInt.toNat 0 := hI.2.2
    refine lv_iload hx hb dX12_record_124 (lv_at hl 0 rfl) ?_
    refine lv_iconst (v := 4) hx hb dX12_record_126 (by decide) ?_
    refine lv_icmp_ge (tgt := 158) hx hb dX12_record_127 rfl (fun h759 => ?_) (fun h759 => ?_)
    · have ch759 := i_le h759
      refine lv_iload_n hx hb dX12_record_158 rfl (lv_at hl 1 rfl) ?_
      exact h_reti hF hr hlk rfl dX12_record_159 hH.1 hle ⟨hH.2, hfr, ⟨by (try dsimp only); omega, fun h => h.put kp_22 kp_23 (by decide), kp_22, kp_23⟩⟩
    · have ch759 := i_nle h759
      refine lv_aload_n hx hb dX12_record_130 rfl (lv_at hl 4 rfl) ?_
      refine m_getA 21 hF hH fk_X12_77 dX12_record_131 (by decide) rfl ?_
      refine lv_iconst (v := 4) hx hb dX12_record_134 (by decide) ?_
      refine lv_iload_n hx hb dX12_record_135 rfl (lv_at hl 1 rfl) ?_
      refine lv_imul hx hb dX12_record_136 ?_
      refine lv_topi (fun z760 ez760 => ?_)
      try have hz760 := i_mulk 4 rfl ez760 (by omega) (by omega)
      refine lv_iload hx hb dX12_record_137 (lv_at hl 0 rfl) ?_
      refine lv_iadd hx hb dX12_record_139 ?_
      refine lv_topi (fun z761 ez761 => ?_)
      try have hz761 := i_add ez761 (by omega) (by omega)
      refine lv_aload_n hx hb dX12_record_140 rfl (lv_at hl 4 rfl) ?_
      refine m_getA 7 hF hH fk_X12_33 dX12_record_141 (by decide) rfl ?_
      refine lv_iconst (v := 4) hx hb dX12_record_144 (by decide) ?_
      refine lv_iload_n hx hb dX12_record_145 rfl (lv_at hl 2 rfl) ?_
      refine lv_imul hx hb dX12_record_146 ?_
      refine lv_topi (fun z762 ez762 => ?_)
      try have hz762 := i_mulk 4 rfl ez762 (by omega) (by omega)
      refine lv_iload hx hb dX12_record_147 (lv_at hl 0 rfl) ?_
      refine lv_iadd hx hb dX12_record_149 ?_
      refine lv_topi (fun z763 ez763 => ?_)
      try have hz763 := i_add ez763 (by omega) (by omega)
      refine m_lald 7 640 hF hH dX12_record_150 (by decide) rfl rfl (by omega) (by omega) (fun z764 ez764 => ?_)
      have hMp := hH.2
      refine m_last 21 36 hF hH dX12_record_151 (by decide) rfl rfl (by omega) (by omega) (fun σ765 H locs eσ765 hH => ?_)
      have kp_22 : sI σ765 (L 22) = upd (sI σ (L 22)) z734.toInt.toNat 0 := (keepAJ eσ765).trans kp_22
      have kp_23 : sI σ765 (L 23) = upd (sI σ (L 23)) z734.toInt.toNat 0 := (keepAJ eσ765).trans kp_23
      have hle := hle.tr (show HLe σL756 σ765 by rw [eσ765]; exact HLe.uJ)
      have hfr := hfr.aJ hMp (by decide) eσ765 (by decide)
      obtain ⟨z766, ez766⟩ : ∃ z : Int32, z = x758 + Int32.ofInt 1 := ⟨_, rfl⟩
      have hz766 := i_add ez766 (by rw [show (Int32.ofInt 1).toInt = 1 from rfl]; omega) (by rw [show (Int32.ofInt 1).toInt = 1 from rfl]; omega)
      rw [show (Int32.ofInt 1).toInt = 1 from rfl] at hz766
      refine lv_iinc (lv' := [(4, .int z766), (3, .int z734), (2, .int n), (1, .int k), (0, .ref h0)]) (k := 0) (v := z766) hx hb dX12_record_152 hl rfl ez766.symm (by decide) rfl (fun ls hl => ?_)
      refine lv_goto (tgt := 124) hx hb dX12_record_155 rfl ?_
      have hl : lv_has ls 5 [(4, .int z766), (3, .int z734), (2, .int n), (1, .int k), (0, .ref h0)] := lv_sub hl [0, 1, 2, 3, 4] rfl
      exact ih757 (z766) σ765 ls H locs (by (try dsimp only); omega) hl ⟨hle, hfr, ⟨by (try dsimp only); omega, kp_22, kp_23⟩⟩ hH
  · have ch748 := i_nle h748
    refine lv_aload_n hx hb dX12_record_91 rfl (lv_at hl 4 rfl) ?_
    refine m_getA 18 hF hH fk_X12_68 dX12_record_92 (by decide) rfl ?_
    refine lv_bipush (v := 12) hx hb dX12_record_95 (by decide) ?_
    refine lv_iload_n hx hb dX12_record_97 rfl (lv_at hl 1 rfl) ?_
    refine lv_imul hx hb dX12_record_98 ?_
    refine lv_topi (fun z749 ez749 => ?_)
    try have hz749 := i_mulk 12 rfl ez749 (by omega) (by omega)
    refine lv_iload hx hb dX12_record_99 (lv_at hl 0 rfl) ?_
    refine lv_iadd hx hb dX12_record_101 ?_
    refine lv_topi (fun z750 ez750 => ?_)
    try have hz750 := i_add ez750 (by omega) (by omega)
    refine lv_aload_n hx hb dX12_record_102 rfl (lv_at hl 4 rfl) ?_
    refine m_getA 4 hF hH fk_X12_24 dX12_record_103 (by decide) rfl ?_
    refine lv_bipush (v := 12) hx hb dX12_record_106 (by decide) ?_
    refine lv_iload_n hx hb dX12_record_108 rfl (lv_at hl 2 rfl) ?_
    refine lv_imul hx hb dX12_record_109 ?_
    refine lv_topi (fun z751 ez751 => ?_)
    try have hz751 := i_mulk 12 rfl ez751 (by omega) (by omega)
    refine lv_iload hx hb dX12_record_110 (lv_at hl 0 rfl) ?_
    refine lv_iadd hx hb dX12_record_112 ?_
    refine lv_topi (fun z752 ez752 => ?_)
    try have hz752 := i_add ez752 (by omega) (by omega)
    refine m_bald 4 1920 hF hH dX12_record_113 (by decide) rfl rfl (-128) 127 rfl rfl (by omega) (by omega) (fun z753 ez753 vz753 => ?_)
    have wz753 := i_eq ez753
    have hMp := hH.2
    refine m_bast 18 108 hF hH dX12_record_114 (by decide) rfl rfl rfl rfl (by omega) (by omega) (fun σ754 H locs eσ754 hH => ?_)
    have kp_22 : sI σ754 (L 22) = upd (sI σ (L 22)) z734.toInt.toNat 0 := (keepAA eσ754 hMp (by decide) (by decide) (by decide)).trans kp_22
    have kp_23 : sI σ754 (L 23) = upd (sI σ (L 23)) z734.toInt.toNat 0 := (keepAA eσ754 hMp (by decide) (by decide) (by decide)).trans kp_23
    have hle := hle.tr (show HLe σL σ754 by rw [eσ754]; exact HLe.uI)
    have hfr := hfr.aI hMp (by decide) eσ754 (by decide)
    obtain ⟨z755, ez755⟩ : ∃ z : Int32, z = x747 + Int32.ofInt 1 := ⟨_, rfl⟩
    have hz755 := i_add ez755 (by rw [show (Int32.ofInt 1).toInt = 1 from rfl]; omega) (by rw [show (Int32.ofInt 1).toInt = 1 from rfl]; omega)
    rw [show (Int32.ofInt 1).toInt = 1 from rfl] at hz755
    refine lv_iinc (lv' := [(4, .int z755), (3, .int z734), (2, .int n), (1, .int k), (0, .ref h0)]) (k := 0) (v := z755) hx hb dX12_record_115 hl rfl ez755.symm (by decide) rfl (fun ls hl => ?_)
    refine lv_goto (tgt := 84) hx hb dX12_record_118 rfl ?_
    have hl : lv_has ls 5 [(4, .int z755), (3, .int z734), (2, .int n), (1, .int k), (0, .ref h0)] := lv_sub hl [0, 1, 2, 3, 4] rfl
    exact ih (z755) σ754 ls H locs (by (try dsimp only); omega) hl ⟨hle, hfr, ⟨by (try dsimp only); omega, kp_22, kp_23⟩⟩ hH
theorem dX12_begin_0 : decode cX12_begin 0 = .ok (.iconst 0, 1) := by decide +kernel
theorem dX12_begin_1 : decode cX12_begin 1 = .ok (.istore_n 1, 1) := by decide +kernel
theorem dX12_begin_2 : decode cX12_begin 2 = .ok (.iload_n 1, 1) := by decide +kernel
theorem dX12_begin_3 : decode cX12_begin 3 = .ok (.bipush 6, 2) := by decide +kernel
theorem dX12_begin_5 : decode cX12_begin 5 = .ok (.if_icmp .ge 23, 3) := by decide +kernel
theorem dX12_begin_8 : decode cX12_begin 8 = .ok (.aload_n 0, 1) := by decide +kernel
theorem dX12_begin_9 : decode cX12_begin 9 = .ok (.getfield 89, 3) := by decide +kernel
theorem dX12_begin_12 : decode cX12_begin 12 = .ok (.iload_n 1, 1) := by decide +kernel
theorem dX12_begin_13 : decode cX12_begin 13 = .ok (.iconst 0, 1) := by decide +kernel
theorem dX12_begin_14 : decode cX12_begin 14 = .ok (.bastore, 1) := by decide +kernel
theorem dX12_begin_15 : decode cX12_begin 15 = .ok (.aload_n 0, 1) := by decide +kernel
theorem dX12_begin_16 : decode cX12_begin 16 = .ok (.getfield 99, 3) := by decide +kernel
theorem dX12_begin_19 : decode cX12_begin 19 = .ok (.iload_n 1, 1) := by decide +kernel
theorem dX12_begin_20 : decode cX12_begin 20 = .ok (.iconst 0, 1) := by decide +kernel
theorem dX12_begin_21 : decode cX12_begin 21 = .ok (.iastore, 1) := by decide +kernel
theorem dX12_begin_22 : decode cX12_begin 22 = .ok (.iinc 1 1, 3) := by decide +kernel
theorem dX12_begin_25 : decode cX12_begin 25 = .ok (.goto (-23), 3) := by decide +kernel
theorem dX12_begin_28 : decode cX12_begin 28 = .ok (.iconst 0, 1) := by decide +kernel
theorem dX12_begin_29 : decode cX12_begin 29 = .ok (.istore_n 1, 1) := by decide +kernel
theorem dX12_begin_30 : decode cX12_begin 30 = .ok (.iload_n 1, 1) := by decide +kernel
theorem dX12_begin_31 : decode cX12_begin 31 = .ok (.bipush 8, 2) := by decide +kernel
theorem dX12_begin_33 : decode cX12_begin 33 = .ok (.if_icmp .ge 16, 3) := by decide +kernel
theorem dX12_begin_36 : decode cX12_begin 36 = .ok (.aload_n 0, 1) := by decide +kernel
theorem dX12_begin_37 : decode cX12_begin 37 = .ok (.getfield 118, 3) := by decide +kernel
theorem dX12_begin_40 : decode cX12_begin 40 = .ok (.iload_n 1, 1) := by decide +kernel
theorem dX12_begin_41 : decode cX12_begin 41 = .ok (.lconst 0, 1) := by decide +kernel
theorem dX12_begin_42 : decode cX12_begin 42 = .ok (.lastore, 1) := by decide +kernel
theorem dX12_begin_43 : decode cX12_begin 43 = .ok (.iinc 1 1, 3) := by decide +kernel
theorem dX12_begin_46 : decode cX12_begin 46 = .ok (.goto (-16), 3) := by decide +kernel
theorem dX12_begin_49 : decode cX12_begin 49 = .ok (.iconst 0, 1) := by decide +kernel
theorem dX12_begin_50 : decode cX12_begin 50 = .ok (.istore_n 1, 1) := by decide +kernel
theorem dX12_begin_51 : decode cX12_begin 51 = .ok (.iload_n 1, 1) := by decide +kernel
theorem dX12_begin_52 : decode cX12_begin 52 = .ok (.bipush 16, 2) := by decide +kernel
theorem dX12_begin_54 : decode cX12_begin 54 = .ok (.if_icmp .ge 16, 3) := by decide +kernel
theorem dX12_begin_57 : decode cX12_begin 57 = .ok (.aload_n 0, 1) := by decide +kernel
theorem dX12_begin_58 : decode cX12_begin 58 = .ok (.getfield 130, 3) := by decide +kernel
theorem dX12_begin_61 : decode cX12_begin 61 = .ok (.iload_n 1, 1) := by decide +kernel
theorem dX12_begin_62 : decode cX12_begin 62 = .ok (.lconst 0, 1) := by decide +kernel
theorem dX12_begin_63 : decode cX12_begin 63 = .ok (.lastore, 1) := by decide +kernel
theorem dX12_begin_64 : decode cX12_begin 64 = .ok (.iinc 1 1, 3) := by decide +kernel
theorem dX12_begin_67 : decode cX12_begin 67 = .ok (.goto (-16), 3) := by decide +kernel
theorem dX12_begin_70 : decode cX12_begin 70 = .ok (.iconst 0, 1) := by decide +kernel
theorem dX12_begin_71 : decode cX12_begin 71 = .ok (.istore_n 1, 1) := by decide +kernel
theorem dX12_begin_72 : decode cX12_begin 72 = .ok (.iload_n 1, 1) := by decide +kernel
theorem dX12_begin_73 : decode cX12_begin 73 = .ok (.bipush 40, 2) := by decide +kernel
theorem dX12_begin_75 : decode cX12_begin 75 = .ok (.if_icmp .ge 16, 3) := by decide +kernel
theorem dX12_begin_78 : decode cX12_begin 78 = .ok (.aload_n 0, 1) := by decide +kernel
theorem dX12_begin_79 : decode cX12_begin 79 = .ok (.getfield 139, 3) := by decide +kernel
theorem dX12_begin_82 : decode cX12_begin 82 = .ok (.iload_n 1, 1) := by decide +kernel
theorem dX12_begin_83 : decode cX12_begin 83 = .ok (.lconst 0, 1) := by decide +kernel
theorem dX12_begin_84 : decode cX12_begin 84 = .ok (.lastore, 1) := by decide +kernel
theorem dX12_begin_85 : decode cX12_begin 85 = .ok (.iinc 1 1, 3) := by decide +kernel
theorem dX12_begin_88 : decode cX12_begin 88 = .ok (.goto (-16), 3) := by decide +kernel
theorem dX12_begin_91 : decode cX12_begin 91 = .ok (.aload_n 0, 1) := by decide +kernel
theorem dX12_begin_92 : decode cX12_begin 92 = .ok (.iconst 0, 1) := by decide +kernel
theorem dX12_begin_93 : decode cX12_begin 93 = .ok (.putfield 289, 3) := by decide +kernel
theorem dX12_begin_96 : decode cX12_begin 96 = .ok (.aload_n 0, 1) := by decide +kernel
theorem dX12_begin_97 : decode cX12_begin 97 = .ok (.iconst 0, 1) := by decide +kernel
theorem dX12_begin_98 : decode cX12_begin 98 = .ok (.putfield 292, 3) := by decide +kernel
theorem dX12_begin_101 : decode cX12_begin 101 = .ok (.aload_n 0, 1) := by decide +kernel
theorem dX12_begin_102 : decode cX12_begin 102 = .ok (.iconst 0, 1) := by decide +kernel
theorem dX12_begin_103 : decode cX12_begin 103 = .ok (.putfield 271, 3) := by decide +kernel
theorem dX12_begin_106 : decode cX12_begin 106 = .ok (.aload_n 0, 1) := by decide +kernel
theorem dX12_begin_107 : decode cX12_begin 107 = .ok (.lconst 0, 1) := by decide +kernel
theorem dX12_begin_108 : decode cX12_begin 108 = .ok (.putfield 295, 3) := by decide +kernel
theorem dX12_begin_111 : decode cX12_begin 111 = .ok (.aload_n 0, 1) := by decide +kernel
theorem dX12_begin_112 : decode cX12_begin 112 = .ok (.lconst 0, 1) := by decide +kernel
theorem dX12_begin_113 : decode cX12_begin 113 = .ok (.putfield 299, 3) := by decide +kernel
theorem dX12_begin_116 : decode cX12_begin 116 = .ok (.aload_n 0, 1) := by decide +kernel
theorem dX12_begin_117 : decode cX12_begin 117 = .ok (.lconst 0, 1) := by decide +kernel
theorem dX12_begin_118 : decode cX12_begin 118 = .ok (.putfield 302, 3) := by decide +kernel
theorem dX12_begin_121 : decode cX12_begin 121 = .ok (.aload_n 0, 1) := by decide +kernel
theorem dX12_begin_122 : decode cX12_begin 122 = .ok (.lconst 0, 1) := by decide +kernel
theorem dX12_begin_123 : decode cX12_begin 123 = .ok (.putfield 305, 3) := by decide +kernel
theorem dX12_begin_126 : decode cX12_begin 126 = .ok (.iconst 0, 1) := by decide +kernel
theorem dX12_begin_127 : decode cX12_begin 127 = .ok (.istore_n 1, 1) := by decide +kernel
theorem dX12_begin_128 : decode cX12_begin 128 = .ok (.iload_n 1, 1) := by decide +kernel
theorem dX12_begin_129 : decode cX12_begin 129 = .ok (.bipush 80, 2) := by decide +kernel
theorem dX12_begin_131 : decode cX12_begin 131 = .ok (.if_icmp .ge 25, 3) := by decide +kernel
theorem dX12_begin_134 : decode cX12_begin 134 = .ok (.aload_n 0, 1) := by decide +kernel
theorem dX12_begin_135 : decode cX12_begin 135 = .ok (.bipush 80, 2) := by decide +kernel
theorem dX12_begin_137 : decode cX12_begin 137 = .ok (.iload_n 1, 1) := by decide +kernel
theorem dX12_begin_138 : decode cX12_begin 138 = .ok (.iadd, 1) := by decide +kernel
theorem dX12_begin_139 : decode cX12_begin 139 = .ok (.iload_n 1, 1) := by decide +kernel
theorem dX12_begin_140 : decode cX12_begin 140 = .ok (.invokevirtual 308, 3) := by decide +kernel
theorem dX12_begin_143 : decode cX12_begin 143 = .ok (.aload_n 0, 1) := by decide +kernel
theorem dX12_begin_144 : decode cX12_begin 144 = .ok (.getfield 44, 3) := by decide +kernel
theorem dX12_begin_147 : decode cX12_begin 147 = .ok (.iload_n 1, 1) := by decide +kernel
theorem dX12_begin_148 : decode cX12_begin 148 = .ok (.iconst 0, 1) := by decide +kernel
theorem dX12_begin_149 : decode cX12_begin 149 = .ok (.bastore, 1) := by decide +kernel
theorem dX12_begin_150 : decode cX12_begin 150 = .ok (.iinc 1 1, 3) := by decide +kernel
theorem dX12_begin_153 : decode cX12_begin 153 = .ok (.goto (-25), 3) := by decide +kernel
theorem dX12_begin_156 : decode cX12_begin 156 = .ok (.return_, 1) := by decide +kernel
set_option maxRecDepth 100000 in
set_option maxHeartbeats 4000000 in
theorem c_X12_begin (l : Launch) (D : va_G) (t : Nat → ClassId) (h0 : Nat) (L : Nat → Nat) (σ : HS) (hO : OK ph τ0 σ) (hM : MdI h0 L σ) (sz : Nat) : HMv ph τ0 l D t yX12_begin cX12_begin 2 ({ frames := 1, cells := 0, slots := 0, locals := 23 }) σ sz [.ref h0] 0 0 (fun σ' => MdI h0 L σ' ∧ Fr h0 L [16, 59, 60, 61, 62, 63, 69] [1, 2, 3, 4, 5, 6, 7, 8, 9, 10, 25, 28, 34, 38, 41] σ σ' ∧ ((sI σ' h0 16).toInt = 0)) := by
  refine h_go hO (by decide) (Nat.le_of_ble_eq_true rfl) ?_
  intro p e s m below meth c ls A hF hr hlk hAe hH0 hA hl
  unfold hB
  rw [hAe]
  clear hAe
  have hF : FX p m c cX12_begin 2 s _ RX12 D t := hF
  have hx := hF.1.1
  have hb := hF.1.2.1
  have hH : MT D t A s.heap h0 L σ s.heap [] := ⟨hH0, hM⟩
  have hle : HLe σ σ := HLe.rf
  have hfr : Fr h0 L [16, 59, 60, 61, 62, 63, 69] [1, 2, 3, 4, 5, 6, 7, 8, 9, 10, 25, 28, 34, 38, 41] σ σ := Fr.rf
  have kl_0 : (0 : Int64).toInt = 0 := rfl
  have k_0 : (0 : Int32).toInt = 0 := rfl
  have k_6 : (6 : Int32).toInt = 6 := rfl
  have k_8 : (8 : Int32).toInt = 8 := rfl
  have k_16 : (16 : Int32).toInt = 16 := rfl
  have k_40 : (40 : Int32).toInt = 40 := rfl
  have k_80 : (80 : Int32).toInt = 80 := rfl
  have hl : lv_has ls 2 [(0, .ref h0)] := hl
  refine lv_iconst (v := 0) hx hb dX12_begin_0 (by decide) ?_
  refine lv_istore_n (lv' := [(1, .int 0), (0, .ref h0)]) hx hb dX12_begin_1 rfl hl (by decide) rfl (fun ls hl => ?_)
  have hl : lv_has ls 2 [(1, .int 0), (0, .ref h0)] := lv_sub hl [0, 1] rfl
  refine m_loop (β := Int32) (L0 := fun x => [(1, .int x), (0, .ref h0)]) (I := fun x σ2 => HLe σ σ2 ∧ Fr h0 L [16, 59, 60, 61, 62, 63, 69] [1, 2, 3, 4, 5, 6, 7, 8, 9, 10, 25, 28, 34, 38, 41] σ σ2 ∧ (0 ≤ x.toInt ∧ x.toInt ≤ 6)) (fun x σ2 => (6 - x.toInt).toNat) (0) hl ⟨hle, hfr, by (try dsimp only); omega⟩ hH (fun x σL ls H locs hl hI hH ih => ?_)
  obtain ⟨x767, hx1⟩ : ∃ y, y = x := ⟨_, rfl⟩
  subst hx1
  obtain ⟨hle, hfr, hI⟩ := hI
  have hl : lv_has ls 2 [(1, .int x767), (0, .ref h0)] := hl
  have hI : 0 ≤ x767.toInt ∧ x767.toInt ≤ 6 := hI
  have rg_x767 := i_range x767
  refine lv_iload_n hx hb dX12_begin_2 rfl (lv_at hl 0 rfl) ?_
  refine lv_bipush (v := 6) hx hb dX12_begin_3 (by decide) ?_
  refine lv_icmp_ge (tgt := 28) hx hb dX12_begin_5 rfl (fun h768 => ?_) (fun h768 => ?_)
  · have ch768 := i_le h768
    refine lv_iconst (v := 0) hx hb dX12_begin_28 (by decide) ?_
    refine lv_istore_n (lv' := [(1, .int 0), (0, .ref h0)]) hx hb dX12_begin_29 rfl hl (by decide) rfl (fun ls hl => ?_)
    have hl : lv_has ls 2 [(1, .int 0), (0, .ref h0)] := lv_sub hl [0, 1] rfl
    refine m_loop (β := Int32) (L0 := fun x => [(1, .int x), (0, .ref h0)]) (I := fun x σ2 => HLe σ σ2 ∧ Fr h0 L [16, 59, 60, 61, 62, 63, 69] [1, 2, 3, 4, 5, 6, 7, 8, 9, 10, 25, 28, 34, 38, 41] σ σ2 ∧ (0 ≤ x.toInt ∧ x.toInt ≤ 8)) (fun x σ2 => (8 - x.toInt).toNat) (0) hl ⟨hle, hfr, by (try dsimp only); omega⟩ hH (fun x σL772 ls H locs hl hI hH ih773 => ?_)
    obtain ⟨x774, hx1⟩ : ∃ y, y = x := ⟨_, rfl⟩
    subst hx1
    obtain ⟨hle, hfr, hI⟩ := hI
    have hl : lv_has ls 2 [(1, .int x774), (0, .ref h0)] := hl
    have hI : 0 ≤ x774.toInt ∧ x774.toInt ≤ 8 := hI
    have rg_x774 := i_range x774
    refine lv_iload_n hx hb dX12_begin_30 rfl (lv_at hl 0 rfl) ?_
    refine lv_bipush (v := 8) hx hb dX12_begin_31 (by decide) ?_
    refine lv_icmp_ge (tgt := 49) hx hb dX12_begin_33 rfl (fun h775 => ?_) (fun h775 => ?_)
    · have ch775 := i_le h775
      refine lv_iconst (v := 0) hx hb dX12_begin_49 (by decide) ?_
      refine lv_istore_n (lv' := [(1, .int 0), (0, .ref h0)]) hx hb dX12_begin_50 rfl hl (by decide) rfl (fun ls hl => ?_)
      have hl : lv_has ls 2 [(1, .int 0), (0, .ref h0)] := lv_sub hl [0, 1] rfl
      refine m_loop (β := Int32) (L0 := fun x => [(1, .int x), (0, .ref h0)]) (I := fun x σ2 => HLe σ σ2 ∧ Fr h0 L [16, 59, 60, 61, 62, 63, 69] [1, 2, 3, 4, 5, 6, 7, 8, 9, 10, 25, 28, 34, 38, 41] σ σ2 ∧ (0 ≤ x.toInt ∧ x.toInt ≤ 16)) (fun x σ2 => (16 - x.toInt).toNat) (0) hl ⟨hle, hfr, by (try dsimp only); omega⟩ hH (fun x σL778 ls H locs hl hI hH ih779 => ?_)
      obtain ⟨x780, hx1⟩ : ∃ y, y = x := ⟨_, rfl⟩
      subst hx1
      obtain ⟨hle, hfr, hI⟩ := hI
      have hl : lv_has ls 2 [(1, .int x780), (0, .ref h0)] := hl
      have hI : 0 ≤ x780.toInt ∧ x780.toInt ≤ 16 := hI
      have rg_x780 := i_range x780
      refine lv_iload_n hx hb dX12_begin_51 rfl (lv_at hl 0 rfl) ?_
      refine lv_bipush (v := 16) hx hb dX12_begin_52 (by decide) ?_
      refine lv_icmp_ge (tgt := 70) hx hb dX12_begin_54 rfl (fun h781 => ?_) (fun h781 => ?_)
      · have ch781 := i_le h781
        refine lv_iconst (v := 0) hx hb dX12_begin_70 (by decide) ?_
        refine lv_istore_n (lv' := [(1, .int 0), (0, .ref h0)]) hx hb dX12_begin_71 rfl hl (by decide) rfl (fun ls hl => ?_)
        have hl : lv_has ls 2 [(1, .int 0), (0, .ref h0)] := lv_sub hl [0, 1] rfl
        refine m_loop (β := Int32) (L0 := fun x => [(1, .int x), (0, .ref h0)]) (I := fun x σ2 => HLe σ σ2 ∧ Fr h0 L [16, 59, 60, 61, 62, 63, 69] [1, 2, 3, 4, 5, 6, 7, 8, 9, 10, 25, 28, 34, 38, 41] σ σ2 ∧ (0 ≤ x.toInt ∧ x.toInt ≤ 40)) (fun x σ2 => (40 - x.toInt).toNat) (0) hl ⟨hle, hfr, by (try dsimp only); omega⟩ hH (fun x σL784 ls H locs hl hI hH ih785 => ?_)
        obtain ⟨x786, hx1⟩ : ∃ y, y = x := ⟨_, rfl⟩
        subst hx1
        obtain ⟨hle, hfr, hI⟩ := hI
        have hl : lv_has ls 2 [(1, .int x786), (0, .ref h0)] := hl
        have hI : 0 ≤ x786.toInt ∧ x786.toInt ≤ 40 := hI
        have rg_x786 := i_range x786
        refine lv_iload_n hx hb dX12_begin_72 rfl (lv_at hl 0 rfl) ?_
        refine lv_bipush (v := 40) hx hb dX12_begin_73 (by decide) ?_
        refine lv_icmp_ge (tgt := 91) hx hb dX12_begin_75 rfl (fun h787 => ?_) (fun h787 => ?_)
        · have ch787 := i_le h787
          refine lv_aload_n hx hb dX12_begin_91 rfl (lv_at hl 1 rfl) ?_
          refine lv_iconst (v := 0) hx hb dX12_begin_92 (by decide) ?_
          have hMp := hH.2
          refine m_putI hF hH fk_X12_289 dX12_begin_93 0 80 rfl rfl (by omega) rfl rfl rfl (fun σ790 H locs eσ790 hH => ?_)
          have hle := hle.tr (show HLe σL784 σ790 by rw [eσ790]; exact HLe.uI)
          have hfr := hfr.fI hMp eσ790 (by decide) rfl
          refine lv_aload_n hx hb dX12_begin_96 rfl (lv_at hl 1 rfl) ?_
          refine lv_iconst (v := 0) hx hb dX12_begin_97 (by decide) ?_
          have hMp := hH.2
          refine m_putI hF hH fk_X12_292 dX12_begin_98 0 16 rfl rfl (by omega) rfl rfl rfl (fun σ791 H locs eσ791 hH => ?_)
          have hle := hle.tr (show HLe σ790 σ791 by rw [eσ791]; exact HLe.uI)
          have hfr := hfr.fI hMp eσ791 (by decide) rfl
          refine lv_aload_n hx hb dX12_begin_101 rfl (lv_at hl 1 rfl) ?_
          refine lv_iconst (v := 0) hx hb dX12_begin_102 (by decide) ?_
          have kf_16 : sI σ791 h0 16 = sI σ791 h0 16 := rfl
          have hMp := hH.2
          refine m_putI hF hH fk_X12_271 dX12_begin_103 0 8 rfl rfl (by omega) rfl rfl rfl (fun σ792 H locs eσ792 hH => ?_)
          have kf_16 : (sI σ792 h0 16).toInt = (0 : Int32).toInt := by rw [eσ792]; exact congrArg Int32.toInt u2_same
          have hle := hle.tr (show HLe σ791 σ792 by rw [eσ792]; exact HLe.uI)
          have hfr := hfr.fI hMp eσ792 (by decide) rfl
          have hrs := kf_16
          have kf_16 : sI σ792 h0 16 = sI σ792 h0 16 := rfl
          refine lv_aload_n hx hb dX12_begin_106 rfl (lv_at hl 1 rfl) ?_
          refine lv_lconst (v := 0) hx hb dX12_begin_107 (by decide) ?_
          have hMp := hH.2
          refine m_putJ hF hH fk_X12_295 dX12_begin_108 rfl rfl rfl (fun σ793 H locs eσ793 hH => ?_)
          have kf_16 : sI σ793 h0 16 = sI σ792 h0 16 := (keepFJ eσ793).trans kf_16
          have hle := hle.tr (show HLe σ792 σ793 by rw [eσ793]; exact HLe.uJ)
          have hfr := hfr.fJ hMp eσ793 (by decide) rfl
          refine lv_aload_n hx hb dX12_begin_111 rfl (lv_at hl 1 rfl) ?_
          refine lv_lconst (v := 0) hx hb dX12_begin_112 (by decide) ?_
          have hMp := hH.2
          refine m_putJ hF hH fk_X12_299 dX12_begin_113 rfl rfl rfl (fun σ794 H locs eσ794 hH => ?_)
          have kf_16 : sI σ794 h0 16 = sI σ792 h0 16 := (keepFJ eσ794).trans kf_16
          have hle := hle.tr (show HLe σ793 σ794 by rw [eσ794]; exact HLe.uJ)
          have hfr := hfr.fJ hMp eσ794 (by decide) rfl
          refine lv_aload_n hx hb dX12_begin_116 rfl (lv_at hl 1 rfl) ?_
          refine lv_lconst (v := 0) hx hb dX12_begin_117 (by decide) ?_
          have hMp := hH.2
          refine m_putJ hF hH fk_X12_302 dX12_begin_118 rfl rfl rfl (fun σ795 H locs eσ795 hH => ?_)
          have kf_16 : sI σ795 h0 16 = sI σ792 h0 16 := (keepFJ eσ795).trans kf_16
          have hle := hle.tr (show HLe σ794 σ795 by rw [eσ795]; exact HLe.uJ)
          have hfr := hfr.fJ hMp eσ795 (by decide) rfl
          refine lv_aload_n hx hb dX12_begin_121 rfl (lv_at hl 1 rfl) ?_
          refine lv_lconst (v := 0) hx hb dX12_begin_122 (by decide) ?_
          have hMp := hH.2
          refine m_putJ hF hH fk_X12_305 dX12_begin_123 rfl rfl rfl (fun σ796 H locs eσ796 hH => ?_)
          have kf_16 : sI σ796 h0 16 = sI σ792 h0 16 := (keepFJ eσ796).trans kf_16
          have hle := hle.tr (show HLe σ795 σ796 by rw [eσ796]; exact HLe.uJ)
          have hfr := hfr.fJ hMp eσ796 (by decide) rfl
          refine lv_iconst (v := 0) hx hb dX12_begin_126 (by decide) ?_
          refine lv_istore_n (lv' := [(1, .int 0), (0, .ref h0)]) hx hb dX12_begin_127 rfl hl (by decide) rfl (fun ls hl => ?_)
          have hrt := i_eq kf_16
          have hl : lv_has ls 2 [(1, .int 0), (0, .ref h0)] := lv_sub hl [0, 1] rfl
          have hrc0 : (sI σ796 h0 16).toInt = 0 := by omega
          refine m_loop (β := Int32) (L0 := fun x => [(1, .int x), (0, .ref h0)]) (I := fun x σ2 => HLe σ σ2 ∧ Fr h0 L [16, 59, 60, 61, 62, 63, 69] [1, 2, 3, 4, 5, 6, 7, 8, 9, 10, 25, 28, 34, 38, 41] σ σ2 ∧ ((0 ≤ x.toInt ∧ x.toInt ≤ 80) ∧ (sI σ2 h0 16).toInt = 0)) (fun x σ2 => (80 - x.toInt).toNat) (0) hl ⟨hle, hfr, ⟨by (try dsimp only); omega, by (try dsimp only); omega⟩⟩ hH (fun x σL797 ls H locs hl hI hH ih798 => ?_)
          obtain ⟨x799, hx1⟩ : ∃ y, y = x := ⟨_, rfl⟩
          subst hx1
          obtain ⟨hle, hfr, hI⟩ := hI
          have hl : lv_has ls 2 [(1, .int x799), (0, .ref h0)] := hl
          have hI : (0 ≤ x799.toInt ∧ x799.toInt ≤ 80) ∧ (sI σL797 h0 16).toInt = 0 := hI
          have rg_x799 := i_range x799
          refine lv_iload_n hx hb dX12_begin_128 rfl (lv_at hl 0 rfl) ?_
          refine lv_bipush (v := 80) hx hb dX12_begin_129 (by decide) ?_
          refine lv_icmp_ge (tgt := 156) hx hb dX12_begin_131 rfl (fun h800 => ?_) (fun h800 => ?_)
          · have ch800 := i_le h800
            exact h_retv hF hr hlk dX12_begin_156 hH.1 hle ⟨hH.2, hfr, by (try dsimp only); omega⟩
          · have ch800 := i_nle h800
            refine lv_aload_n hx hb dX12_begin_134 rfl (lv_at hl 1 rfl) ?_
            refine lv_bipush (v := 80) hx hb dX12_begin_135 (by decide) ?_
            refine lv_iload_n hx hb dX12_begin_137 rfl (lv_at hl 0 rfl) ?_
            refine lv_iadd hx hb dX12_begin_138 ?_
            refine lv_topi (fun z801 ez801 => ?_)
            try have hz801 := i_add ez801 (by omega) (by omega)
            refine lv_iload_n hx hb dX12_begin_139 rfl (lv_at hl 0 rfl) ?_
            refine m_cVv (As := [.int z801, .int x799]) (rest := []) hF hH hA mv_X12_308 (fun sz => c_X12_copyNode l D t h0 L _ hH.1.2.2.2 hH.2 z801 x799 (by omega) sz) dX12_begin_140 rfl rfl (by decide) rfl hl.1 (Nat.le_of_ble_eq_true rfl) (by decide) rfl (fun σ803 H locs lσ803 pz802 hH => ?_)
            obtain ⟨fz802, pz802⟩ := pz802
            have hle := hle.tr lσ803
            have hfr := hfr.tr fz802 (by decide) (by decide)
            have hrc1 := i_eq (fz802.1 16 (by decide)).1
            have kf_16 : sI σ803 h0 16 = sI σ803 h0 16 := rfl
            refine lv_aload_n hx hb dX12_begin_143 rfl (lv_at hl 1 rfl) ?_
            refine m_getA 10 hF hH fk_X12_44 dX12_begin_144 (by decide) rfl ?_
            refine lv_iload_n hx hb dX12_begin_147 rfl (lv_at hl 0 rfl) ?_
            refine lv_iconst (v := 0) hx hb dX12_begin_148 (by decide) ?_
            have hMp := hH.2
            refine m_zast 10 80 hF hH dX12_begin_149 (by decide) rfl rfl rfl rfl (by omega) (by omega) (fun σ804 H locs eσ804 hH => ?_)
            have kf_16 : sI σ804 h0 16 = sI σ803 h0 16 := (keepFA eσ804 hMp (by decide)).trans kf_16
            have hle := hle.tr (show HLe σ803 σ804 by rw [eσ804]; exact HLe.uI)
            have hfr := hfr.aI hMp (by decide) eσ804 (by decide)
            obtain ⟨z805, ez805⟩ : ∃ z : Int32, z = x799 + Int32.ofInt 1 := ⟨_, rfl⟩
            have hz805 := i_add ez805 (by rw [show (Int32.ofInt 1).toInt = 1 from rfl]; omega) (by rw [show (Int32.ofInt 1).toInt = 1 from rfl]; omega)
            rw [show (Int32.ofInt 1).toInt = 1 from rfl] at hz805
            refine lv_iinc (lv' := [(1, .int z805), (0, .ref h0)]) (k := 0) (v := z805) hx hb dX12_begin_150 hl rfl ez805.symm (by decide) rfl (fun ls hl => ?_)
            refine lv_goto (tgt := 128) hx hb dX12_begin_153 rfl ?_
            have hrc2 := i_eq kf_16
            have hl : lv_has ls 2 [(1, .int z805), (0, .ref h0)] := lv_sub hl [0, 1] rfl
            exact ih798 (z805) σ804 ls H locs (by (try dsimp only); omega) hl ⟨hle, hfr, ⟨by (try dsimp only); omega, by (try dsimp only); omega⟩⟩ hH
        · have ch787 := i_nle h787
          refine lv_aload_n hx hb dX12_begin_78 rfl (lv_at hl 1 rfl) ?_
          refine m_getA 41 hF hH fk_X12_139 dX12_begin_79 (by decide) rfl ?_
          refine lv_iload_n hx hb dX12_begin_82 rfl (lv_at hl 0 rfl) ?_
          refine lv_lconst (v := 0) hx hb dX12_begin_83 (by decide) ?_
          have hMp := hH.2
          refine m_last 41 40 hF hH dX12_begin_84 (by decide) rfl rfl (by omega) (by omega) (fun σ788 H locs eσ788 hH => ?_)
          have hle := hle.tr (show HLe σL784 σ788 by rw [eσ788]; exact HLe.uJ)
          have hfr := hfr.aJ hMp (by decide) eσ788 (by decide)
          obtain ⟨z789, ez789⟩ : ∃ z : Int32, z = x786 + Int32.ofInt 1 := ⟨_, rfl⟩
          have hz789 := i_add ez789 (by rw [show (Int32.ofInt 1).toInt = 1 from rfl]; omega) (by rw [show (Int32.ofInt 1).toInt = 1 from rfl]; omega)
          rw [show (Int32.ofInt 1).toInt = 1 from rfl] at hz789
          refine lv_iinc (lv' := [(1, .int z789), (0, .ref h0)]) (k := 0) (v := z789) hx hb dX12_begin_85 hl rfl ez789.symm (by decide) rfl (fun ls hl => ?_)
          refine lv_goto (tgt := 72) hx hb dX12_begin_88 rfl ?_
          have hl : lv_has ls 2 [(1, .int z789), (0, .ref h0)] := lv_sub hl [0, 1] rfl
          exact ih785 (z789) σ788 ls H locs (by (try dsimp only); omega) hl ⟨hle, hfr, by (try dsimp only); omega⟩ hH
      · have ch781 := i_nle h781
        refine lv_aload_n hx hb dX12_begin_57 rfl (lv_at hl 1 rfl) ?_
        refine m_getA 38 hF hH fk_X12_130 dX12_begin_58 (by decide) rfl ?_
        refine lv_iload_n hx hb dX12_begin_61 rfl (lv_at hl 0 rfl) ?_
        refine lv_lconst (v := 0) hx hb dX12_begin_62 (by decide) ?_
        have hMp := hH.2
        refine m_last 38 16 hF hH dX12_begin_63 (by decide) rfl rfl (by omega) (by omega) (fun σ782 H locs eσ782 hH => ?_)
        have hle := hle.tr (show HLe σL778 σ782 by rw [eσ782]; exact HLe.uJ)
        have hfr := hfr.aJ hMp (by decide) eσ782 (by decide)
        obtain ⟨z783, ez783⟩ : ∃ z : Int32, z = x780 + Int32.ofInt 1 := ⟨_, rfl⟩
        have hz783 := i_add ez783 (by rw [show (Int32.ofInt 1).toInt = 1 from rfl]; omega) (by rw [show (Int32.ofInt 1).toInt = 1 from rfl]; omega)
        rw [show (Int32.ofInt 1).toInt = 1 from rfl] at hz783
        refine lv_iinc (lv' := [(1, .int z783), (0, .ref h0)]) (k := 0) (v := z783) hx hb dX12_begin_64 hl rfl ez783.symm (by decide) rfl (fun ls hl => ?_)
        refine lv_goto (tgt := 51) hx hb dX12_begin_67 rfl ?_
        have hl : lv_has ls 2 [(1, .int z783), (0, .ref h0)] := lv_sub hl [0, 1] rfl
        exact ih779 (z783) σ782 ls H locs (by (try dsimp only); omega) hl ⟨hle, hfr, by (try dsimp only); omega⟩ hH
    · have ch775 := i_nle h775
      refine lv_aload_n hx hb dX12_begin_36 rfl (lv_at hl 1 rfl) ?_
      refine m_getA 34 hF hH fk_X12_118 dX12_begin_37 (by decide) rfl ?_
      refine lv_iload_n hx hb dX12_begin_40 rfl (lv_at hl 0 rfl) ?_
      refine lv_lconst (v := 0) hx hb dX12_begin_41 (by decide) ?_
      have hMp := hH.2
      refine m_last 34 8 hF hH dX12_begin_42 (by decide) rfl rfl (by omega) (by omega) (fun σ776 H locs eσ776 hH => ?_)
      have hle := hle.tr (show HLe σL772 σ776 by rw [eσ776]; exact HLe.uJ)
      have hfr := hfr.aJ hMp (by decide) eσ776 (by decide)
      obtain ⟨z777, ez777⟩ : ∃ z : Int32, z = x774 + Int32.ofInt 1 := ⟨_, rfl⟩
      have hz777 := i_add ez777 (by rw [show (Int32.ofInt 1).toInt = 1 from rfl]; omega) (by rw [show (Int32.ofInt 1).toInt = 1 from rfl]; omega)
      rw [show (Int32.ofInt 1).toInt = 1 from rfl] at hz777
      refine lv_iinc (lv' := [(1, .int z777), (0, .ref h0)]) (k := 0) (v := z777) hx hb dX12_begin_43 hl rfl ez777.symm (by decide) rfl (fun ls hl => ?_)
      refine lv_goto (tgt := 30) hx hb dX12_begin_46 rfl ?_
      have hl : lv_has ls 2 [(1, .int z777), (0, .ref h0)] := lv_sub hl [0, 1] rfl
      exact ih773 (z777) σ776 ls H locs (by (try dsimp only); omega) hl ⟨hle, hfr, by (try dsimp only); omega⟩ hH
  · have ch768 := i_nle h768
    refine lv_aload_n hx hb dX12_begin_8 rfl (lv_at hl 1 rfl) ?_
    refine m_getA 25 hF hH fk_X12_89 dX12_begin_9 (by decide) rfl ?_
    refine lv_iload_n hx hb dX12_begin_12 rfl (lv_at hl 0 rfl) ?_
    refine lv_iconst (v := 0) hx hb dX12_begin_13 (by decide) ?_
    have hMp := hH.2
    refine m_zast 25 6 hF hH dX12_begin_14 (by decide) rfl rfl rfl rfl (by omega) (by omega) (fun σ769 H locs eσ769 hH => ?_)
    have hle := hle.tr (show HLe σL σ769 by rw [eσ769]; exact HLe.uI)
    have hfr := hfr.aI hMp (by decide) eσ769 (by decide)
    refine lv_aload_n hx hb dX12_begin_15 rfl (lv_at hl 1 rfl) ?_
    refine m_getA 28 hF hH fk_X12_99 dX12_begin_16 (by decide) rfl ?_
    refine lv_iload_n hx hb dX12_begin_19 rfl (lv_at hl 0 rfl) ?_
    refine lv_iconst (v := 0) hx hb dX12_begin_20 (by decide) ?_
    have hMp := hH.2
    refine m_iast 28 6 hF hH dX12_begin_21 (by decide) rfl rfl 0 16000 rfl rfl (by omega) (by omega) (by omega) (fun σ770 H locs eσ770 hH => ?_)
    have hle := hle.tr (show HLe σ769 σ770 by rw [eσ770]; exact HLe.uI)
    have hfr := hfr.aI hMp (by decide) eσ770 (by decide)
    obtain ⟨z771, ez771⟩ : ∃ z : Int32, z = x767 + Int32.ofInt 1 := ⟨_, rfl⟩
    have hz771 := i_add ez771 (by rw [show (Int32.ofInt 1).toInt = 1 from rfl]; omega) (by rw [show (Int32.ofInt 1).toInt = 1 from rfl]; omega)
    rw [show (Int32.ofInt 1).toInt = 1 from rfl] at hz771
    refine lv_iinc (lv' := [(1, .int z771), (0, .ref h0)]) (k := 0) (v := z771) hx hb dX12_begin_22 hl rfl ez771.symm (by decide) rfl (fun ls hl => ?_)
    refine lv_goto (tgt := 2) hx hb dX12_begin_25 rfl ?_
    have hl : lv_has ls 2 [(1, .int z771), (0, .ref h0)] := lv_sub hl [0, 1] rfl
    exact ih (z771) σ770 ls H locs (by (try dsimp only); omega) hl ⟨hle, hfr, by (try dsimp only); omega⟩ hH
theorem dX12_crash_0 : decode cX12_crash 0 = .ok (.iload_n 1, 1) := by decide +kernel
theorem dX12_crash_1 : decode cX12_crash 1 = .ok (.ifCond .lt 11, 3) := by decide +kernel
theorem dX12_crash_4 : decode cX12_crash 4 = .ok (.iload_n 1, 1) := by decide +kernel
theorem dX12_crash_5 : decode cX12_crash 5 = .ok (.aload_n 0, 1) := by decide +kernel
theorem dX12_crash_6 : decode cX12_crash 6 = .ok (.getfield 271, 3) := by decide +kernel
theorem dX12_crash_9 : decode cX12_crash 9 = .ok (.if_icmp .le 5, 3) := by decide +kernel
theorem dX12_crash_12 : decode cX12_crash 12 = .ok (.iconst (-1), 1) := by decide +kernel
theorem dX12_crash_13 : decode cX12_crash 13 = .ok (.ireturn, 1) := by decide +kernel
theorem dX12_crash_14 : decode cX12_crash 14 = .ok (.aload_n 0, 1) := by decide +kernel
theorem dX12_crash_15 : decode cX12_crash 15 = .ok (.getfield 271, 3) := by decide +kernel
theorem dX12_crash_18 : decode cX12_crash 18 = .ok (.istore_n 2, 1) := by decide +kernel
theorem dX12_crash_19 : decode cX12_crash 19 = .ok (.aload_n 0, 1) := by decide +kernel
theorem dX12_crash_20 : decode cX12_crash 20 = .ok (.iload_n 1, 1) := by decide +kernel
theorem dX12_crash_21 : decode cX12_crash 21 = .ok (.iconst 0, 1) := by decide +kernel
theorem dX12_crash_22 : decode cX12_crash 22 = .ok (.invokevirtual 281, 3) := by decide +kernel
theorem dX12_crash_25 : decode cX12_crash 25 = .ok (.aload_n 0, 1) := by decide +kernel
theorem dX12_crash_26 : decode cX12_crash 26 = .ok (.invokevirtual 258, 3) := by decide +kernel
theorem dX12_crash_29 : decode cX12_crash 29 = .ok (.iload_n 2, 1) := by decide +kernel
theorem dX12_crash_30 : decode cX12_crash 30 = .ok (.ireturn, 1) := by decide +kernel
set_option maxRecDepth 100000 in
set_option maxHeartbeats 4000000 in
theorem c_X12_crash (l : Launch) (D : va_G) (t : Nat → ClassId) (h0 : Nat) (L : Nat → Nat) (σ : HS) (hO : OK ph τ0 σ) (hM : MdI h0 L σ) (k : Int32) (hR : RF L σ) (sz : Nat) : HMi ph τ0 l D t yX12_crash cX12_crash 3 (some .int) ({ frames := 3, cells := 0, slots := 0, locals := 100 }) σ sz [.ref h0, .int k] 0 0 (fun r σ' => MdI h0 L σ' ∧ Fr h0 L [16, 59, 60, 61, 62, 63, 69] [1, 2, 3, 4, 5, 6, 7, 8, 9, 10, 25, 28, 34, 38, 41] σ σ' ∧ ((sI σ' h0 16).toInt ≤ 7 ∨ (sI σ' h0 16).toInt = (sI σ h0 16).toInt)) := by
  refine h_go hO (by decide) (Nat.le_of_ble_eq_true rfl) ?_
  intro p e s m below meth c ls A hF hr hlk hAe hH0 hA hl
  unfold hB
  rw [hAe]
  clear hAe
  have hF : FX p m c cX12_crash 3 s _ RX12 D t := hF
  have hx := hF.1.1
  have hb := hF.1.2.1
  have hH : MT D t A s.heap h0 L σ s.heap [] := ⟨hH0, hM⟩
  have hle : HLe σ σ := HLe.rf
  have hfr : Fr h0 L [16, 59, 60, 61, 62, 63, 69] [1, 2, 3, 4, 5, 6, 7, 8, 9, 10, 25, 28, 34, 38, 41] σ σ := Fr.rf
  have k_m1 : ((-1) : Int32).toInt = (-1) := rfl
  have k_0 : (0 : Int32).toInt = 0 := rfl
  have rg_1 := i_range k
  have hl : lv_has ls 3 [(0, .ref h0), (1, .int k)] := hl
  have rf_16 : (0 : Int) ≤ (sI σ h0 16).toInt ∧ (sI σ h0 16).toInt ≤ 8 := m_fld hH 16 (by decide) rfl
  refine lv_iload_n hx hb dX12_crash_0 rfl (lv_at hl 1 rfl) ?_
  refine lv_if_lt (tgt := 12) hx hb dX12_crash_1 rfl (fun h806 => ?_) (fun h806 => ?_)
  · have ch806 := i_lt h806
    refine lv_iconst (v := (-1)) hx hb dX12_crash_12 (by decide) ?_
    exact h_reti hF hr hlk rfl dX12_crash_13 hH.1 hle ⟨hH.2, hfr, by (try dsimp only); omega⟩
  · have ch806 := i_nlt h806
    refine lv_iload_n hx hb dX12_crash_4 rfl (lv_at hl 1 rfl) ?_
    refine lv_aload_n hx hb dX12_crash_5 rfl (lv_at hl 0 rfl) ?_
    refine m_getI hF hH fk_X12_271 dX12_crash_6 0 8 rfl rfl (fun z807 ez807 vz807 => ?_)
    have wz807 := i_eq ez807
    refine lv_icmp_le (tgt := 14) hx hb dX12_crash_9 rfl (fun h808 => ?_) (fun h808 => ?_)
    · have ch808 := i_le h808
      refine lv_aload_n hx hb dX12_crash_14 rfl (lv_at hl 0 rfl) ?_
      refine m_getI hF hH fk_X12_271 dX12_crash_15 0 8 rfl rfl (fun z809 ez809 vz809 => ?_)
      have wz809 := i_eq ez809
      refine lv_istore_n (lv' := [(2, .int z809), (0, .ref h0), (1, .int k)]) hx hb dX12_crash_18 rfl hl (by decide) rfl (fun ls hl => ?_)
      refine lv_aload_n hx hb dX12_crash_19 rfl (lv_at hl 1 rfl) ?_
      refine lv_iload_n hx hb dX12_crash_20 rfl (lv_at hl 2 rfl) ?_
      refine lv_iconst (v := 0) hx hb dX12_crash_21 (by decide) ?_
      refine m_cVv (As := [.int k, .int 0]) (rest := []) hF hH hA mv_X12_281 (fun sz => c_X12_come l D t h0 L _ hH.1.2.2.2 hH.2 k 0 hR (by omega) sz) dX12_crash_22 rfl rfl (by decide) rfl hl.1 (Nat.le_of_ble_eq_true rfl) (by decide) rfl (fun σ811 H locs lσ811 pz810 hH => ?_)
      obtain ⟨fz810, pz810⟩ := pz810
      have hle := hle.tr lσ811
      have hfr := hfr.tr fz810 (by decide) (by decide)
      refine lv_aload_n hx hb dX12_crash_25 rfl (lv_at hl 1 rfl) ?_
      refine m_cVv (As := []) (rest := []) hF hH hA mv_X12_258 (fun sz => c_X12_begin l D t h0 L _ hH.1.2.2.2 hH.2   sz) dX12_crash_26 rfl rfl (by decide) rfl hl.1 (Nat.le_of_ble_eq_true rfl) (by decide) rfl (fun σ813 H locs lσ813 pz812 hH => ?_)
      obtain ⟨fz812, pz812⟩ := pz812
      have hle := hle.tr lσ813
      have hfr := hfr.tr fz812 (by decide) (by decide)
      refine lv_iload_n hx hb dX12_crash_29 rfl (lv_at hl 0 rfl) ?_
      exact h_reti hF hr hlk rfl dX12_crash_30 hH.1 hle ⟨hH.2, hfr, by (try dsimp only); omega⟩
    · have ch808 := i_nle h808
      refine lv_iconst (v := (-1)) hx hb dX12_crash_12 (by decide) ?_
      exact h_reti hF hr hlk rfl dX12_crash_13 hH.1 hle ⟨hH.2, hfr, by (try dsimp only); omega⟩
theorem dX12_told_0 : decode cX12_told 0 = .ok (.iload_n 1, 1) := by decide +kernel
theorem dX12_told_1 : decode cX12_told 1 = .ok (.tableswitch 112 0 8 #[51, 57, 62, 68, 77, 82, 87, 96, 105], 51) := by decide +kernel
theorem dX12_told_52 : decode cX12_told 52 = .ok (.aload_n 0, 1) := by decide +kernel
theorem dX12_told_53 : decode cX12_told 53 = .ok (.getfield 322, 3) := by decide +kernel
theorem dX12_told_56 : decode cX12_told 56 = .ok (.l2i, 1) := by decide +kernel
theorem dX12_told_57 : decode cX12_told 57 = .ok (.ireturn, 1) := by decide +kernel
theorem dX12_told_58 : decode cX12_told 58 = .ok (.aload_n 0, 1) := by decide +kernel
theorem dX12_told_59 : decode cX12_told 59 = .ok (.getfield 271, 3) := by decide +kernel
theorem dX12_told_62 : decode cX12_told 62 = .ok (.ireturn, 1) := by decide +kernel
theorem dX12_told_63 : decode cX12_told 63 = .ok (.aload_n 0, 1) := by decide +kernel
theorem dX12_told_64 : decode cX12_told 64 = .ok (.iconst 0, 1) := by decide +kernel
theorem dX12_told_65 : decode cX12_told 65 = .ok (.invokevirtual 315, 3) := by decide +kernel
theorem dX12_told_68 : decode cX12_told 68 = .ok (.ireturn, 1) := by decide +kernel
theorem dX12_told_69 : decode cX12_told 69 = .ok (.aload_n 0, 1) := by decide +kernel
theorem dX12_told_70 : decode cX12_told 70 = .ok (.aload_n 0, 1) := by decide +kernel
theorem dX12_told_71 : decode cX12_told 71 = .ok (.getfield 139, 3) := by decide +kernel
theorem dX12_told_74 : decode cX12_told 74 = .ok (.invokevirtual 688, 3) := by decide +kernel
theorem dX12_told_77 : decode cX12_told 77 = .ok (.ireturn, 1) := by decide +kernel
theorem dX12_told_78 : decode cX12_told 78 = .ok (.aload_n 0, 1) := by decide +kernel
theorem dX12_told_79 : decode cX12_told 79 = .ok (.getfield 289, 3) := by decide +kernel
theorem dX12_told_82 : decode cX12_told 82 = .ok (.ireturn, 1) := by decide +kernel
theorem dX12_told_83 : decode cX12_told 83 = .ok (.aload_n 0, 1) := by decide +kernel
theorem dX12_told_84 : decode cX12_told 84 = .ok (.getfield 292, 3) := by decide +kernel
theorem dX12_told_87 : decode cX12_told 87 = .ok (.ireturn, 1) := by decide +kernel
theorem dX12_told_88 : decode cX12_told 88 = .ok (.aload_n 0, 1) := by decide +kernel
theorem dX12_told_89 : decode cX12_told 89 = .ok (.aload_n 0, 1) := by decide +kernel
theorem dX12_told_90 : decode cX12_told 90 = .ok (.getfield 118, 3) := by decide +kernel
theorem dX12_told_93 : decode cX12_told 93 = .ok (.invokevirtual 688, 3) := by decide +kernel
theorem dX12_told_96 : decode cX12_told 96 = .ok (.ireturn, 1) := by decide +kernel
theorem dX12_told_97 : decode cX12_told 97 = .ok (.aload_n 0, 1) := by decide +kernel
theorem dX12_told_98 : decode cX12_told 98 = .ok (.aload_n 0, 1) := by decide +kernel
theorem dX12_told_99 : decode cX12_told 99 = .ok (.getfield 130, 3) := by decide +kernel
theorem dX12_told_102 : decode cX12_told 102 = .ok (.invokevirtual 688, 3) := by decide +kernel
theorem dX12_told_105 : decode cX12_told 105 = .ok (.ireturn, 1) := by decide +kernel
theorem dX12_told_106 : decode cX12_told 106 = .ok (.aload_n 0, 1) := by decide +kernel
theorem dX12_told_107 : decode cX12_told 107 = .ok (.bipush 80, 2) := by decide +kernel
theorem dX12_told_109 : decode cX12_told 109 = .ok (.invokevirtual 315, 3) := by decide +kernel
theorem dX12_told_112 : decode cX12_told 112 = .ok (.ireturn, 1) := by decide +kernel
theorem dX12_told_113 : decode cX12_told 113 = .ok (.iconst (-1), 1) := by decide +kernel
theorem dX12_told_114 : decode cX12_told 114 = .ok (.ireturn, 1) := by decide +kernel
set_option maxRecDepth 100000 in
set_option maxHeartbeats 4000000 in
theorem c_X12_told (l : Launch) (D : va_G) (t : Nat → ClassId) (h0 : Nat) (L : Nat → Nat) (σ : HS) (hO : OK ph τ0 σ) (hM : MdI h0 L σ) (k : Int32) (sz : Nat) : HMi ph τ0 l D t yX12_told cX12_told 2 (some .int) ({ frames := 1, cells := 0, slots := 0, locals := 23 }) σ sz [.ref h0, .int k] 0 0 (fun r σ' => MdI h0 L σ' ∧ σ' = σ ∧ (True)) := by
  refine h_go hO (by decide) (Nat.le_of_ble_eq_true rfl) ?_
  intro p e s m below meth c ls A hF hr hlk hAe hH0 hA hl
  unfold hB
  rw [hAe]
  clear hAe
  have hF : FX p m c cX12_told 2 s _ RX12 D t := hF
  have hx := hF.1.1
  have hb := hF.1.2.1
  have hH : MT D t A s.heap h0 L σ s.heap [] := ⟨hH0, hM⟩
  have hle : HLe σ σ := HLe.rf
  have k_m1 : ((-1) : Int32).toInt = (-1) := rfl
  have k_0 : (0 : Int32).toInt = 0 := rfl
  have k_80 : (80 : Int32).toInt = 80 := rfl
  have rg_1 := i_range k
  have hl : lv_has ls 2 [(0, .ref h0), (1, .int k)] := hl
  refine lv_iload_n hx hb dX12_told_0 rfl (lv_at hl 1 rfl) ?_
  by_cases hlo : k.toInt < 0
  · refine lv_tableOut (tgt := 113) hx hb dX12_told_1 (Or.inl hlo) rfl ?_
    refine lv_iconst (v := (-1)) hx hb dX12_told_113 (by decide) ?_
    exact h_reti hF hr hlk rfl dX12_told_114 hH.1 hle ⟨hH.2, rfl, trivial⟩
  · by_cases hhi : 8 < k.toInt
    · refine lv_tableOut (tgt := 113) hx hb dX12_told_1 (Or.inr hhi) rfl ?_
      refine lv_iconst (v := (-1)) hx hb dX12_told_113 (by decide) ?_
      exact h_reti hF hr hlk rfl dX12_told_114 hH.1 hle ⟨hH.2, rfl, trivial⟩
    · rcases (show k.toInt = 0 ∨ k.toInt = 1 ∨ k.toInt = 2 ∨ k.toInt = 3 ∨ k.toInt = 4 ∨ k.toInt = 5 ∨ k.toInt = 6 ∨ k.toInt = 7 ∨ k.toInt = 8 by omega) with z | z | z | z | z | z | z | z | z
      · have hk : k = 0 := Int32.toInt_inj.mp z
        subst hk
        refine lv_tableIn (off := 51) (tgt := 52) hx hb dX12_told_1 (by decide) (by decide) rfl rfl ?_
        have hl : lv_has ls 2 [(0, .ref h0)] := lv_sub hl [0] rfl
        refine lv_aload_n hx hb dX12_told_52 rfl (lv_at hl 0 rfl) ?_
        refine m_getJ hF hH fk_X12_322 dX12_told_53 (fun z814 ez814 => ?_)
        refine lv_l2i hx hb dX12_told_56 rfl ?_
        refine lv_topi (fun z815 ez815 => ?_)
        try have hz815 := l_toi ez815 (by omega) (by omega)
        exact h_reti hF hr hlk rfl dX12_told_57 hH.1 hle ⟨hH.2, rfl, trivial⟩
      · have hk : k = 1 := Int32.toInt_inj.mp z
        subst hk
        refine lv_tableIn (off := 57) (tgt := 58) hx hb dX12_told_1 (by decide) (by decide) rfl rfl ?_
        have hl : lv_has ls 2 [(0, .ref h0)] := lv_sub hl [0] rfl
        refine lv_aload_n hx hb dX12_told_58 rfl (lv_at hl 0 rfl) ?_
        refine m_getI hF hH fk_X12_271 dX12_told_59 0 8 rfl rfl (fun z816 ez816 vz816 => ?_)
        have wz816 := i_eq ez816
        exact h_reti hF hr hlk rfl dX12_told_62 hH.1 hle ⟨hH.2, rfl, trivial⟩
      · have hk : k = 2 := Int32.toInt_inj.mp z
        subst hk
        refine lv_tableIn (off := 62) (tgt := 63) hx hb dX12_told_1 (by decide) (by decide) rfl rfl ?_
        have hl : lv_has ls 2 [(0, .ref h0)] := lv_sub hl [0] rfl
        refine lv_aload_n hx hb dX12_told_63 rfl (lv_at hl 0 rfl) ?_
        refine lv_iconst (v := 0) hx hb dX12_told_64 (by decide) ?_
        refine m_cVi (As := [.int 0]) (rest := []) hF hH hA mv_X12_315 (fun sz => c_X12_nodes l D t h0 L _ hH.1.2.2.2 hH.2 0 (by omega) sz) dX12_told_65 rfl rfl (by decide) rfl hl.1 (Nat.le_of_ble_eq_true rfl) (by decide) rfl (fun z817 σ818 H locs lσ818 pz817 hH => ?_)
        obtain ⟨fz817, pz817⟩ := pz817
        have fz817 := fz817.symm
        subst fz817
        exact h_reti hF hr hlk rfl dX12_told_68 hH.1 hle ⟨hH.2, rfl, trivial⟩
      · have hk : k = 3 := Int32.toInt_inj.mp z
        subst hk
        refine lv_tableIn (off := 68) (tgt := 69) hx hb dX12_told_1 (by decide) (by decide) rfl rfl ?_
        have hl : lv_has ls 2 [(0, .ref h0)] := lv_sub hl [0] rfl
        refine lv_aload_n hx hb dX12_told_69 rfl (lv_at hl 0 rfl) ?_
        refine lv_aload_n hx hb dX12_told_70 rfl (lv_at hl 0 rfl) ?_
        refine m_getA 41 hF hH fk_X12_139 dX12_told_71 (by decide) rfl ?_
        refine m_cVi (As := [.ref (L 41)]) (rest := []) hF hH hA mv_X12_688 (fun sz => c_X12_count l D t h0 L _ hH.1.2.2.2 hH.2  41 40 (by decide) rfl rfl (by decide) sz) dX12_told_74 rfl rfl (by decide) rfl hl.1 (Nat.le_of_ble_eq_true rfl) (by decide) rfl (fun z819 σ820 H locs lσ820 pz819 hH => ?_)
        obtain ⟨fz819, pz819⟩ := pz819
        have fz819 := fz819.symm
        subst fz819
        exact h_reti hF hr hlk rfl dX12_told_77 hH.1 hle ⟨hH.2, rfl, trivial⟩
      · have hk : k = 4 := Int32.toInt_inj.mp z
        subst hk
        refine lv_tableIn (off := 77) (tgt := 78) hx hb dX12_told_1 (by decide) (by decide) rfl rfl ?_
        have hl : lv_has ls 2 [(0, .ref h0)] := lv_sub hl [0] rfl
        refine lv_aload_n hx hb dX12_told_78 rfl (lv_at hl 0 rfl) ?_
        refine m_getI hF hH fk_X12_289 dX12_told_79 0 80 rfl rfl (fun z821 ez821 vz821 => ?_)
        have wz821 := i_eq ez821
        exact h_reti hF hr hlk rfl dX12_told_82 hH.1 hle ⟨hH.2, rfl, trivial⟩
      · have hk : k = 5 := Int32.toInt_inj.mp z
        subst hk
        refine lv_tableIn (off := 82) (tgt := 83) hx hb dX12_told_1 (by decide) (by decide) rfl rfl ?_
        have hl : lv_has ls 2 [(0, .ref h0)] := lv_sub hl [0] rfl
        refine lv_aload_n hx hb dX12_told_83 rfl (lv_at hl 0 rfl) ?_
        refine m_getI hF hH fk_X12_292 dX12_told_84 0 16 rfl rfl (fun z822 ez822 vz822 => ?_)
        have wz822 := i_eq ez822
        exact h_reti hF hr hlk rfl dX12_told_87 hH.1 hle ⟨hH.2, rfl, trivial⟩
      · have hk : k = 6 := Int32.toInt_inj.mp z
        subst hk
        refine lv_tableIn (off := 87) (tgt := 88) hx hb dX12_told_1 (by decide) (by decide) rfl rfl ?_
        have hl : lv_has ls 2 [(0, .ref h0)] := lv_sub hl [0] rfl
        refine lv_aload_n hx hb dX12_told_88 rfl (lv_at hl 0 rfl) ?_
        refine lv_aload_n hx hb dX12_told_89 rfl (lv_at hl 0 rfl) ?_
        refine m_getA 34 hF hH fk_X12_118 dX12_told_90 (by decide) rfl ?_
        refine m_cVi (As := [.ref (L 34)]) (rest := []) hF hH hA mv_X12_688 (fun sz => c_X12_count l D t h0 L _ hH.1.2.2.2 hH.2  34 8 (by decide) rfl rfl (by decide) sz) dX12_told_93 rfl rfl (by decide) rfl hl.1 (Nat.le_of_ble_eq_true rfl) (by decide) rfl (fun z823 σ824 H locs lσ824 pz823 hH => ?_)
        obtain ⟨fz823, pz823⟩ := pz823
        have fz823 := fz823.symm
        subst fz823
        exact h_reti hF hr hlk rfl dX12_told_96 hH.1 hle ⟨hH.2, rfl, trivial⟩
      · have hk : k = 7 := Int32.toInt_inj.mp z
        subst hk
        refine lv_tableIn (off := 96) (tgt := 97) hx hb dX12_told_1 (by decide) (by decide) rfl rfl ?_
        have hl : lv_has ls 2 [(0, .ref h0)] := lv_sub hl [0] rfl
        refine lv_aload_n hx hb dX12_told_97 rfl (lv_at hl 0 rfl) ?_
        refine lv_aload_n hx hb dX12_told_98 rfl (lv_at hl 0 rfl) ?_
        refine m_getA 38 hF hH fk_X12_130 dX12_told_99 (by decide) rfl ?_
        refine m_cVi (As := [.ref (L 38)]) (rest := []) hF hH hA mv_X12_688 (fun sz => c_X12_count l D t h0 L _ hH.1.2.2.2 hH.2  38 16 (by decide) rfl rfl (by decide) sz) dX12_told_102 rfl rfl (by decide) rfl hl.1 (Nat.le_of_ble_eq_true rfl) (by decide) rfl (fun z825 σ826 H locs lσ826 pz825 hH => ?_)
        obtain ⟨fz825, pz825⟩ := pz825
        have fz825 := fz825.symm
        subst fz825
        exact h_reti hF hr hlk rfl dX12_told_105 hH.1 hle ⟨hH.2, rfl, trivial⟩
      · have hk : k = 8 := Int32.toInt_inj.mp z
        subst hk
        refine lv_tableIn (off := 105) (tgt := 106) hx hb dX12_told_1 (by decide) (by decide) rfl rfl ?_
        have hl : lv_has ls 2 [(0, .ref h0)] := lv_sub hl [0] rfl
        refine lv_aload_n hx hb dX12_told_106 rfl (lv_at hl 0 rfl) ?_
        refine lv_bipush (v := 80) hx hb dX12_told_107 (by decide) ?_
        refine m_cVi (As := [.int 80]) (rest := []) hF hH hA mv_X12_315 (fun sz => c_X12_nodes l D t h0 L _ hH.1.2.2.2 hH.2 80 (by omega) sz) dX12_told_109 rfl rfl (by decide) rfl hl.1 (Nat.le_of_ble_eq_true rfl) (by decide) rfl (fun z827 σ828 H locs lσ828 pz827 hH => ?_)
        obtain ⟨fz827, pz827⟩ := pz827
        have fz827 := fz827.symm
        subst fz827
        exact h_reti hF hr hlk rfl dX12_told_112 hH.1 hle ⟨hH.2, rfl, trivial⟩

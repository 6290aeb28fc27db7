/-! the reference, lifted: 13 -/
def F_X12_message (h0 : Nat) (L : Nat → Nat) (a1 : Int32) (a2 : Int32) (a3 : Int32) (post : HS → Prop) (σ : HS) : Prop := ∀ σ1 : HS, σ1 = h_uI σ h0 88 a1 → (0 ≤ (0 : Int32).toInt ∧ (0 : Int32).toInt ≤ 1) ∧ ∀ σ2 : HS, σ2 = h_uI σ1 h0 92 0 → ∀ σ3 : HS, σ3 = h_uI σ2 h0 110 0 → (0 ≤ (0 : Int32).toInt ∧ (0 : Int32).toInt ≤ 1) ∧ ∀ σ4 : HS, σ4 = h_uI σ3 h0 108 0 → ∀ σ5 : HS, σ5 = h_uJ σ4 h0 104 0 → ∀ σ6 : HS, σ6 = h_uJ σ5 h0 105 0 → lw (fun (K9 : (Int32 × Int32 × Int32) → HS → Prop) (x7 : Int32 × Int32 × Int32) (σ8 : HS) => jn (fun (K13 : Unit → HS → Prop) => ((x7.1.toInt = 0) → K13 () σ8) ∧ ((¬ x7.1.toInt = 0) → ∀ z27 : Int32, z27 = sI σ8 h0 92 → ((¬ z27.toInt = 0) → K13 () σ8) ∧ ((z27.toInt = 0) → ∀ σ28 : HS, σ28 = h_uP σ8 h0 85 (some (L 29)) → ∀ z29 : Int32, z29 = a2 + x7.2.2 → ∀ σ30 : HS, σ30 = h_uI σ28 h0 86 z29 → ∀ z31 : Int32, z31 = a3 - x7.2.2 → jn (fun (K34 : Unit → HS → Prop) => ((z31.toInt < (64 : Int32).toInt) → K34 () σ30) ∧ (((64 : Int32).toInt ≤ z31.toInt) → F_X12_headerGood h0 L z31 (fun (z39 : Int32) (σ38 : HS) => ((¬ z39.toInt = 0) → F_X12_number h0 L 20 4 (fun (z41 : Int64) (σ40 : HS) => jn (fun (K44 : Int32 → HS → Prop) => ((¬ z41.toInt = (0 : Int64).toInt) → ∀ z140 : Int32, z140 = (z41 : Int64).toInt32 → K44 z140 σ40) ∧ ((z41.toInt = (0 : Int64).toInt) → K44 z31 σ40)) (fun (x42 : Int32) (σ43 : HS) => ∀ σ47 : HS, σ47 = h_uI σ43 h0 87 x42 → jn (fun (K50 : Int32 → HS → Prop) => ((¬ z41.toInt = (0 : Int64).toInt) → K50 0 σ47) ∧ ((z41.toInt = (0 : Int64).toInt) → K50 1 σ47)) (fun (x48 : Int32) (σ49 : HS) => (0 ≤ x48.toInt ∧ x48.toInt ≤ 1) ∧ ∀ σ53 : HS, σ53 = h_uI σ49 h0 95 x48 → ∀ z54 : Int32, z54 = sI σ53 h0 95 → jn (fun (K57 : Int32 → HS → Prop) => ((¬ z54.toInt = 0) → K57 0 σ53) ∧ ((z54.toInt = 0) → K57 1 σ53)) (fun (x55 : Int32) (σ56 : HS) => F_X12_number h0 L 16 4 (fun (z61 : Int64) (σ60 : HS) => ∀ z62 : Int64, z62 = z61 &&& 4 → jn (fun (K65 : Int32 → HS → Prop) => ((z62.toInt = (0 : Int64).toInt) → K65 0 σ60) ∧ ((¬ z62.toInt = (0 : Int64).toInt) → K65 1 σ60)) (fun (x63 : Int32) (σ64 : HS) => (0 ≤ x63.toInt ∧ x63.toInt ≤ 1) ∧ ∀ σ68 : HS, σ68 = h_uI σ64 h0 94 x63 → F_X12_number2 h0 L 12 (fun (z70 : Int32) (σ69 : HS) => ∀ σ71 : HS, σ71 = h_uI σ69 h0 93 z70 → F_X12_number h0 L 24 8 (fun (z73 : Int64) (σ72 : HS) => ∀ z74 : Int32, z74 = sI σ72 h0 93 → jn (fun (K77 : Int32 → HS → Prop) => ((¬ z74.toInt = 0) → (0 ≤ a1.toInt ∧ a1.toInt < 6) ∧ ∀ z138 : Int32, z138 = sI σ72 (L 26) a1.toInt.toNat → K77 z138 σ72) ∧ ((z74.toInt = 0) → (0 ≤ a1.toInt ∧ a1.toInt < 6) ∧ ∀ z139 : Int32, z139 = sI σ72 (L 26) a1.toInt.toNat → ((¬ z139.toInt = 0) → K77 0 σ72) ∧ ((z139.toInt = 0) → K77 1 σ72))) (fun (x75 : Int32) (σ76 : HS) => ∀ z80 : Int32, z80 = sI σ76 h0 94 → jn (fun (K83 : Unit → HS → Prop) => jn (fun (K89 : Unit → HS → Prop) => ((z80.toInt = 0) → K89 () σ76) ∧ ((¬ z80.toInt = 0) → ((x7.2.2.toInt = 0) → K83 () σ76) ∧ ((¬ x7.2.2.toInt = 0) → K89 () σ76))) (fun (x87 : Unit) (σ88 : HS) => ∀ z92 : Int32, z92 = sI σ88 h0 93 → jn (fun (K95 : Unit → HS → Prop) => ((z92.toInt = (12 : Int32).toInt) → K95 () σ88) ∧ ((¬ z92.toInt = (12 : Int32).toInt) → F_X12_takeId h0 L a1 z73 (fun (z137 : Int32) (σ136 : HS) => ((z137.toInt = 0) → K83 () σ136) ∧ ((¬ z137.toInt = 0) → K95 () σ136)) σ88)) (fun (x93 : Unit) (σ94 : HS) => ((¬ x75.toInt = 0) → ∀ z98 : Int32, z98 = sI σ94 h0 93 → jn (fun (K101 : Unit → HS → Prop) => ((z98.toInt = (12 : Int32).toInt) → K101 () σ94) ∧ ((¬ z98.toInt = (12 : Int32).toInt) → ((x7.2.1.toInt < 0) → K101 () σ94) ∧ ((0 ≤ x7.2.1.toInt) → ∀ z121 : Int32, z121 = sI σ94 h0 110 → lw (fun (K124 : Int32 → HS → Prop) (x122 : Int32) (σ123 : HS) => ∀ z126 : Int32, z126 = x122 - x7.2.1 → ∀ z127 : Int32, z127 = z126 - z126 / 8 * 8 → ((z127.toInt = 0) → ∀ σ128 : HS, σ128 = h_uI σ123 h0 90 x7.2.1 → ∀ z129 : Int32, z129 = x122 - x7.2.1 → ∀ z130 : Int64, z130 = (z129 : Int32).toInt64 → F_X12_set h0 L 20 4 z130 (fun (σ131 : HS) => ∀ σ133 : HS, σ133 = h_uI σ131 h0 110 x122 → K101 () σ133) σ128) ∧ ((¬ z127.toInt = 0) → (0 ≤ x122.toInt ∧ x122.toInt < 90000) ∧ ∀ σ134 : HS, σ134 = h_uI σ123 (L 76) x122.toInt.toNat (vp_nar .byte 0) → ∀ z135 : Int32, z135 = x122 + 1 → K124 z135 σ134)) z121 σ94))) (fun (x99 : Unit) (σ100 : HS) => ∀ z104 : Int32, z104 = sI σ100 h0 110 → ∀ σ105 : HS, σ105 = h_uI σ100 h0 90 z104 → F_X12_request h0 L a1 z73 (fun (σ106 : HS) => ∀ z108 : Int32, z108 = sI σ106 h0 93 → jn (fun (K111 : Int32 → HS → Prop) => ((z108.toInt = (12 : Int32).toInt) → K111 x7.2.1 σ106) ∧ ((¬ z108.toInt = (12 : Int32).toInt) → ∀ z116 : Int32, z116 = sI σ106 h0 90 → ∀ z117 : Int32, z117 = sI σ106 h0 90 → ∀ z118 : Int32, z118 = sI σ106 h0 91 → ∀ z119 : Int32, z119 = z117 + z118 → ∀ σ120 : HS, σ120 = h_uI σ106 h0 110 z119 → K111 z116 σ120)) (fun (x109 : Int32) (σ110 : HS) => ∀ z114 : Int32, z114 = sI σ110 h0 87 → ∀ z115 : Int32, z115 = x7.2.2 + z114 → K9 (x55, x109, z115) σ110)) σ105)) ∧ ((x75.toInt = 0) → K83 () σ94)))) (fun (x81 : Unit) (σ82 : HS) => (0 ≤ (1 : Int32).toInt ∧ (1 : Int32).toInt ≤ 1) ∧ ∀ σ86 : HS, σ86 = h_uI σ82 h0 92 1 → K13 () σ86))) σ71) σ68)) σ56)))) σ38) ∧ ((z39.toInt = 0) → K34 () σ38)) σ30)) (fun (x32 : Unit) (σ33 : HS) => (0 ≤ (1 : Int32).toInt ∧ (1 : Int32).toInt ≤ 1) ∧ ∀ σ37 : HS, σ37 = h_uI σ33 h0 92 1 → K13 () σ37)))) (fun (x11 : Unit) (σ12 : HS) => ∀ z16 : Int32, z16 = sI σ12 h0 92 → jn (fun (K19 : Unit → HS → Prop) => ((z16.toInt = 0) → ((x7.2.1.toInt < 0) → K19 () σ12) ∧ ((0 ≤ x7.2.1.toInt) → ∀ z22 : Int32, z22 = sI σ12 h0 110 → F_X12_send h0 L a1 0 z22 (fun (σ23 : HS) => K19 () σ23) σ12)) ∧ ((¬ z16.toInt = 0) → F_X12_drops h0 L a1 (fun (σ25 : HS) => K19 () σ25) σ12)) (fun (x17 : Unit) (σ18 : HS) => post σ18))) (1, (-1), 0) σ6
theorem dX12_message_0 : decode cX12_message 0 = .ok (.aload_n 0, 1) := by decide +kernel
theorem dX12_message_1 : decode cX12_message 1 = .ok (.iload_n 1, 1) := by decide +kernel
theorem dX12_message_2 : decode cX12_message 2 = .ok (.putfield 382, 3) := by decide +kernel
theorem dX12_message_5 : decode cX12_message 5 = .ok (.aload_n 0, 1) := by decide +kernel
theorem dX12_message_6 : decode cX12_message 6 = .ok (.iconst 0, 1) := by decide +kernel
theorem dX12_message_7 : decode cX12_message 7 = .ok (.putfield 385, 3) := by decide +kernel
theorem dX12_message_10 : decode cX12_message 10 = .ok (.aload_n 0, 1) := by decide +kernel
theorem dX12_message_11 : decode cX12_message 11 = .ok (.iconst 0, 1) := by decide +kernel
theorem dX12_message_12 : decode cX12_message 12 = .ok (.putfield 389, 3) := by decide +kernel
theorem dX12_message_15 : decode cX12_message 15 = .ok (.aload_n 0, 1) := by decide +kernel
theorem dX12_message_16 : decode cX12_message 16 = .ok (.iconst 0, 1) := by decide +kernel
theorem dX12_message_17 : decode cX12_message 17 = .ok (.putfield 392, 3) := by decide +kernel
theorem dX12_message_20 : decode cX12_message 20 = .ok (.aload_n 0, 1) := by decide +kernel
theorem dX12_message_21 : decode cX12_message 21 = .ok (.lconst 0, 1) := by decide +kernel
theorem dX12_message_22 : decode cX12_message 22 = .ok (.putfield 395, 3) := by decide +kernel
theorem dX12_message_25 : decode cX12_message 25 = .ok (.aload_n 0, 1) := by decide +kernel
theorem dX12_message_26 : decode cX12_message 26 = .ok (.lconst 0, 1) := by decide +kernel
theorem dX12_message_27 : decode cX12_message 27 = .ok (.putfield 398, 3) := by decide +kernel
theorem dX12_message_30 : decode cX12_message 30 = .ok (.iconst 0, 1) := by decide +kernel
theorem dX12_message_31 : decode cX12_message 31 = .ok (.istore 4, 2) := by decide +kernel
theorem dX12_message_33 : decode cX12_message 33 = .ok (.iconst (-1), 1) := by decide +kernel
theorem dX12_message_34 : decode cX12_message 34 = .ok (.istore 5, 2) := by decide +kernel
theorem dX12_message_36 : decode cX12_message 36 = .ok (.iconst 1, 1) := by decide +kernel
theorem dX12_message_37 : decode cX12_message 37 = .ok (.istore 6, 2) := by decide +kernel
theorem dX12_message_39 : decode cX12_message 39 = .ok (.iload 6, 2) := by decide +kernel
theorem dX12_message_41 : decode cX12_message 41 = .ok (.ifCond .eq 360, 3) := by decide +kernel
theorem dX12_message_44 : decode cX12_message 44 = .ok (.aload_n 0, 1) := by decide +kernel
theorem dX12_message_45 : decode cX12_message 45 = .ok (.getfield 385, 3) := by decide +kernel
theorem dX12_message_48 : decode cX12_message 48 = .ok (.ifCond .ne 353, 3) := by decide +kernel
theorem dX12_message_51 : decode cX12_message 51 = .ok (.aload_n 0, 1) := by decide +kernel
theorem dX12_message_52 : decode cX12_message 52 = .ok (.aload_n 0, 1) := by decide +kernel
theorem dX12_message_53 : decode cX12_message 53 = .ok (.getfield 103, 3) := by decide +kernel
theorem dX12_message_56 : decode cX12_message 56 = .ok (.putfield 356, 3) := by decide +kernel
theorem dX12_message_59 : decode cX12_message 59 = .ok (.aload_n 0, 1) := by decide +kernel
theorem dX12_message_60 : decode cX12_message 60 = .ok (.iload_n 2, 1) := by decide +kernel
theorem dX12_message_61 : decode cX12_message 61 = .ok (.iload 4, 2) := by decide +kernel
theorem dX12_message_63 : decode cX12_message 63 = .ok (.iadd, 1) := by decide +kernel
theorem dX12_message_64 : decode cX12_message 64 = .ok (.putfield 359, 3) := by decide +kernel
theorem dX12_message_67 : decode cX12_message 67 = .ok (.iload_n 3, 1) := by decide +kernel
theorem dX12_message_68 : decode cX12_message 68 = .ok (.iload 4, 2) := by decide +kernel
theorem dX12_message_70 : decode cX12_message 70 = .ok (.isub, 1) := by decide +kernel
theorem dX12_message_71 : decode cX12_message 71 = .ok (.istore 7, 2) := by decide +kernel
theorem dX12_message_73 : decode cX12_message 73 = .ok (.iload 7, 2) := by decide +kernel
theorem dX12_message_75 : decode cX12_message 75 = .ok (.bipush 64, 2) := by decide +kernel
theorem dX12_message_77 : decode cX12_message 77 = .ok (.if_icmp .lt 12, 3) := by decide +kernel
theorem dX12_message_80 : decode cX12_message 80 = .ok (.aload_n 0, 1) := by decide +kernel
theorem dX12_message_81 : decode cX12_message 81 = .ok (.iload 7, 2) := by decide +kernel
theorem dX12_message_83 : decode cX12_message 83 = .ok (.invokevirtual 401, 3) := by decide +kernel
theorem dX12_message_86 : decode cX12_message 86 = .ok (.ifCond .ne 11, 3) := by decide +kernel
theorem dX12_message_89 : decode cX12_message 89 = .ok (.aload_n 0, 1) := by decide +kernel
theorem dX12_message_90 : decode cX12_message 90 = .ok (.iconst 1, 1) := by decide +kernel
theorem dX12_message_91 : decode cX12_message 91 = .ok (.putfield 385, 3) := by decide +kernel
theorem dX12_message_94 : decode cX12_message 94 = .ok (.goto 307, 3) := by decide +kernel
theorem dX12_message_97 : decode cX12_message 97 = .ok (.aload_n 0, 1) := by decide +kernel
theorem dX12_message_98 : decode cX12_message 98 = .ok (.bipush 20, 2) := by decide +kernel
theorem dX12_message_100 : decode cX12_message 100 = .ok (.iconst 4, 1) := by decide +kernel
theorem dX12_message_101 : decode cX12_message 101 = .ok (.invokevirtual 364, 3) := by decide +kernel
theorem dX12_message_104 : decode cX12_message 104 = .ok (.lstore 8, 2) := by decide +kernel
theorem dX12_message_106 : decode cX12_message 106 = .ok (.aload_n 0, 1) := by decide +kernel
theorem dX12_message_107 : decode cX12_message 107 = .ok (.lload 8, 2) := by decide +kernel
theorem dX12_message_109 : decode cX12_message 109 = .ok (.lconst 0, 1) := by decide +kernel
theorem dX12_message_110 : decode cX12_message 110 = .ok (.lcmp, 1) := by decide +kernel
theorem dX12_message_111 : decode cX12_message 111 = .ok (.ifCond .ne 8, 3) := by decide +kernel
theorem dX12_message_114 : decode cX12_message 114 = .ok (.iload 7, 2) := by decide +kernel
theorem dX12_message_116 : decode cX12_message 116 = .ok (.goto 6, 3) := by decide +kernel
theorem dX12_message_119 : decode cX12_message 119 = .ok (.lload 8, 2) := by decide +kernel
theorem dX12_message_121 : decode cX12_message 121 = .ok (.l2i, 1) := by decide +kernel
theorem dX12_message_122 : decode cX12_message 122 = .ok (.putfield 404, 3) := by decide +kernel
theorem dX12_message_125 : decode cX12_message 125 = .ok (.aload_n 0, 1) := by decide +kernel
theorem dX12_message_126 : decode cX12_message 126 = .ok (.lload 8, 2) := by decide +kernel
theorem dX12_message_128 : decode cX12_message 128 = .ok (.lconst 0, 1) := by decide +kernel
theorem dX12_message_129 : decode cX12_message 129 = .ok (.lcmp, 1) := by decide +kernel
theorem dX12_message_130 : decode cX12_message 130 = .ok (.ifCond .ne 7, 3) := by decide +kernel
theorem dX12_message_133 : decode cX12_message 133 = .ok (.iconst 1, 1) := by decide +kernel
theorem dX12_message_134 : decode cX12_message 134 = .ok (.goto 4, 3) := by decide +kernel
theorem dX12_message_137 : decode cX12_message 137 = .ok (.iconst 0, 1) := by decide +kernel
theorem dX12_message_138 : decode cX12_message 138 = .ok (.putfield 407, 3) := by decide +kernel
theorem dX12_message_141 : decode cX12_message 141 = .ok (.aload_n 0, 1) := by decide +kernel
theorem dX12_message_142 : decode cX12_message 142 = .ok (.getfield 407, 3) := by decide +kernel
theorem dX12_message_145 : decode cX12_message 145 = .ok (.ifCond .ne 7, 3) := by decide +kernel
theorem dX12_message_148 : decode cX12_message 148 = .ok (.iconst 1, 1) := by decide +kernel
theorem dX12_message_149 : decode cX12_message 149 = .ok (.goto 4, 3) := by decide +kernel
theorem dX12_message_152 : decode cX12_message 152 = .ok (.iconst 0, 1) := by decide +kernel
theorem dX12_message_153 : decode cX12_message 153 = .ok (.istore 6, 2) := by decide +kernel
theorem dX12_message_155 : decode cX12_message 155 = .ok (.aload_n 0, 1) := by decide +kernel
theorem dX12_message_156 : decode cX12_message 156 = .ok (.aload_n 0, 1) := by decide +kernel
theorem dX12_message_157 : decode cX12_message 157 = .ok (.bipush 16, 2) := by decide +kernel
theorem dX12_message_159 : decode cX12_message 159 = .ok (.iconst 4, 1) := by decide +kernel
theorem dX12_message_160 : decode cX12_message 160 = .ok (.invokevirtual 364, 3) := by decide +kernel
theorem dX12_message_163 : decode cX12_message 163 = .ok (.ldc2_w 410, 3) := by decide +kernel
theorem dX12_message_166 : decode cX12_message 166 = .ok (.land, 1) := by decide +kernel
theorem dX12_message_167 : decode cX12_message 167 = .ok (.lconst 0, 1) := by decide +kernel
theorem dX12_message_168 : decode cX12_message 168 = .ok (.lcmp, 1) := by decide +kernel
theorem dX12_message_169 : decode cX12_message 169 = .ok (.ifCond .eq 7, 3) := by decide +kernel
theorem dX12_message_172 : decode cX12_message 172 = .ok (.iconst 1, 1) := by decide +kernel
theorem dX12_message_173 : decode cX12_message 173 = .ok (.goto 4, 3) := by decide +kernel
theorem dX12_message_176 : decode cX12_message 176 = .ok (.iconst 0, 1) := by decide +kernel
theorem dX12_message_177 : decode cX12_message 177 = .ok (.putfield 412, 3) := by decide +kernel
theorem dX12_message_180 : decode cX12_message 180 = .ok (.aload_n 0, 1) := by decide +kernel
theorem dX12_message_181 : decode cX12_message 181 = .ok (.aload_n 0, 1) := by decide +kernel
theorem dX12_message_182 : decode cX12_message 182 = .ok (.bipush 12, 2) := by decide +kernel
theorem dX12_message_184 : decode cX12_message 184 = .ok (.invokevirtual 415, 3) := by decide +kernel
theorem dX12_message_187 : decode cX12_message 187 = .ok (.putfield 418, 3) := by decide +kernel
theorem dX12_message_190 : decode cX12_message 190 = .ok (.aload_n 0, 1) := by decide +kernel
theorem dX12_message_191 : decode cX12_message 191 = .ok (.bipush 24, 2) := by decide +kernel
theorem dX12_message_193 : decode cX12_message 193 = .ok (.bipush 8, 2) := by decide +kernel
theorem dX12_message_195 : decode cX12_message 195 = .ok (.invokevirtual 364, 3) := by decide +kernel
theorem dX12_message_198 : decode cX12_message 198 = .ok (.lstore 10, 2) := by decide +kernel
theorem dX12_message_200 : decode cX12_message 200 = .ok (.aload_n 0, 1) := by decide +kernel
theorem dX12_message_201 : decode cX12_message 201 = .ok (.getfield 418, 3) := by decide +kernel
theorem dX12_message_204 : decode cX12_message 204 = .ok (.ifCond .ne 20, 3) := by decide +kernel
theorem dX12_message_207 : decode cX12_message 207 = .ok (.aload_n 0, 1) := by decide +kernel
theorem dX12_message_208 : decode cX12_message 208 = .ok (.getfield 92, 3) := by decide +kernel
theorem dX12_message_211 : decode cX12_message 211 = .ok (.iload_n 1, 1) := by decide +kernel
theorem dX12_message_212 : decode cX12_message 212 = .ok (.baload, 1) := by decide +kernel
theorem dX12_message_213 : decode cX12_message 213 = .ok (.ifCond .ne 7, 3) := by decide +kernel
theorem dX12_message_216 : decode cX12_message 216 = .ok (.iconst 1, 1) := by decide +kernel
theorem dX12_message_217 : decode cX12_message 217 = .ok (.goto 13, 3) := by decide +kernel
theorem dX12_message_220 : decode cX12_message 220 = .ok (.iconst 0, 1) := by decide +kernel
theorem dX12_message_221 : decode cX12_message 221 = .ok (.goto 9, 3) := by decide +kernel
theorem dX12_message_224 : decode cX12_message 224 = .ok (.aload_n 0, 1) := by decide +kernel
theorem dX12_message_225 : decode cX12_message 225 = .ok (.getfield 92, 3) := by decide +kernel
theorem dX12_message_228 : decode cX12_message 228 = .ok (.iload_n 1, 1) := by decide +kernel
theorem dX12_message_229 : decode cX12_message 229 = .ok (.baload, 1) := by decide +kernel
theorem dX12_message_230 : decode cX12_message 230 = .ok (.istore 12, 2) := by decide +kernel
theorem dX12_message_232 : decode cX12_message 232 = .ok (.aload_n 0, 1) := by decide +kernel
theorem dX12_message_233 : decode cX12_message 233 = .ok (.getfield 412, 3) := by decide +kernel
theorem dX12_message_236 : decode cX12_message 236 = .ok (.ifCond .eq 8, 3) := by decide +kernel
theorem dX12_message_239 : decode cX12_message 239 = .ok (.iload 4, 2) := by decide +kernel
theorem dX12_message_241 : decode cX12_message 241 = .ok (.ifCond .eq 27, 3) := by decide +kernel
theorem dX12_message_244 : decode cX12_message 244 = .ok (.aload_n 0, 1) := by decide +kernel
theorem dX12_message_245 : decode cX12_message 245 = .ok (.getfield 418, 3) := by decide +kernel
theorem dX12_message_248 : decode cX12_message 248 = .ok (.bipush 12, 2) := by decide +kernel
theorem dX12_message_250 : decode cX12_message 250 = .ok (.if_icmp .eq 13, 3) := by decide +kernel
theorem dX12_message_253 : decode cX12_message 253 = .ok (.aload_n 0, 1) := by decide +kernel
theorem dX12_message_254 : decode cX12_message 254 = .ok (.iload_n 1, 1) := by decide +kernel
theorem dX12_message_255 : decode cX12_message 255 = .ok (.lload 10, 2) := by decide +kernel
theorem dX12_message_257 : decode cX12_message 257 = .ok (.invokevirtual 421, 3) := by decide +kernel
theorem dX12_message_260 : decode cX12_message 260 = .ok (.ifCond .eq 8, 3) := by decide +kernel
theorem dX12_message_263 : decode cX12_message 263 = .ok (.iload 12, 2) := by decide +kernel
theorem dX12_message_265 : decode cX12_message 265 = .ok (.ifCond .ne 11, 3) := by decide +kernel
theorem dX12_message_268 : decode cX12_message 268 = .ok (.aload_n 0, 1) := by decide +kernel
theorem dX12_message_269 : decode cX12_message 269 = .ok (.iconst 1, 1) := by decide +kernel
theorem dX12_message_270 : decode cX12_message 270 = .ok (.putfield 385, 3) := by decide +kernel
theorem dX12_message_273 : decode cX12_message 273 = .ok (.goto 128, 3) := by decide +kernel
theorem dX12_message_276 : decode cX12_message 276 = .ok (.aload_n 0, 1) := by decide +kernel
theorem dX12_message_277 : decode cX12_message 277 = .ok (.getfield 418, 3) := by decide +kernel
theorem dX12_message_280 : decode cX12_message 280 = .ok (.bipush 12, 2) := by decide +kernel
theorem dX12_message_282 : decode cX12_message 282 = .ok (.if_icmp .eq 64, 3) := by decide +kernel
theorem dX12_message_285 : decode cX12_message 285 = .ok (.iload 5, 2) := by decide +kernel
theorem dX12_message_287 : decode cX12_message 287 = .ok (.ifCond .lt 59, 3) := by decide +kernel
theorem dX12_message_290 : decode cX12_message 290 = .ok (.aload_n 0, 1) := by decide +kernel
theorem dX12_message_291 : decode cX12_message 291 = .ok (.getfield 389, 3) := by decide +kernel
theorem dX12_message_294 : decode cX12_message 294 = .ok (.istore 13, 2) := by decide +kernel
theorem dX12_message_296 : decode cX12_message 296 = .ok (.iload 13, 2) := by decide +kernel
theorem dX12_message_298 : decode cX12_message 298 = .ok (.iload 5, 2) := by decide +kernel
theorem dX12_message_300 : decode cX12_message 300 = .ok (.isub, 1) := by decide +kernel
theorem dX12_message_301 : decode cX12_message 301 = .ok (.bipush 8, 2) := by decide +kernel
theorem dX12_message_303 : decode cX12_message 303 = .ok (.irem, 1) := by decide +kernel
theorem dX12_message_304 : decode cX12_message 304 = .ok (.ifCond .eq 17, 3) := by decide +kernel
theorem dX12_message_307 : decode cX12_message 307 = .ok (.aload_n 0, 1) := by decide +kernel
theorem dX12_message_308 : decode cX12_message 308 = .ok (.getfield 246, 3) := by decide +kernel
theorem dX12_message_311 : decode cX12_message 311 = .ok (.iload 13, 2) := by decide +kernel
theorem dX12_message_313 : decode cX12_message 313 = .ok (.iconst 0, 1) := by decide +kernel
theorem dX12_message_314 : decode cX12_message 314 = .ok (.bastore, 1) := by decide +kernel
theorem dX12_message_315 : decode cX12_message 315 = .ok (.iinc 13 1, 3) := by decide +kernel
theorem dX12_message_318 : decode cX12_message 318 = .ok (.goto (-22), 3) := by decide +kernel
theorem dX12_message_321 : decode cX12_message 321 = .ok (.aload_n 0, 1) := by decide +kernel
theorem dX12_message_322 : decode cX12_message 322 = .ok (.iload 5, 2) := by decide +kernel
theorem dX12_message_324 : decode cX12_message 324 = .ok (.putfield 368, 3) := by decide +kernel
theorem dX12_message_327 : decode cX12_message 327 = .ok (.aload_n 0, 1) := by decide +kernel
theorem dX12_message_328 : decode cX12_message 328 = .ok (.bipush 20, 2) := by decide +kernel
theorem dX12_message_330 : decode cX12_message 330 = .ok (.iconst 4, 1) := by decide +kernel
theorem dX12_message_331 : decode cX12_message 331 = .ok (.iload 13, 2) := by decide +kernel
theorem dX12_message_333 : decode cX12_message 333 = .ok (.iload 5, 2) := by decide +kernel
theorem dX12_message_335 : decode cX12_message 335 = .ok (.isub, 1) := by decide +kernel
theorem dX12_message_336 : decode cX12_message 336 = .ok (.i2l, 1) := by decide +kernel
theorem dX12_message_337 : decode cX12_message 337 = .ok (.invokevirtual 376, 3) := by decide +kernel
theorem dX12_message_340 : decode cX12_message 340 = .ok (.aload_n 0, 1) := by decide +kernel
theorem dX12_message_341 : decode cX12_message 341 = .ok (.iload 13, 2) := by decide +kernel
theorem dX12_message_343 : decode cX12_message 343 = .ok (.putfield 389, 3) := by decide +kernel
theorem dX12_message_346 : decode cX12_message 346 = .ok (.aload_n 0, 1) := by decide +kernel
theorem dX12_message_347 : decode cX12_message 347 = .ok (.aload_n 0, 1) := by decide +kernel
theorem dX12_message_348 : decode cX12_message 348 = .ok (.getfield 389, 3) := by decide +kernel
theorem dX12_message_351 : decode cX12_message 351 = .ok (.putfield 368, 3) := by decide +kernel
theorem dX12_message_354 : decode cX12_message 354 = .ok (.aload_n 0, 1) := by decide +kernel
theorem dX12_message_355 : decode cX12_message 355 = .ok (.iload_n 1, 1) := by decide +kernel
theorem dX12_message_356 : decode cX12_message 356 = .ok (.lload 10, 2) := by decide +kernel
theorem dX12_message_358 : decode cX12_message 358 = .ok (.invokevirtual 425, 3) := by decide +kernel
theorem dX12_message_361 : decode cX12_message 361 = .ok (.aload_n 0, 1) := by decide +kernel
theorem dX12_message_362 : decode cX12_message 362 = .ok (.getfield 418, 3) := by decide +kernel
theorem dX12_message_365 : decode cX12_message 365 = .ok (.bipush 12, 2) := by decide +kernel
theorem dX12_message_367 : decode cX12_message 367 = .ok (.if_icmp .eq 22, 3) := by decide +kernel
theorem dX12_message_370 : decode cX12_message 370 = .ok (.aload_n 0, 1) := by decide +kernel
theorem dX12_message_371 : decode cX12_message 371 = .ok (.getfield 368, 3) := by decide +kernel
theorem dX12_message_374 : decode cX12_message 374 = .ok (.istore 5, 2) := by decide +kernel
theorem dX12_message_376 : decode cX12_message 376 = .ok (.aload_n 0, 1) := by decide +kernel
theorem dX12_message_377 : decode cX12_message 377 = .ok (.aload_n 0, 1) := by decide +kernel
theorem dX12_message_378 : decode cX12_message 378 = .ok (.getfield 368, 3) := by decide +kernel
theorem dX12_message_381 : decode cX12_message 381 = .ok (.aload_n 0, 1) := by decide +kernel
theorem dX12_message_382 : decode cX12_message 382 = .ok (.getfield 371, 3) := by decide +kernel
theorem dX12_message_385 : decode cX12_message 385 = .ok (.iadd, 1) := by decide +kernel
theorem dX12_message_386 : decode cX12_message 386 = .ok (.putfield 389, 3) := by decide +kernel
theorem dX12_message_389 : decode cX12_message 389 = .ok (.iload 4, 2) := by decide +kernel
theorem dX12_message_391 : decode cX12_message 391 = .ok (.aload_n 0, 1) := by decide +kernel
theorem dX12_message_392 : decode cX12_message 392 = .ok (.getfield 404, 3) := by decide +kernel
theorem dX12_message_395 : decode cX12_message 395 = .ok (.iadd, 1) := by decide +kernel
theorem dX12_message_396 : decode cX12_message 396 = .ok (.istore 4, 2) := by decide +kernel
theorem dX12_message_398 : decode cX12_message 398 = .ok (.goto (-359), 3) := by decide +kernel
theorem dX12_message_401 : decode cX12_message 401 = .ok (.aload_n 0, 1) := by decide +kernel
theorem dX12_message_402 : decode cX12_message 402 = .ok (.getfield 385, 3) := by decide +kernel
theorem dX12_message_405 : decode cX12_message 405 = .ok (.ifCond .eq 11, 3) := by decide +kernel
theorem dX12_message_408 : decode cX12_message 408 = .ok (.aload_n 0, 1) := by decide +kernel
theorem dX12_message_409 : decode cX12_message 409 = .ok (.iload_n 1, 1) := by decide +kernel
theorem dX12_message_410 : decode cX12_message 410 = .ok (.invokevirtual 329, 3) := by decide +kernel
theorem dX12_message_413 : decode cX12_message 413 = .ok (.goto 18, 3) := by decide +kernel
theorem dX12_message_416 : decode cX12_message 416 = .ok (.iload 5, 2) := by decide +kernel
theorem dX12_message_418 : decode cX12_message 418 = .ok (.ifCond .lt 13, 3) := by decide +kernel
theorem dX12_message_421 : decode cX12_message 421 = .ok (.aload_n 0, 1) := by decide +kernel
theorem dX12_message_422 : decode cX12_message 422 = .ok (.iload_n 1, 1) := by decide +kernel
theorem dX12_message_423 : decode cX12_message 423 = .ok (.iconst 0, 1) := by decide +kernel
theorem dX12_message_424 : decode cX12_message 424 = .ok (.aload_n 0, 1) := by decide +kernel
theorem dX12_message_425 : decode cX12_message 425 = .ok (.getfield 389, 3) := by decide +kernel
theorem dX12_message_428 : decode cX12_message 428 = .ok (.invokevirtual 429, 3) := by decide +kernel
theorem dX12_message_431 : decode cX12_message 431 = .ok (.return_, 1) := by decide +kernel
set_option maxRecDepth 100000 in
set_option maxHeartbeats 4000000 in
theorem c_X12_message (l : Launch) (D : va_G) (t : Nat → ClassId) (h0 : Nat) (L : Nat → Nat) (σ : HS) (hM : MdI h0 L σ) (a1 : Int32) (a2 : Int32) (a3 : Int32) (post : HS → Prop) (hw : F_X12_message h0 L a1 a2 a3 post σ) (sz : Nat) : RMv l D t yX12_message cX12_message 14 ({ frames := 15, cells := 0, slots := 0, locals := 398 }) h0 L σ sz [.ref h0, .int a1, .int a2, .int a3] post := by
  refine h_go (τ := τT) okT (by decide) (Nat.le_of_ble_eq_true rfl) ?_
  intro p e s m below meth c ls A hF hr hlk hAe hH0 hA hl
  unfold hB
  rw [hAe]
  clear hAe
  have hF : FX p m c cX12_message 14 s _ RX12 D t := hF
  have hx := hF.1.1
  have hb := hF.1.2.1
  have hH : RT D t A s.heap h0 L σ s.heap [] := ⟨hH0, hM⟩
  have hl : lv_has ls 14 [(0, .ref h0), (1, .int a1), (2, .int a2), (3, .int a3)] := hl
  unfold F_X12_message at hw
  refine lv_aload_n hx hb dX12_message_0 rfl (lv_at hl 0 rfl) ?_
  refine lv_iload_n hx hb dX12_message_1 rfl (lv_at hl 1 rfl) ?_
  refine w_putI hF hH fk_X12_382 dX12_message_2 rfl rfl rfl hw (fun σ1 H locs hw hH => ?_)
  refine lv_aload_n hx hb dX12_message_5 rfl (lv_at hl 0 rfl) ?_
  refine lv_iconst (v := 0) hx hb dX12_message_6 (by decide) ?_
  refine w_putZ hF hH fk_X12_385 dX12_message_7 rfl rfl hw (fun σ2 H locs hw hH => ?_)
  refine lv_aload_n hx hb dX12_message_10 rfl (lv_at hl 0 rfl) ?_
  refine lv_iconst (v := 0) hx hb dX12_message_11 (by decide) ?_
  refine w_putI hF hH fk_X12_389 dX12_message_12 rfl rfl rfl hw (fun σ3 H locs hw hH => ?_)
  refine lv_aload_n hx hb dX12_message_15 rfl (lv_at hl 0 rfl) ?_
  refine lv_iconst (v := 0) hx hb dX12_message_16 (by decide) ?_
  refine w_putZ hF hH fk_X12_392 dX12_message_17 rfl rfl hw (fun σ4 H locs hw hH => ?_)
  refine lv_aload_n hx hb dX12_message_20 rfl (lv_at hl 0 rfl) ?_
  refine lv_lconst (v := 0) hx hb dX12_message_21 (by decide) ?_
  refine w_putJ hF hH fk_X12_395 dX12_message_22 rfl rfl rfl hw (fun σ5 H locs hw hH => ?_)
  refine lv_aload_n hx hb dX12_message_25 rfl (lv_at hl 0 rfl) ?_
  refine lv_lconst (v := 0) hx hb dX12_message_26 (by decide) ?_
  refine w_putJ hF hH fk_X12_398 dX12_message_27 rfl rfl rfl hw (fun σ6 H locs hw hH => ?_)
  refine lv_iconst (v := 0) hx hb dX12_message_30 (by decide) ?_
  refine lv_istore (lv' := [(4, .int 0), (0, .ref h0), (1, .int a1), (2, .int a2), (3, .int a3)]) hx hb dX12_message_31 hl (by decide) rfl (fun ls hl => ?_)
  refine lv_iconst (v := (-1)) hx hb dX12_message_33 (by decide) ?_
  refine lv_istore (lv' := [(5, .int (-1)), (4, .int 0), (0, .ref h0), (1, .int a1), (2, .int a2), (3, .int a3)]) hx hb dX12_message_34 hl (by decide) rfl (fun ls hl => ?_)
  refine lv_iconst (v := 1) hx hb dX12_message_36 (by decide) ?_
  refine lv_istore (lv' := [(6, .int 1), (5, .int (-1)), (4, .int 0), (0, .ref h0), (1, .int a1), (2, .int a2), (3, .int a3)]) hx hb dX12_message_37 hl (by decide) rfl (fun ls hl => ?_)
  have hl : lv_has ls 14 [(6, .int 1), (5, .int (-1)), (4, .int 0), (3, .int a3), (2, .int a2), (1, .int a1), (0, .ref h0)] := lv_sub hl [0, 1, 2, 6, 5, 4, 3] rfl
  refine w_loop (β := Int32 × Int32 × Int32) (fun x7 => [(6, .int x7.1), (5, .int x7.2.1), (4, .int x7.2.2), (3, .int a3), (2, .int a2), (1, .int a1), (0, .ref h0)]) (1, (-1), 0) hl hw hH (fun K9 x7 σ8 ls H locs hl hw hH ih10 => ?_)
  have hl : lv_has ls 14 [(6, .int x7.1), (5, .int x7.2.1), (4, .int x7.2.2), (3, .int a3), (2, .int a2), (1, .int a1), (0, .ref h0)] := hl
  refine lv_iload hx hb dX12_message_39 (lv_at hl 0 rfl) ?_
  obtain ⟨K13, hK14, hw⟩ := jn_open hw
  refine w_join (K := K13) 401 (fun (x11 : Unit) => [(5, .int x7.2.1), (1, .int a1), (0, .ref h0)]) (fun (x11 : Unit) => []) hl hH (fun x11 σ12 ls H locs hl hw hH => ?_) (fun jn15 => ?_)
  · have hw := hK14 x11 σ12 hw
    have hl : lv_has ls 14 [(5, .int x7.2.1), (1, .int a1), (0, .ref h0)] := hl
    refine lv_aload_n hx hb dX12_message_401 rfl (lv_at hl 2 rfl) ?_
    refine w_getI hF hH fk_X12_385 dX12_message_402 hw (fun z16 hw => ?_)
    obtain ⟨K19, hK20, hw⟩ := jn_open hw
    refine w_join (K := K19) 431 (fun (x17 : Unit) => []) (fun (x17 : Unit) => []) hl hH (fun x17 σ18 ls H locs hl hw hH => ?_) (fun jn21 => ?_)
    · have hw := hK20 x17 σ18 hw
      have hl : lv_has ls 14 [] := hl
      exact w_retv hF hH hr hlk dX12_message_431 hw
    · skip
      refine w_if_eq (tgt := 416) hF dX12_message_405 rfl hw (fun hw => ?_) (fun hw => ?_)
      · refine lv_iload hx hb dX12_message_416 (lv_at hl 0 rfl) ?_
        refine w_if_lt (tgt := 431) hF dX12_message_418 rfl hw (fun hw => ?_) (fun hw => ?_)
        · have hl : lv_has ls 14 [] := lv_sub hl [] rfl
          exact jn21 () σ12 ls _ _ hl hw hH
        · refine lv_aload_n hx hb dX12_message_421 rfl (lv_at hl 2 rfl) ?_
          refine lv_iload_n hx hb dX12_message_422 rfl (lv_at hl 1 rfl) ?_
          refine lv_iconst (v := 0) hx hb dX12_message_423 (by decide) ?_
          refine lv_aload_n hx hb dX12_message_424 rfl (lv_at hl 2 rfl) ?_
          refine w_getI hF hH fk_X12_389 dX12_message_425 hw (fun z22 hw => ?_)
          refine w_cVv (As := [.int a1, .int 0, .int z22]) (rest := []) hF hH hA mv_X12_429 (fun sz => c_X12_send l D t h0 L _ hH.2 a1 0 z22 _ hw sz) dX12_message_428 rfl rfl (by decide) rfl hl.1 (Nat.le_of_ble_eq_true rfl) (by decide) rfl (fun σ23 H locs hw hH => ?_)
          have hl : lv_has ls 14 [] := lv_sub hl [] rfl
          exact jn21 () σ23 ls _ _ hl hw hH
      · refine lv_aload_n hx hb dX12_message_408 rfl (lv_at hl 2 rfl) ?_
        refine lv_iload_n hx hb dX12_message_409 rfl (lv_at hl 1 rfl) ?_
        refine w_cVv (As := [.int a1]) (rest := []) hF hH hA mv_X12_329 (fun sz => c_X12_drops l D t h0 L _ hH.2 a1 _ hw sz) dX12_message_410 rfl rfl (by decide) rfl hl.1 (Nat.le_of_ble_eq_true rfl) (by decide) rfl (fun σ25 H locs hw hH => ?_)
        refine lv_goto (tgt := 431) hx hb dX12_message_413 rfl ?_
        have hl : lv_has ls 14 [] := lv_sub hl [] rfl
        exact jn21 () σ25 ls _ _ hl hw hH
  · skip
    refine w_if_eq (tgt := 401) hF dX12_message_41 rfl hw (fun hw => ?_) (fun hw => ?_)
    · have hl : lv_has ls 14 [(5, .int x7.2.1), (1, .int a1), (0, .ref h0)] := lv_sub hl [1, 5, 6] rfl
      exact jn15 () σ8 ls _ _ hl hw hH
    · refine lv_aload_n hx hb dX12_message_44 rfl (lv_at hl 6 rfl) ?_
      refine w_getI hF hH fk_X12_385 dX12_message_45 hw (fun z27 hw => ?_)
      refine w_if_ne (tgt := 401) hF dX12_message_48 rfl hw (fun hw => ?_) (fun hw => ?_)
      · have hl : lv_has ls 14 [(5, .int x7.2.1), (1, .int a1), (0, .ref h0)] := lv_sub hl [1, 5, 6] rfl
        exact jn15 () σ8 ls _ _ hl hw hH
      · refine lv_aload_n hx hb dX12_message_51 rfl (lv_at hl 6 rfl) ?_
        refine lv_aload_n hx hb dX12_message_52 rfl (lv_at hl 6 rfl) ?_
        refine w_getA 29 hF hH fk_X12_103 dX12_message_53 (by decide) rfl ?_
        refine w_putQr hF hH fk_X12_356 dX12_message_56 hw (fun σ28 H locs hw hH => ?_)
        refine lv_aload_n hx hb dX12_message_59 rfl (lv_at hl 6 rfl) ?_
        refine lv_iload_n hx hb dX12_message_60 rfl (lv_at hl 4 rfl) ?_
        refine lv_iload hx hb dX12_message_61 (lv_at hl 2 rfl) ?_
        refine lv_iadd hx hb dX12_message_63 ?_
        refine w_nmi hw (fun z29 hw => ?_)
        refine w_putI hF hH fk_X12_359 dX12_message_64 rfl rfl rfl hw (fun σ30 H locs hw hH => ?_)
        refine lv_iload_n hx hb dX12_message_67 rfl (lv_at hl 3 rfl) ?_
        refine lv_iload hx hb dX12_message_68 (lv_at hl 2 rfl) ?_
        refine lv_isub hx hb dX12_message_70 ?_
        refine w_nmi hw (fun z31 hw => ?_)
        refine lv_istore (lv' := [(7, .int z31), (6, .int x7.1), (5, .int x7.2.1), (4, .int x7.2.2), (3, .int a3), (2, .int a2), (1, .int a1), (0, .ref h0)]) hx hb dX12_message_71 hl (by decide) rfl (fun ls hl => ?_)
        refine lv_iload hx hb dX12_message_73 (lv_at hl 0 rfl) ?_
        refine lv_bipush (v := 64) hx hb dX12_message_75 (by decide) ?_
        obtain ⟨K34, hK35, hw⟩ := jn_open hw
        refine w_join (K := K34) 89 (fun (x32 : Unit) => [(5, .int x7.2.1), (1, .int a1), (0, .ref h0)]) (fun (x32 : Unit) => []) hl hH (fun x32 σ33 ls H locs hl hw hH => ?_) (fun jn36 => ?_)
        · have hw := hK35 x32 σ33 hw
          have hl : lv_has ls 14 [(5, .int x7.2.1), (1, .int a1), (0, .ref h0)] := hl
          refine lv_aload_n hx hb dX12_message_89 rfl (lv_at hl 2 rfl) ?_
          refine lv_iconst (v := 1) hx hb dX12_message_90 (by decide) ?_
          refine w_putZ hF hH fk_X12_385 dX12_message_91 rfl rfl hw (fun σ37 H locs hw hH => ?_)
          refine lv_goto (tgt := 401) hx hb dX12_message_94 rfl ?_
          exact jn15 () σ37 ls _ _ hl hw hH
        · skip
          refine w_icmp_lt (tgt := 89) hF dX12_message_77 rfl hw (fun hw => ?_) (fun hw => ?_)
          · have hl : lv_has ls 14 [(5, .int x7.2.1), (1, .int a1), (0, .ref h0)] := lv_sub hl [2, 6, 7] rfl
            exact jn36 () σ30 ls _ _ hl hw hH
          · refine lv_aload_n hx hb dX12_message_80 rfl (lv_at hl 7 rfl) ?_
            refine lv_iload hx hb dX12_message_81 (lv_at hl 0 rfl) ?_
            refine w_cVi (As := [.int z31]) (rest := []) hF hH hA mv_X12_401 (fun sz => c_X12_headerGood l D t h0 L _ hH.2 z31 _ hw sz) dX12_message_83 rfl rfl (by decide) rfl hl.1 (Nat.le_of_ble_eq_true rfl) (by decide) rfl (fun z39 σ38 H locs hw hH => ?_)
            refine w_if_ne (tgt := 97) hF dX12_message_86 rfl hw (fun hw => ?_) (fun hw => ?_)
            · refine lv_aload_n hx hb dX12_message_97 rfl (lv_at hl 7 rfl) ?_
              refine lv_bipush (v := 20) hx hb dX12_message_98 (by decide) ?_
              refine lv_iconst (v := 4) hx hb dX12_message_100 (by decide) ?_
              refine w_cVl (As := [.int 20, .int 4]) (rest := []) hF hH hA mv_X12_364 (fun sz => c_X12_number l D t h0 L _ hH.2 20 4 _ hw sz) dX12_message_101 rfl rfl (by decide) rfl hl.1 (Nat.le_of_ble_eq_true rfl) (by decide) rfl (fun z41 σ40 H locs hw hH => ?_)
              refine lv_lstore (lv' := [(8, .long z41), (7, .int z31), (6, .int x7.1), (5, .int x7.2.1), (4, .int x7.2.2), (3, .int a3), (2, .int a2), (1, .int a1), (0, .ref h0)]) hx hb dX12_message_104 hl (by decide) rfl (fun ls hl => ?_)
              refine lv_aload_n hx hb dX12_message_106 rfl (lv_at hl 8 rfl) ?_
              refine lv_lload hx hb dX12_message_107 (lv_at hl 0 rfl) ?_
              refine lv_lconst (v := 0) hx hb dX12_message_109 (by decide) ?_
              obtain ⟨K44, hK45, hw⟩ := jn_open hw
              refine w_join (K := K44) 122 (fun (x42 : Int32) => [(8, .long z41), (5, .int x7.2.1), (4, .int x7.2.2), (3, .int a3), (2, .int a2), (1, .int a1), (0, .ref h0)]) (fun (x42 : Int32) => [.int x42, .ref h0]) hl hH (fun x42 σ43 ls H locs hl hw hH => ?_) (fun jn46 => ?_)
              · have hw := hK45 x42 σ43 hw
                have hl : lv_has ls 14 [(8, .long z41), (5, .int x7.2.1), (4, .int x7.2.2), (3, .int a3), (2, .int a2), (1, .int a1), (0, .ref h0)] := hl
                refine w_putI hF hH fk_X12_404 dX12_message_122 rfl rfl rfl hw (fun σ47 H locs hw hH => ?_)
                refine lv_aload_n hx hb dX12_message_125 rfl (lv_at hl 6 rfl) ?_
                refine lv_lload hx hb dX12_message_126 (lv_at hl 0 rfl) ?_
                refine lv_lconst (v := 0) hx hb dX12_message_128 (by decide) ?_
                obtain ⟨K50, hK51, hw⟩ := jn_open hw
                refine w_join (K := K50) 138 (fun (x48 : Int32) => [(5, .int x7.2.1), (4, .int x7.2.2), (3, .int a3), (2, .int a2), (1, .int a1), (0, .ref h0)]) (fun (x48 : Int32) => [.int x48, .ref h0]) hl hH (fun x48 σ49 ls H locs hl hw hH => ?_) (fun jn52 => ?_)
                · have hw := hK51 x48 σ49 hw
                  have hl : lv_has ls 14 [(5, .int x7.2.1), (4, .int x7.2.2), (3, .int a3), (2, .int a2), (1, .int a1), (0, .ref h0)] := hl
                  refine w_putZ hF hH fk_X12_407 dX12_message_138 rfl rfl hw (fun σ53 H locs hw hH => ?_)
                  refine lv_aload_n hx hb dX12_message_141 rfl (lv_at hl 5 rfl) ?_
                  refine w_getI hF hH fk_X12_407 dX12_message_142 hw (fun z54 hw => ?_)
                  obtain ⟨K57, hK58, hw⟩ := jn_open hw
                  refine w_join (K := K57) 153 (fun (x55 : Int32) => [(5, .int x7.2.1), (4, .int x7.2.2), (3, .int a3), (2, .int a2), (1, .int a1), (0, .ref h0)]) (fun (x55 : Int32) => [.int x55]) hl hH (fun x55 σ56 ls H locs hl hw hH => ?_) (fun jn59 => ?_)
                  · have hw := hK58 x55 σ56 hw
                    have hl : lv_has ls 14 [(5, .int x7.2.1), (4, .int x7.2.2), (3, .int a3), (2, .int a2), (1, .int a1), (0, .ref h0)] := hl
                    refine lv_istore (lv' := [(6, .int x55), (5, .int x7.2.1), (4, .int x7.2.2), (3, .int a3), (2, .int a2), (1, .int a1), (0, .ref h0)]) hx hb dX12_message_153 hl (by decide) rfl (fun ls hl => ?_)
                    refine lv_aload_n hx hb dX12_message_155 rfl (lv_at hl 6 rfl) ?_
                    refine lv_aload_n hx hb dX12_message_156 rfl (lv_at hl 6 rfl) ?_
                    refine lv_bipush (v := 16) hx hb dX12_message_157 (by decide) ?_
                    refine lv_iconst (v := 4) hx hb dX12_message_159 (by decide) ?_
                    refine w_cVl (As := [.int 16, .int 4]) (rest := [.ref h0]) hF hH hA mv_X12_364 (fun sz => c_X12_number l D t h0 L _ hH.2 16 4 _ hw sz) dX12_message_160 rfl rfl (by decide) rfl hl.1 (Nat.le_of_ble_eq_true rfl) (by decide) rfl (fun z61 σ60 H locs hw hH => ?_)
                    refine lv_ldc2 (v := 4) hx hb hF.1.2.2.2.1 (hF.1.2.2.2.2 _ (wc_47 22 rfl)) dX12_message_163 ?_
                    refine lv_land hx hb dX12_message_166 ?_
                    refine w_nml hw (fun z62 hw => ?_)
                    refine lv_lconst (v := 0) hx hb dX12_message_167 (by decide) ?_
                    obtain ⟨K65, hK66, hw⟩ := jn_open hw
                    refine w_join (K := K65) 177 (fun (x63 : Int32) => [(6, .int x55), (5, .int x7.2.1), (4, .int x7.2.2), (3, .int a3), (2, .int a2), (1, .int a1), (0, .ref h0)]) (fun (x63 : Int32) => [.int x63, .ref h0]) hl hH (fun x63 σ64 ls H locs hl hw hH => ?_) (fun jn67 => ?_)
                    · have hw := hK66 x63 σ64 hw
                      have hl : lv_has ls 14 [(6, .int x55), (5, .int x7.2.1), (4, .int x7.2.2), (3, .int a3), (2, .int a2), (1, .int a1), (0, .ref h0)] := hl
                      refine w_putZ hF hH fk_X12_412 dX12_message_177 rfl rfl hw (fun σ68 H locs hw hH => ?_)
                      refine lv_aload_n hx hb dX12_message_180 rfl (lv_at hl 6 rfl) ?_
                      refine lv_aload_n hx hb dX12_message_181 rfl (lv_at hl 6 rfl) ?_
                      refine lv_bipush (v := 12) hx hb dX12_message_182 (by decide) ?_
                      refine w_cVi (As := [.int 12]) (rest := [.ref h0]) hF hH hA mv_X12_415 (fun sz => c_X12_number2 l D t h0 L _ hH.2 12 _ hw sz) dX12_message_184 rfl rfl (by decide) rfl hl.1 (Nat.le_of_ble_eq_true rfl) (by decide) rfl (fun z70 σ69 H locs hw hH => ?_)
                      refine w_putI hF hH fk_X12_418 dX12_message_187 rfl rfl rfl hw (fun σ71 H locs hw hH => ?_)
                      refine lv_aload_n hx hb dX12_message_190 rfl (lv_at hl 6 rfl) ?_
                      refine lv_bipush (v := 24) hx hb dX12_message_191 (by decide) ?_
                      refine lv_bipush (v := 8) hx hb dX12_message_193 (by decide) ?_
                      refine w_cVl (As := [.int 24, .int 8]) (rest := []) hF hH hA mv_X12_364 (fun sz => c_X12_number l D t h0 L _ hH.2 24 8 _ hw sz) dX12_message_195 rfl rfl (by decide) rfl hl.1 (Nat.le_of_ble_eq_true rfl) (by decide) rfl (fun z73 σ72 H locs hw hH => ?_)
                      refine lv_lstore (lv' := [(10, .long z73), (6, .int x55), (5, .int x7.2.1), (4, .int x7.2.2), (3, .int a3), (2, .int a2), (1, .int a1), (0, .ref h0)]) hx hb dX12_message_198 hl (by decide) rfl (fun ls hl => ?_)
                      refine lv_aload_n hx hb dX12_message_200 rfl (lv_at hl 7 rfl) ?_
                      refine w_getI hF hH fk_X12_418 dX12_message_201 hw (fun z74 hw => ?_)
                      obtain ⟨K77, hK78, hw⟩ := jn_open hw
                      refine w_join (K := K77) 230 (fun (x75 : Int32) => [(10, .long z73), (6, .int x55), (5, .int x7.2.1), (4, .int x7.2.2), (3, .int a3), (2, .int a2), (1, .int a1), (0, .ref h0)]) (fun (x75 : Int32) => [.int x75]) hl hH (fun x75 σ76 ls H locs hl hw hH => ?_) (fun jn79 => ?_)
                      · have hw := hK78 x75 σ76 hw
                        have hl : lv_has ls 14 [(10, .long z73), (6, .int x55), (5, .int x7.2.1), (4, .int x7.2.2), (3, .int a3), (2, .int a2), (1, .int a1), (0, .ref h0)] := hl
                        refine lv_istore (lv' := [(12, .int x75), (10, .long z73), (6, .int x55), (5, .int x7.2.1), (4, .int x7.2.2), (3, .int a3), (2, .int a2), (1, .int a1), (0, .ref h0)]) hx hb dX12_message_230 hl (by decide) rfl (fun ls hl => ?_)
                        refine lv_aload_n hx hb dX12_message_232 rfl (lv_at hl 8 rfl) ?_
                        refine w_getI hF hH fk_X12_412 dX12_message_233 hw (fun z80 hw => ?_)
                        obtain ⟨K83, hK84, hw⟩ := jn_open hw
                        refine w_join (K := K83) 268 (fun (x81 : Unit) => [(5, .int x7.2.1), (1, .int a1), (0, .ref h0)]) (fun (x81 : Unit) => []) hl hH (fun x81 σ82 ls H locs hl hw hH => ?_) (fun jn85 => ?_)
                        · have hw := hK84 x81 σ82 hw
                          have hl : lv_has ls 14 [(5, .int x7.2.1), (1, .int a1), (0, .ref h0)] := hl
                          refine lv_aload_n hx hb dX12_message_268 rfl (lv_at hl 2 rfl) ?_
                          refine lv_iconst (v := 1) hx hb dX12_message_269 (by decide) ?_
                          refine w_putZ hF hH fk_X12_385 dX12_message_270 rfl rfl hw (fun σ86 H locs hw hH => ?_)
                          refine lv_goto (tgt := 401) hx hb dX12_message_273 rfl ?_
                          exact jn15 () σ86 ls _ _ hl hw hH
                        · skip
                          obtain ⟨K89, hK90, hw⟩ := jn_open hw
                          refine w_join (K := K89) 244 (fun (x87 : Unit) => [(12, .int x75), (10, .long z73), (6, .int x55), (5, .int x7.2.1), (4, .int x7.2.2), (3, .int a3), (2, .int a2), (1, .int a1), (0, .ref h0)]) (fun (x87 : Unit) => []) hl hH (fun x87 σ88 ls H locs hl hw hH => ?_) (fun jn91 => ?_)
                          · have hw := hK90 x87 σ88 hw
                            have hl : lv_has ls 14 [(12, .int x75), (10, .long z73), (6, .int x55), (5, .int x7.2.1), (4, .int x7.2.2), (3, .int a3), (2, .int a2), (1, .int a1), (0, .ref h0)] := hl
                            refine lv_aload_n hx hb dX12_message_244 rfl (lv_at hl 8 rfl) ?_
                            refine w_getI hF hH fk_X12_418 dX12_message_245 hw (fun z92 hw => ?_)
                            refine lv_bipush (v := 12) hx hb dX12_message_248 (by decide) ?_
                            obtain ⟨K95, hK96, hw⟩ := jn_open hw
                            refine w_join (K := K95) 263 (fun (x93 : Unit) => [(12, .int x75), (10, .long z73), (6, .int x55), (5, .int x7.2.1), (4, .int x7.2.2), (3, .int a3), (2, .int a2), (1, .int a1), (0, .ref h0)]) (fun (x93 : Unit) => []) hl hH (fun x93 σ94 ls H locs hl hw hH => ?_) (fun jn97 => ?_)
                            · have hw := hK96 x93 σ94 hw
                              have hl : lv_has ls 14 [(12, .int x75), (10, .long z73), (6, .int x55), (5, .int x7.2.1), (4, .int x7.2.2), (3, .int a3), (2, .int a2), (1, .int a1), (0, .ref h0)] := hl
                              refine lv_iload hx hb dX12_message_263 (lv_at hl 0 rfl) ?_
                              refine w_if_ne (tgt := 276) hF dX12_message_265 rfl hw (fun hw => ?_) (fun hw => ?_)
                              · refine lv_aload_n hx hb dX12_message_276 rfl (lv_at hl 8 rfl) ?_
                                refine w_getI hF hH fk_X12_418 dX12_message_277 hw (fun z98 hw => ?_)
                                refine lv_bipush (v := 12) hx hb dX12_message_280 (by decide) ?_
                                obtain ⟨K101, hK102, hw⟩ := jn_open hw
                                refine w_join (K := K101) 346 (fun (x99 : Unit) => [(10, .long z73), (6, .int x55), (5, .int x7.2.1), (4, .int x7.2.2), (3, .int a3), (2, .int a2), (1, .int a1), (0, .ref h0)]) (fun (x99 : Unit) => []) hl hH (fun x99 σ100 ls H locs hl hw hH => ?_) (fun jn103 => ?_)
                                · have hw := hK102 x99 σ100 hw
                                  have hl : lv_has ls 14 [(10, .long z73), (6, .int x55), (5, .int x7.2.1), (4, .int x7.2.2), (3, .int a3), (2, .int a2), (1, .int a1), (0, .ref h0)] := hl
                                  refine lv_aload_n hx hb dX12_message_346 rfl (lv_at hl 7 rfl) ?_
                                  refine lv_aload_n hx hb dX12_message_347 rfl (lv_at hl 7 rfl) ?_
                                  refine w_getI hF hH fk_X12_389 dX12_message_348 hw (fun z104 hw => ?_)
                                  refine w_putI hF hH fk_X12_368 dX12_message_351 rfl rfl rfl hw (fun σ105 H locs hw hH => ?_)
                                  refine lv_aload_n hx hb dX12_message_354 rfl (lv_at hl 7 rfl) ?_
                                  refine lv_iload_n hx hb dX12_message_355 rfl (lv_at hl 6 rfl) ?_
                                  refine lv_lload hx hb dX12_message_356 (lv_at hl 0 rfl) ?_
                                  refine w_cVv (As := [.int a1, .long z73]) (rest := []) hF hH hA mv_X12_425 (fun sz => c_X12_request l D t h0 L _ hH.2 a1 z73 _ hw sz) dX12_message_358 rfl rfl (by decide) rfl hl.1 (Nat.le_of_ble_eq_true rfl) (by decide) rfl (fun σ106 H locs hw hH => ?_)
                                  refine lv_aload_n hx hb dX12_message_361 rfl (lv_at hl 7 rfl) ?_
                                  refine w_getI hF hH fk_X12_418 dX12_message_362 hw (fun z108 hw => ?_)
                                  refine lv_bipush (v := 12) hx hb dX12_message_365 (by decide) ?_
                                  obtain ⟨K111, hK112, hw⟩ := jn_open hw
                                  refine w_join (K := K111) 389 (fun (x109 : Int32) => [(6, .int x55), (5, .int x109), (4, .int x7.2.2), (3, .int a3), (2, .int a2), (1, .int a1), (0, .ref h0)]) (fun (x109 : Int32) => []) hl hH (fun x109 σ110 ls H locs hl hw hH => ?_) (fun jn113 => ?_)
                                  · have hw := hK112 x109 σ110 hw
                                    have hl : lv_has ls 14 [(6, .int x55), (5, .int x109), (4, .int x7.2.2), (3, .int a3), (2, .int a2), (1, .int a1), (0, .ref h0)] := hl
                                    refine lv_iload hx hb dX12_message_389 (lv_at hl 2 rfl) ?_
                                    refine lv_aload_n hx hb dX12_message_391 rfl (lv_at hl 6 rfl) ?_
                                    refine w_getI hF hH fk_X12_404 dX12_message_392 hw (fun z114 hw => ?_)
                                    refine lv_iadd hx hb dX12_message_395 ?_
                                    refine w_nmi hw (fun z115 hw => ?_)
                                    refine lv_istore (lv' := [(4, .int z115), (6, .int x55), (5, .int x109), (3, .int a3), (2, .int a2), (1, .int a1), (0, .ref h0)]) hx hb dX12_message_396 hl (by decide) rfl (fun ls hl => ?_)
                                    refine lv_goto (tgt := 39) hx hb dX12_message_398 rfl ?_
                                    have hl : lv_has ls 14 [(6, .int x55), (5, .int x109), (4, .int z115), (3, .int a3), (2, .int a2), (1, .int a1), (0, .ref h0)] := lv_sub hl [1, 2, 0, 3, 4, 5, 6] rfl
                                    exact ih10 (x55, x109, z115) σ110 ls _ _ hl hw hH
                                  · skip
                                    refine w_icmp_eq (tgt := 389) hF dX12_message_367 rfl hw (fun hw => ?_) (fun hw => ?_)
                                    · have hl : lv_has ls 14 [(6, .int x55), (5, .int x7.2.1), (4, .int x7.2.2), (3, .int a3), (2, .int a2), (1, .int a1), (0, .ref h0)] := lv_sub hl [1, 2, 3, 4, 5, 6, 7] rfl
                                      exact jn113 x7.2.1 σ106 ls _ _ hl hw hH
                                    · refine lv_aload_n hx hb dX12_message_370 rfl (lv_at hl 7 rfl) ?_
                                      refine w_getI hF hH fk_X12_368 dX12_message_371 hw (fun z116 hw => ?_)
                                      refine lv_istore (lv' := [(5, .int z116), (10, .long z73), (6, .int x55), (4, .int x7.2.2), (3, .int a3), (2, .int a2), (1, .int a1), (0, .ref h0)]) hx hb dX12_message_374 hl (by decide) rfl (fun ls hl => ?_)
                                      refine lv_aload_n hx hb dX12_message_376 rfl (lv_at hl 7 rfl) ?_
                                      refine lv_aload_n hx hb dX12_message_377 rfl (lv_at hl 7 rfl) ?_
                                      refine w_getI hF hH fk_X12_368 dX12_message_378 hw (fun z117 hw => ?_)
                                      refine lv_aload_n hx hb dX12_message_381 rfl (lv_at hl 7 rfl) ?_
                                      refine w_getI hF hH fk_X12_371 dX12_message_382 hw (fun z118 hw => ?_)
                                      refine lv_iadd hx hb dX12_message_385 ?_
                                      refine w_nmi hw (fun z119 hw => ?_)
                                      refine w_putI hF hH fk_X12_389 dX12_message_386 rfl rfl rfl hw (fun σ120 H locs hw hH => ?_)
                                      have hl : lv_has ls 14 [(6, .int x55), (5, .int z116), (4, .int x7.2.2), (3, .int a3), (2, .int a2), (1, .int a1), (0, .ref h0)] := lv_sub hl [2, 0, 3, 4, 5, 6, 7] rfl
                                      exact jn113 z116 σ120 ls _ _ hl hw hH
                                · skip
                                  refine w_icmp_eq (tgt := 346) hF dX12_message_282 rfl hw (fun hw => ?_) (fun hw => ?_)
                                  · have hl : lv_has ls 14 [(10, .long z73), (6, .int x55), (5, .int x7.2.1), (4, .int x7.2.2), (3, .int a3), (2, .int a2), (1, .int a1), (0, .ref h0)] := lv_sub hl [1, 2, 3, 4, 5, 6, 7, 8] rfl
                                    exact jn103 () σ94 ls _ _ hl hw hH
                                  · refine lv_iload hx hb dX12_message_285 (lv_at hl 3 rfl) ?_
                                    refine w_if_lt (tgt := 346) hF dX12_message_287 rfl hw (fun hw => ?_) (fun hw => ?_)
                                    · have hl : lv_has ls 14 [(10, .long z73), (6, .int x55), (5, .int x7.2.1), (4, .int x7.2.2), (3, .int a3), (2, .int a2), (1, .int a1), (0, .ref h0)] := lv_sub hl [1, 2, 3, 4, 5, 6, 7, 8] rfl
                                      exact jn103 () σ94 ls _ _ hl hw hH
                                    · refine lv_aload_n hx hb dX12_message_290 rfl (lv_at hl 8 rfl) ?_
                                      refine w_getI hF hH fk_X12_389 dX12_message_291 hw (fun z121 hw => ?_)
                                      refine lv_istore (lv' := [(13, .int z121), (12, .int x75), (10, .long z73), (6, .int x55), (5, .int x7.2.1), (4, .int x7.2.2), (3, .int a3), (2, .int a2), (1, .int a1), (0, .ref h0)]) hx hb dX12_message_294 hl (by decide) rfl (fun ls hl => ?_)
                                      have hl : lv_has ls 14 [(13, .int z121), (10, .long z73), (6, .int x55), (5, .int x7.2.1), (4, .int x7.2.2), (3, .int a3), (2, .int a2), (1, .int a1), (0, .ref h0)] := lv_sub hl [0, 2, 3, 4, 5, 6, 7, 8, 9] rfl
                                      refine w_loop (β := Int32) (fun x122 => [(13, .int x122), (10, .long z73), (6, .int x55), (5, .int x7.2.1), (4, .int x7.2.2), (3, .int a3), (2, .int a2), (1, .int a1), (0, .ref h0)]) z121 hl hw hH (fun K124 x122 σ123 ls H locs hl hw hH ih125 => ?_)
                                      have hl : lv_has ls 14 [(13, .int x122), (10, .long z73), (6, .int x55), (5, .int x7.2.1), (4, .int x7.2.2), (3, .int a3), (2, .int a2), (1, .int a1), (0, .ref h0)] := hl
                                      refine lv_iload hx hb dX12_message_296 (lv_at hl 0 rfl) ?_
                                      refine lv_iload hx hb dX12_message_298 (lv_at hl 3 rfl) ?_
                                      refine lv_isub hx hb dX12_message_300 ?_
                                      refine w_nmi hw (fun z126 hw => ?_)
                                      refine lv_bipush (v := 8) hx hb dX12_message_301 (by decide) ?_
                                      refine lv_irem hx hb dX12_message_303 (by decide) ?_
                                      refine w_nmi hw (fun z127 hw => ?_)
                                      refine w_if_eq (tgt := 321) hF dX12_message_304 rfl hw (fun hw => ?_) (fun hw => ?_)
                                      · refine lv_aload_n hx hb dX12_message_321 rfl (lv_at hl 8 rfl) ?_
                                        refine lv_iload hx hb dX12_message_322 (lv_at hl 3 rfl) ?_
                                        refine w_putI hF hH fk_X12_368 dX12_message_324 rfl rfl rfl hw (fun σ128 H locs hw hH => ?_)
                                        refine lv_aload_n hx hb dX12_message_327 rfl (lv_at hl 8 rfl) ?_
                                        refine lv_bipush (v := 20) hx hb dX12_message_328 (by decide) ?_
                                        refine lv_iconst (v := 4) hx hb dX12_message_330 (by decide) ?_
                                        refine lv_iload hx hb dX12_message_331 (lv_at hl 0 rfl) ?_
                                        refine lv_iload hx hb dX12_message_333 (lv_at hl 3 rfl) ?_
                                        refine lv_isub hx hb dX12_message_335 ?_
                                        refine w_nmi hw (fun z129 hw => ?_)
                                        refine lv_i2l hx hb dX12_message_336 rfl ?_
                                        refine w_nml hw (fun z130 hw => ?_)
                                        refine w_cVv (As := [.int 20, .int 4, .long z130]) (rest := []) hF hH hA mv_X12_376 (fun sz => c_X12_set l D t h0 L _ hH.2 20 4 z130 _ hw sz) dX12_message_337 rfl rfl (by decide) rfl hl.1 (Nat.le_of_ble_eq_true rfl) (by decide) rfl (fun σ131 H locs hw hH => ?_)
                                        refine lv_aload_n hx hb dX12_message_340 rfl (lv_at hl 8 rfl) ?_
                                        refine lv_iload hx hb dX12_message_341 (lv_at hl 0 rfl) ?_
                                        refine w_putI hF hH fk_X12_389 dX12_message_343 rfl rfl rfl hw (fun σ133 H locs hw hH => ?_)
                                        have hl : lv_has ls 14 [(10, .long z73), (6, .int x55), (5, .int x7.2.1), (4, .int x7.2.2), (3, .int a3), (2, .int a2), (1, .int a1), (0, .ref h0)] := lv_sub hl [1, 2, 3, 4, 5, 6, 7, 8] rfl
                                        exact jn103 () σ133 ls _ _ hl hw hH
                                      · refine lv_aload_n hx hb dX12_message_307 rfl (lv_at hl 8 rfl) ?_
                                        refine w_getA 76 hF hH fk_X12_246 dX12_message_308 (by decide) rfl ?_
                                        refine lv_iload hx hb dX12_message_311 (lv_at hl 0 rfl) ?_
                                        refine lv_iconst (v := 0) hx hb dX12_message_313 (by decide) ?_
                                        refine w_bast 76 90000 hF hH dX12_message_314 (by decide) rfl rfl hw (fun σ134 H locs hw hH => ?_)
                                        obtain ⟨z135, ez135⟩ : ∃ z : Int32, z = x122 + 1 := ⟨_, rfl⟩
                                        have hw := hw z135 ez135
                                        refine lv_iinc (lv' := [(13, .int z135), (10, .long z73), (6, .int x55), (5, .int x7.2.1), (4, .int x7.2.2), (3, .int a3), (2, .int a2), (1, .int a1), (0, .ref h0)]) (k := 0) (v := z135) hx hb dX12_message_315 hl rfl ez135.symm (by decide) rfl (fun ls hl => ?_)
                                        refine lv_goto (tgt := 296) hx hb dX12_message_318 rfl ?_
                                        exact ih125 z135 σ134 ls _ _ hl hw hH
                              · have hl : lv_has ls 14 [(5, .int x7.2.1), (1, .int a1), (0, .ref h0)] := lv_sub hl [3, 7, 8] rfl
                                exact jn85 () σ94 ls _ _ hl hw hH
                            · skip
                              refine w_icmp_eq (tgt := 263) hF dX12_message_250 rfl hw (fun hw => ?_) (fun hw => ?_)
                              · exact jn97 () σ88 ls _ _ hl hw hH
                              · refine lv_aload_n hx hb dX12_message_253 rfl (lv_at hl 8 rfl) ?_
                                refine lv_iload_n hx hb dX12_message_254 rfl (lv_at hl 7 rfl) ?_
                                refine lv_lload hx hb dX12_message_255 (lv_at hl 1 rfl) ?_
                                refine w_cVi (As := [.int a1, .long z73]) (rest := []) hF hH hA mv_X12_421 (fun sz => c_X12_takeId l D t h0 L _ hH.2 a1 z73 _ hw sz) dX12_message_257 rfl rfl (by decide) rfl hl.1 (Nat.le_of_ble_eq_true rfl) (by decide) rfl (fun z137 σ136 H locs hw hH => ?_)
                                refine w_if_eq (tgt := 268) hF dX12_message_260 rfl hw (fun hw => ?_) (fun hw => ?_)
                                · have hl : lv_has ls 14 [(5, .int x7.2.1), (1, .int a1), (0, .ref h0)] := lv_sub hl [3, 7, 8] rfl
                                  exact jn85 () σ136 ls _ _ hl hw hH
                                · exact jn97 () σ136 ls _ _ hl hw hH
                          · skip
                            refine w_if_eq (tgt := 244) hF dX12_message_236 rfl hw (fun hw => ?_) (fun hw => ?_)
                            · exact jn91 () σ76 ls _ _ hl hw hH
                            · refine lv_iload hx hb dX12_message_239 (lv_at hl 4 rfl) ?_
                              refine w_if_eq (tgt := 268) hF dX12_message_241 rfl hw (fun hw => ?_) (fun hw => ?_)
                              · have hl : lv_has ls 14 [(5, .int x7.2.1), (1, .int a1), (0, .ref h0)] := lv_sub hl [3, 7, 8] rfl
                                exact jn85 () σ76 ls _ _ hl hw hH
                              · exact jn91 () σ76 ls _ _ hl hw hH
                      · skip
                        refine w_if_ne (tgt := 224) hF dX12_message_204 rfl hw (fun hw => ?_) (fun hw => ?_)
                        · refine lv_aload_n hx hb dX12_message_224 rfl (lv_at hl 7 rfl) ?_
                          refine w_getA 26 hF hH fk_X12_92 dX12_message_225 (by decide) rfl ?_
                          refine lv_iload_n hx hb dX12_message_228 rfl (lv_at hl 6 rfl) ?_
                          refine w_zald 26 6 hF hH dX12_message_229 (by decide) rfl rfl hw (fun z138 hw => ?_)
                          exact jn79 z138 σ72 ls _ _ hl hw hH
                        · refine lv_aload_n hx hb dX12_message_207 rfl (lv_at hl 7 rfl) ?_
                          refine w_getA 26 hF hH fk_X12_92 dX12_message_208 (by decide) rfl ?_
                          refine lv_iload_n hx hb dX12_message_211 rfl (lv_at hl 6 rfl) ?_
                          refine w_zald 26 6 hF hH dX12_message_212 (by decide) rfl rfl hw (fun z139 hw => ?_)
                          refine w_if_ne (tgt := 220) hF dX12_message_213 rfl hw (fun hw => ?_) (fun hw => ?_)
                          · refine lv_iconst (v := 0) hx hb dX12_message_220 (by decide) ?_
                            refine lv_goto (tgt := 230) hx hb dX12_message_221 rfl ?_
                            exact jn79 0 σ72 ls _ _ hl hw hH
                          · refine lv_iconst (v := 1) hx hb dX12_message_216 (by decide) ?_
                            refine lv_goto (tgt := 230) hx hb dX12_message_217 rfl ?_
                            exact jn79 1 σ72 ls _ _ hl hw hH
                    · skip
                      refine w_lif_eq (tgt := 176) hF dX12_message_168 dX12_message_169 rfl hw (fun hw => ?_) (fun hw => ?_)
                      · refine lv_iconst (v := 0) hx hb dX12_message_176 (by decide) ?_
                        exact jn67 0 σ60 ls _ _ hl hw hH
                      · refine lv_iconst (v := 1) hx hb dX12_message_172 (by decide) ?_
                        refine lv_goto (tgt := 177) hx hb dX12_message_173 rfl ?_
                        exact jn67 1 σ60 ls _ _ hl hw hH
                  · skip
                    refine w_if_ne (tgt := 152) hF dX12_message_145 rfl hw (fun hw => ?_) (fun hw => ?_)
                    · refine lv_iconst (v := 0) hx hb dX12_message_152 (by decide) ?_
                      exact jn59 0 σ53 ls _ _ hl hw hH
                    · refine lv_iconst (v := 1) hx hb dX12_message_148 (by decide) ?_
                      refine lv_goto (tgt := 153) hx hb dX12_message_149 rfl ?_
                      exact jn59 1 σ53 ls _ _ hl hw hH
                · skip
                  refine w_lif_ne (tgt := 137) hF dX12_message_129 dX12_message_130 rfl hw (fun hw => ?_) (fun hw => ?_)
                  · refine lv_iconst (v := 0) hx hb dX12_message_137 (by decide) ?_
                    have hl : lv_has ls 14 [(5, .int x7.2.1), (4, .int x7.2.2), (3, .int a3), (2, .int a2), (1, .int a1), (0, .ref h0)] := lv_sub hl [1, 2, 3, 4, 5, 6] rfl
                    exact jn52 0 σ47 ls _ _ hl hw hH
                  · refine lv_iconst (v := 1) hx hb dX12_message_133 (by decide) ?_
                    refine lv_goto (tgt := 138) hx hb dX12_message_134 rfl ?_
                    have hl : lv_has ls 14 [(5, .int x7.2.1), (4, .int x7.2.2), (3, .int a3), (2, .int a2), (1, .int a1), (0, .ref h0)] := lv_sub hl [1, 2, 3, 4, 5, 6] rfl
                    exact jn52 1 σ47 ls _ _ hl hw hH
              · skip
                refine w_lif_ne (tgt := 119) hF dX12_message_110 dX12_message_111 rfl hw (fun hw => ?_) (fun hw => ?_)
                · refine lv_lload hx hb dX12_message_119 (lv_at hl 0 rfl) ?_
                  refine lv_l2i hx hb dX12_message_121 rfl ?_
                  refine w_nmi hw (fun z140 hw => ?_)
                  have hl : lv_has ls 14 [(8, .long z41), (5, .int x7.2.1), (4, .int x7.2.2), (3, .int a3), (2, .int a2), (1, .int a1), (0, .ref h0)] := lv_sub hl [0, 3, 4, 5, 6, 7, 8] rfl
                  exact jn46 z140 σ40 ls _ _ hl hw hH
                · refine lv_iload hx hb dX12_message_114 (lv_at hl 1 rfl) ?_
                  refine lv_goto (tgt := 122) hx hb dX12_message_116 rfl ?_
                  have hl : lv_has ls 14 [(8, .long z41), (5, .int x7.2.1), (4, .int x7.2.2), (3, .int a3), (2, .int a2), (1, .int a1), (0, .ref h0)] := lv_sub hl [0, 3, 4, 5, 6, 7, 8] rfl
                  exact jn46 z31 σ40 ls _ _ hl hw hH
            · have hl : lv_has ls 14 [(5, .int x7.2.1), (1, .int a1), (0, .ref h0)] := lv_sub hl [2, 6, 7] rfl
              exact jn36 () σ38 ls _ _ hl hw hH
def F_X12_come_ (h0 : Nat) (L : Nat → Nat) (a1 : Int32) (post : Int32 → HS → Prop) (σ : HS) : Prop := ∀ z1 : Int32, z1 = sI σ h0 1 → ∀ σ2 : HS, σ2 = h_uI σ h0 1 0 → F_X12_isLine h0 L a1 (fun (z4 : Int32) (σ3 : HS) => jn (fun (K7 : Unit → HS → Prop) => ((z4.toInt = 0) → K7 () σ3) ∧ ((¬ z4.toInt = 0) → (0 ≤ a1.toInt ∧ a1.toInt < 6) ∧ ∀ z10 : Int32, z10 = sI σ3 (L 25) a1.toInt.toNat → ((¬ z10.toInt = 0) → ∀ z11 : Int32, z11 = 12100 * a1 → lw (fun (K14 : Int32 → HS → Prop) (x12 : Int32) (σ13 : HS) => ((z1.toInt ≤ x12.toInt) → (0 ≤ a1.toInt ∧ a1.toInt < 6) ∧ ∀ z16 : Int32, z16 = sI σ13 (L 30) a1.toInt.toNat → ∀ z17 : Int32, z17 = z16 + z1 → (0 ≤ a1.toInt ∧ a1.toInt < 6) ∧ ∀ σ18 : HS, σ18 = h_uI σ13 (L 30) a1.toInt.toNat z17 → lw (fun (K21 : (Int32 × Int32) → HS → Prop) (x19 : Int32 × Int32) (σ20 : HS) => jn (fun (K25 : Unit → HS → Prop) => ((x19.1.toInt = 0) → K25 () σ20) ∧ ((¬ x19.1.toInt = 0) → (0 ≤ a1.toInt ∧ a1.toInt < 6) ∧ ∀ z28 : Int32, z28 = sI σ20 (L 25) a1.toInt.toNat → ((z28.toInt = 0) → K25 () σ20) ∧ ((¬ z28.toInt = 0) → (0 ≤ a1.toInt ∧ a1.toInt < 6) ∧ ∀ z29 : Int32, z29 = sI σ20 (L 30) a1.toInt.toNat → ((z29.toInt < (4 : Int32).toInt) → K25 () σ20) ∧ (((4 : Int32).toInt ≤ z29.toInt) → ∀ z30 : Int32, z30 = z11 + 1 → (0 ≤ z30.toInt ∧ z30.toInt < 72600) ∧ ∀ z31 : Int32, z31 = sI σ20 (L 29) z30.toInt.toNat → ∀ z32 : Int32, z32 = z31 &&& 255 → ∀ z33 : Int32, z33 = z32 <<< (16 &&& 31) → ∀ z34 : Int32, z34 = z11 + 2 → (0 ≤ z34.toInt ∧ z34.toInt < 72600) ∧ ∀ z35 : Int32, z35 = sI σ20 (L 29) z34.toInt.toNat → ∀ z36 : Int32, z36 = z35 &&& 255 → ∀ z37 : Int32, z37 = z36 <<< (8 &&& 31) → ∀ z38 : Int32, z38 = z33 ||| z37 → ∀ z39 : Int32, z39 = z11 + 3 → (0 ≤ z39.toInt ∧ z39.toInt < 72600) ∧ ∀ z40 : Int32, z40 = sI σ20 (L 29) z39.toInt.toNat → ∀ z41 : Int32, z41 = z40 &&& 255 → ∀ z42 : Int32, z42 = z38 ||| z41 → (0 ≤ z11.toInt ∧ z11.toInt < 72600) ∧ ∀ z43 : Int32, z43 = sI σ20 (L 29) z11.toInt.toNat → jn (fun (K46 : Unit → HS → Prop) => ((¬ z43.toInt = 0) → K46 () σ20) ∧ ((z43.toInt = 0) → ((z42.toInt < (64 : Int32).toInt) → K46 () σ20) ∧ (((64 : Int32).toInt ≤ z42.toInt) → ((z42.toInt ≤ (4000 : Int32).toInt) → (0 ≤ a1.toInt ∧ a1.toInt < 6) ∧ ∀ z52 : Int32, z52 = sI σ20 (L 30) a1.toInt.toNat → ∀ z53 : Int32, z53 = 4 + z42 → jn (fun (K56 : Int32 → HS → Prop) => ((z52.toInt < z53.toInt) → K56 0 σ20) ∧ ((z53.toInt ≤ z52.toInt) → K56 1 σ20)) (fun (x54 : Int32) (σ55 : HS) => jn (fun (K61 : Int32 → HS → Prop) => ((x54.toInt = 0) → K61 x19.2 σ55) ∧ ((¬ x54.toInt = 0) → ∀ z64 : Int32, z64 = x19.2 + 1 → ∀ z65 : Int32, z65 = z11 + 4 → F_X12_message h0 L a1 z65 z42 (fun (σ66 : HS) => (0 ≤ a1.toInt ∧ a1.toInt < 6) ∧ ∀ z68 : Int32, z68 = sI σ66 (L 25) a1.toInt.toNat → ((z68.toInt = 0) → K61 z64 σ66) ∧ ((¬ z68.toInt = 0) → (0 ≤ a1.toInt ∧ a1.toInt < 6) ∧ ∀ z69 : Int32, z69 = sI σ66 (L 30) a1.toInt.toNat → ∀ z70 : Int32, z70 = 4 + z42 → ∀ z71 : Int32, z71 = z69 - z70 → (0 ≤ a1.toInt ∧ a1.toInt < 6) ∧ ∀ σ72 : HS, σ72 = h_uI σ66 (L 30) a1.toInt.toNat z71 → lw (fun (K75 : Int32 → HS → Prop) (x73 : Int32) (σ74 : HS) => (0 ≤ a1.toInt ∧ a1.toInt < 6) ∧ ∀ z77 : Int32, z77 = sI σ74 (L 30) a1.toInt.toNat → ((z77.toInt ≤ x73.toInt) → K61 z64 σ74) ∧ ((x73.toInt < z77.toInt) → ∀ z78 : Int32, z78 = z11 + x73 → ∀ z79 : Int32, z79 = z11 + 4 → ∀ z80 : Int32, z80 = z79 + z42 → ∀ z81 : Int32, z81 = z80 + x73 → (0 ≤ z81.toInt ∧ z81.toInt < 72600) ∧ ∀ z82 : Int32, z82 = sI σ74 (L 29) z81.toInt.toNat → (0 ≤ z78.toInt ∧ z78.toInt < 72600) ∧ ∀ σ83 : HS, σ83 = h_uI σ74 (L 29) z78.toInt.toNat (vp_nar .byte z82) → ∀ z84 : Int32, z84 = x73 + 1 → K75 z84 σ83)) 0 σ72)) σ55)) (fun (x59 : Int32) (σ60 : HS) => K21 (x54, x59) σ60))) ∧ (((4000 : Int32).toInt < z42.toInt) → K46 () σ20)))) (fun (x44 : Unit) (σ45 : HS) => F_X12_drops h0 L a1 (fun (σ49 : HS) => ∀ z51 : Int32, z51 = x19.2 + 1 → post z51 σ49) σ45))))) (fun (x23 : Unit) (σ24 : HS) => post x19.2 σ24)) (1, 0) σ18) ∧ ((x12.toInt < z1.toInt) → (0 ≤ a1.toInt ∧ a1.toInt < 6) ∧ ∀ z85 : Int32, z85 = sI σ13 (L 30) a1.toInt.toNat → ∀ z86 : Int32, z86 = z11 + z85 → ∀ z87 : Int32, z87 = z86 + x12 → (0 ≤ x12.toInt ∧ x12.toInt < 8000) ∧ ∀ z88 : Int32, z88 = sI σ13 (L 0) x12.toInt.toNat → (0 ≤ z87.toInt ∧ z87.toInt < 72600) ∧ ∀ σ89 : HS, σ89 = h_uI σ13 (L 29) z87.toInt.toNat (vp_nar .byte z88) → ∀ z90 : Int32, z90 = x12 + 1 → K14 z90 σ89)) 0 σ3) ∧ ((z10.toInt = 0) → K7 () σ3))) (fun (x5 : Unit) (σ6 : HS) => post (-1) σ6)) σ2
theorem dX12_come__0 : decode cX12_come_ 0 = .ok (.aload_n 0, 1) := by decide +kernel
theorem dX12_come__1 : decode cX12_come_ 1 = .ok (.getfield 261, 3) := by decide +kernel
theorem dX12_come__4 : decode cX12_come_ 4 = .ok (.istore_n 2, 1) := by decide +kernel
theorem dX12_come__5 : decode cX12_come_ 5 = .ok (.aload_n 0, 1) := by decide +kernel
theorem dX12_come__6 : decode cX12_come_ 6 = .ok (.iconst 0, 1) := by decide +kernel
theorem dX12_come__7 : decode cX12_come_ 7 = .ok (.putfield 261, 3) := by decide +kernel
theorem dX12_come__10 : decode cX12_come_ 10 = .ok (.iload_n 1, 1) := by decide +kernel
theorem dX12_come__11 : decode cX12_come_ 11 = .ok (.invokestatic 325, 3) := by decide +kernel
theorem dX12_come__14 : decode cX12_come_ 14 = .ok (.ifCond .eq 12, 3) := by decide +kernel
theorem dX12_come__17 : decode cX12_come_ 17 = .ok (.aload_n 0, 1) := by decide +kernel
theorem dX12_come__18 : decode cX12_come_ 18 = .ok (.getfield 89, 3) := by decide +kernel
theorem dX12_come__21 : decode cX12_come_ 21 = .ok (.iload_n 1, 1) := by decide +kernel
theorem dX12_come__22 : decode cX12_come_ 22 = .ok (.baload, 1) := by decide +kernel
theorem dX12_come__23 : decode cX12_come_ 23 = .ok (.ifCond .ne 5, 3) := by decide +kernel
theorem dX12_come__26 : decode cX12_come_ 26 = .ok (.iconst (-1), 1) := by decide +kernel
theorem dX12_come__27 : decode cX12_come_ 27 = .ok (.ireturn, 1) := by decide +kernel
theorem dX12_come__28 : decode cX12_come_ 28 = .ok (.sipush 12100, 3) := by decide +kernel
theorem dX12_come__31 : decode cX12_come_ 31 = .ok (.iload_n 1, 1) := by decide +kernel
theorem dX12_come__32 : decode cX12_come_ 32 = .ok (.imul, 1) := by decide +kernel
theorem dX12_come__33 : decode cX12_come_ 33 = .ok (.istore_n 3, 1) := by decide +kernel
theorem dX12_come__34 : decode cX12_come_ 34 = .ok (.iconst 0, 1) := by decide +kernel
theorem dX12_come__35 : decode cX12_come_ 35 = .ok (.istore 4, 2) := by decide +kernel
theorem dX12_come__37 : decode cX12_come_ 37 = .ok (.iload 4, 2) := by decide +kernel
theorem dX12_come__39 : decode cX12_come_ 39 = .ok (.iload_n 2, 1) := by decide +kernel
theorem dX12_come__40 : decode cX12_come_ 40 = .ok (.if_icmp .ge 32, 3) := by decide +kernel
theorem dX12_come__43 : decode cX12_come_ 43 = .ok (.aload_n 0, 1) := by decide +kernel
theorem dX12_come__44 : decode cX12_come_ 44 = .ok (.getfield 103, 3) := by decide +kernel
theorem dX12_come__47 : decode cX12_come_ 47 = .ok (.iload_n 3, 1) := by decide +kernel
theorem dX12_come__48 : decode cX12_come_ 48 = .ok (.aload_n 0, 1) := by decide +kernel
theorem dX12_come__49 : decode cX12_come_ 49 = .ok (.getfield 106, 3) := by decide +kernel
theorem dX12_come__52 : decode cX12_come_ 52 = .ok (.iload_n 1, 1) := by decide +kernel
theorem dX12_come__53 : decode cX12_come_ 53 = .ok (.iaload, 1) := by decide +kernel
theorem dX12_come__54 : decode cX12_come_ 54 = .ok (.iadd, 1) := by decide +kernel
theorem dX12_come__55 : decode cX12_come_ 55 = .ok (.iload 4, 2) := by decide +kernel
theorem dX12_come__57 : decode cX12_come_ 57 = .ok (.iadd, 1) := by decide +kernel
theorem dX12_come__58 : decode cX12_come_ 58 = .ok (.aload_n 0, 1) := by decide +kernel
theorem dX12_come__59 : decode cX12_come_ 59 = .ok (.getfield 7, 3) := by decide +kernel
theorem dX12_come__62 : decode cX12_come_ 62 = .ok (.iload 4, 2) := by decide +kernel
theorem dX12_come__64 : decode cX12_come_ 64 = .ok (.baload, 1) := by decide +kernel
theorem dX12_come__65 : decode cX12_come_ 65 = .ok (.bastore, 1) := by decide +kernel
theorem dX12_come__66 : decode cX12_come_ 66 = .ok (.iinc 4 1, 3) := by decide +kernel
theorem dX12_come__69 : decode cX12_come_ 69 = .ok (.goto (-32), 3) := by decide +kernel
theorem dX12_come__72 : decode cX12_come_ 72 = .ok (.aload_n 0, 1) := by decide +kernel
theorem dX12_come__73 : decode cX12_come_ 73 = .ok (.getfield 106, 3) := by decide +kernel
theorem dX12_come__76 : decode cX12_come_ 76 = .ok (.iload_n 1, 1) := by decide +kernel
theorem dX12_come__77 : decode cX12_come_ 77 = .ok (.dup2, 1) := by decide +kernel
theorem dX12_come__78 : decode cX12_come_ 78 = .ok (.iaload, 1) := by decide +kernel
theorem dX12_come__79 : decode cX12_come_ 79 = .ok (.iload_n 2, 1) := by decide +kernel
theorem dX12_come__80 : decode cX12_come_ 80 = .ok (.iadd, 1) := by decide +kernel
theorem dX12_come__81 : decode cX12_come_ 81 = .ok (.iastore, 1) := by decide +kernel
theorem dX12_come__82 : decode cX12_come_ 82 = .ok (.iconst 0, 1) := by decide +kernel
theorem dX12_come__83 : decode cX12_come_ 83 = .ok (.istore 4, 2) := by decide +kernel
theorem dX12_come__85 : decode cX12_come_ 85 = .ok (.iconst 1, 1) := by decide +kernel
theorem dX12_come__86 : decode cX12_come_ 86 = .ok (.istore 5, 2) := by decide +kernel
theorem dX12_come__88 : decode cX12_come_ 88 = .ok (.iload 5, 2) := by decide +kernel
theorem dX12_come__90 : decode cX12_come_ 90 = .ok (.ifCond .eq 209, 3) := by decide +kernel
theorem dX12_come__93 : decode cX12_come_ 93 = .ok (.aload_n 0, 1) := by decide +kernel
theorem dX12_come__94 : decode cX12_come_ 94 = .ok (.getfield 89, 3) := by decide +kernel
theorem dX12_come__97 : decode cX12_come_ 97 = .ok (.iload_n 1, 1) := by decide +kernel
theorem dX12_come__98 : decode cX12_come_ 98 = .ok (.baload, 1) := by decide +kernel
theorem dX12_come__99 : decode cX12_come_ 99 = .ok (.ifCond .eq 200, 3) := by decide +kernel
theorem dX12_come__102 : decode cX12_come_ 102 = .ok (.aload_n 0, 1) := by decide +kernel
theorem dX12_come__103 : decode cX12_come_ 103 = .ok (.getfield 106, 3) := by decide +kernel
theorem dX12_come__106 : decode cX12_come_ 106 = .ok (.iload_n 1, 1) := by decide +kernel
theorem dX12_come__107 : decode cX12_come_ 107 = .ok (.iaload, 1) := by decide +kernel
theorem dX12_come__108 : decode cX12_come_ 108 = .ok (.iconst 4, 1) := by decide +kernel
theorem dX12_come__109 : decode cX12_come_ 109 = .ok (.if_icmp .lt 190, 3) := by decide +kernel
theorem dX12_come__112 : decode cX12_come_ 112 = .ok (.aload_n 0, 1) := by decide +kernel
theorem dX12_come__113 : decode cX12_come_ 113 = .ok (.getfield 103, 3) := by decide +kernel
theorem dX12_come__116 : decode cX12_come_ 116 = .ok (.iload_n 3, 1) := by decide +kernel
theorem dX12_come__117 : decode cX12_come_ 117 = .ok (.iconst 1, 1) := by decide +kernel
theorem dX12_come__118 : decode cX12_come_ 118 = .ok (.iadd, 1) := by decide +kernel
theorem dX12_come__119 : decode cX12_come_ 119 = .ok (.baload, 1) := by decide +kernel
theorem dX12_come__120 : decode cX12_come_ 120 = .ok (.sipush 255, 3) := by decide +kernel
theorem dX12_come__123 : decode cX12_come_ 123 = .ok (.iand, 1) := by decide +kernel
theorem dX12_come__124 : decode cX12_come_ 124 = .ok (.bipush 16, 2) := by decide +kernel
theorem dX12_come__126 : decode cX12_come_ 126 = .ok (.ishl, 1) := by decide +kernel
theorem dX12_come__127 : decode cX12_come_ 127 = .ok (.aload_n 0, 1) := by decide +kernel
theorem dX12_come__128 : decode cX12_come_ 128 = .ok (.getfield 103, 3) := by decide +kernel
theorem dX12_come__131 : decode cX12_come_ 131 = .ok (.iload_n 3, 1) := by decide +kernel
theorem dX12_come__132 : decode cX12_come_ 132 = .ok (.iconst 2, 1) := by decide +kernel
theorem dX12_come__133 : decode cX12_come_ 133 = .ok (.iadd, 1) := by decide +kernel
theorem dX12_come__134 : decode cX12_come_ 134 = .ok (.baload, 1) := by decide +kernel
theorem dX12_come__135 : decode cX12_come_ 135 = .ok (.sipush 255, 3) := by decide +kernel
theorem dX12_come__138 : decode cX12_come_ 138 = .ok (.iand, 1) := by decide +kernel
theorem dX12_come__139 : decode cX12_come_ 139 = .ok (.bipush 8, 2) := by decide +kernel
theorem dX12_come__141 : decode cX12_come_ 141 = .ok (.ishl, 1) := by decide +kernel
theorem dX12_come__142 : decode cX12_come_ 142 = .ok (.ior, 1) := by decide +kernel
theorem dX12_come__143 : decode cX12_come_ 143 = .ok (.aload_n 0, 1) := by decide +kernel
theorem dX12_come__144 : decode cX12_come_ 144 = .ok (.getfield 103, 3) := by decide +kernel
theorem dX12_come__147 : decode cX12_come_ 147 = .ok (.iload_n 3, 1) := by decide +kernel
theorem dX12_come__148 : decode cX12_come_ 148 = .ok (.iconst 3, 1) := by decide +kernel
theorem dX12_come__149 : decode cX12_come_ 149 = .ok (.iadd, 1) := by decide +kernel
theorem dX12_come__150 : decode cX12_come_ 150 = .ok (.baload, 1) := by decide +kernel
theorem dX12_come__151 : decode cX12_come_ 151 = .ok (.sipush 255, 3) := by decide +kernel
theorem dX12_come__154 : decode cX12_come_ 154 = .ok (.iand, 1) := by decide +kernel
theorem dX12_come__155 : decode cX12_come_ 155 = .ok (.ior, 1) := by decide +kernel
theorem dX12_come__156 : decode cX12_come_ 156 = .ok (.istore 6, 2) := by decide +kernel
theorem dX12_come__158 : decode cX12_come_ 158 = .ok (.aload_n 0, 1) := by decide +kernel
theorem dX12_come__159 : decode cX12_come_ 159 = .ok (.getfield 103, 3) := by decide +kernel
theorem dX12_come__162 : decode cX12_come_ 162 = .ok (.iload_n 3, 1) := by decide +kernel
theorem dX12_come__163 : decode cX12_come_ 163 = .ok (.baload, 1) := by decide +kernel
theorem dX12_come__164 : decode cX12_come_ 164 = .ok (.ifCond .ne 18, 3) := by decide +kernel
theorem dX12_come__167 : decode cX12_come_ 167 = .ok (.iload 6, 2) := by decide +kernel
theorem dX12_come__169 : decode cX12_come_ 169 = .ok (.bipush 64, 2) := by decide +kernel
theorem dX12_come__171 : decode cX12_come_ 171 = .ok (.if_icmp .lt 11, 3) := by decide +kernel
theorem dX12_come__174 : decode cX12_come_ 174 = .ok (.iload 6, 2) := by decide +kernel
theorem dX12_come__176 : decode cX12_come_ 176 = .ok (.sipush 4000, 3) := by decide +kernel
theorem dX12_come__179 : decode cX12_come_ 179 = .ok (.if_icmp .le 14, 3) := by decide +kernel
theorem dX12_come__182 : decode cX12_come_ 182 = .ok (.aload_n 0, 1) := by decide +kernel
theorem dX12_come__183 : decode cX12_come_ 183 = .ok (.iload_n 1, 1) := by decide +kernel
theorem dX12_come__184 : decode cX12_come_ 184 = .ok (.invokevirtual 329, 3) := by decide +kernel
theorem dX12_come__187 : decode cX12_come_ 187 = .ok (.iinc 4 1, 3) := by decide +kernel
theorem dX12_come__190 : decode cX12_come_ 190 = .ok (.iload 4, 2) := by decide +kernel
theorem dX12_come__192 : decode cX12_come_ 192 = .ok (.ireturn, 1) := by decide +kernel
theorem dX12_come__193 : decode cX12_come_ 193 = .ok (.aload_n 0, 1) := by decide +kernel
theorem dX12_come__194 : decode cX12_come_ 194 = .ok (.getfield 106, 3) := by decide +kernel
theorem dX12_come__197 : decode cX12_come_ 197 = .ok (.iload_n 1, 1) := by decide +kernel
theorem dX12_come__198 : decode cX12_come_ 198 = .ok (.iaload, 1) := by decide +kernel
theorem dX12_come__199 : decode cX12_come_ 199 = .ok (.iconst 4, 1) := by decide +kernel
theorem dX12_come__200 : decode cX12_come_ 200 = .ok (.iload 6, 2) := by decide +kernel
theorem dX12_come__202 : decode cX12_come_ 202 = .ok (.iadd, 1) := by decide +kernel
theorem dX12_come__203 : decode cX12_come_ 203 = .ok (.if_icmp .lt 7, 3) := by decide +kernel
theorem dX12_come__206 : decode cX12_come_ 206 = .ok (.iconst 1, 1) := by decide +kernel
theorem dX12_come__207 : decode cX12_come_ 207 = .ok (.goto 4, 3) := by decide +kernel
theorem dX12_come__210 : decode cX12_come_ 210 = .ok (.iconst 0, 1) := by decide +kernel
theorem dX12_come__211 : decode cX12_come_ 211 = .ok (.istore 5, 2) := by decide +kernel
theorem dX12_come__213 : decode cX12_come_ 213 = .ok (.iload 5, 2) := by decide +kernel
theorem dX12_come__215 : decode cX12_come_ 215 = .ok (.ifCond .eq 81, 3) := by decide +kernel
theorem dX12_come__218 : decode cX12_come_ 218 = .ok (.iinc 4 1, 3) := by decide +kernel
theorem dX12_come__221 : decode cX12_come_ 221 = .ok (.aload_n 0, 1) := by decide +kernel
theorem dX12_come__222 : decode cX12_come_ 222 = .ok (.iload_n 1, 1) := by decide +kernel
theorem dX12_come__223 : decode cX12_come_ 223 = .ok (.iload_n 3, 1) := by decide +kernel
theorem dX12_come__224 : decode cX12_come_ 224 = .ok (.iconst 4, 1) := by decide +kernel
theorem dX12_come__225 : decode cX12_come_ 225 = .ok (.iadd, 1) := by decide +kernel
theorem dX12_come__226 : decode cX12_come_ 226 = .ok (.iload 6, 2) := by decide +kernel
theorem dX12_come__228 : decode cX12_come_ 228 = .ok (.invokevirtual 353, 3) := by decide +kernel
theorem dX12_come__231 : decode cX12_come_ 231 = .ok (.aload_n 0, 1) := by decide +kernel
theorem dX12_come__232 : decode cX12_come_ 232 = .ok (.getfield 89, 3) := by decide +kernel
theorem dX12_come__235 : decode cX12_come_ 235 = .ok (.iload_n 1, 1) := by decide +kernel
theorem dX12_come__236 : decode cX12_come_ 236 = .ok (.baload, 1) := by decide +kernel
theorem dX12_come__237 : decode cX12_come_ 237 = .ok (.ifCond .eq 59, 3) := by decide +kernel
theorem dX12_come__240 : decode cX12_come_ 240 = .ok (.aload_n 0, 1) := by decide +kernel
theorem dX12_come__241 : decode cX12_come_ 241 = .ok (.getfield 106, 3) := by decide +kernel
theorem dX12_come__244 : decode cX12_come_ 244 = .ok (.iload_n 1, 1) := by decide +kernel
theorem dX12_come__245 : decode cX12_come_ 245 = .ok (.dup2, 1) := by decide +kernel
theorem dX12_come__246 : decode cX12_come_ 246 = .ok (.iaload, 1) := by decide +kernel
theorem dX12_come__247 : decode cX12_come_ 247 = .ok (.iconst 4, 1) := by decide +kernel
theorem dX12_come__248 : decode cX12_come_ 248 = .ok (.iload 6, 2) := by decide +kernel
theorem dX12_come__250 : decode cX12_come_ 250 = .ok (.iadd, 1) := by decide +kernel
theorem dX12_come__251 : decode cX12_come_ 251 = .ok (.isub, 1) := by decide +kernel
theorem dX12_come__252 : decode cX12_come_ 252 = .ok (.iastore, 1) := by decide +kernel
theorem dX12_come__253 : decode cX12_come_ 253 = .ok (.iconst 0, 1) := by decide +kernel
theorem dX12_come__254 : decode cX12_come_ 254 = .ok (.istore 7, 2) := by decide +kernel
theorem dX12_come__256 : decode cX12_come_ 256 = .ok (.iload 7, 2) := by decide +kernel
theorem dX12_come__258 : decode cX12_come_ 258 = .ok (.aload_n 0, 1) := by decide +kernel
theorem dX12_come__259 : decode cX12_come_ 259 = .ok (.getfield 106, 3) := by decide +kernel
theorem dX12_come__262 : decode cX12_come_ 262 = .ok (.iload_n 1, 1) := by decide +kernel
theorem dX12_come__263 : decode cX12_come_ 263 = .ok (.iaload, 1) := by decide +kernel
theorem dX12_come__264 : decode cX12_come_ 264 = .ok (.if_icmp .ge 32, 3) := by decide +kernel
theorem dX12_come__267 : decode cX12_come_ 267 = .ok (.aload_n 0, 1) := by decide +kernel
theorem dX12_come__268 : decode cX12_come_ 268 = .ok (.getfield 103, 3) := by decide +kernel
theorem dX12_come__271 : decode cX12_come_ 271 = .ok (.iload_n 3, 1) := by decide +kernel
theorem dX12_come__272 : decode cX12_come_ 272 = .ok (.iload 7, 2) := by decide +kernel
theorem dX12_come__274 : decode cX12_come_ 274 = .ok (.iadd, 1) := by decide +kernel
theorem dX12_come__275 : decode cX12_come_ 275 = .ok (.aload_n 0, 1) := by decide +kernel
theorem dX12_come__276 : decode cX12_come_ 276 = .ok (.getfield 103, 3) := by decide +kernel
theorem dX12_come__279 : decode cX12_come_ 279 = .ok (.iload_n 3, 1) := by decide +kernel
theorem dX12_come__280 : decode cX12_come_ 280 = .ok (.iconst 4, 1) := by decide +kernel
theorem dX12_come__281 : decode cX12_come_ 281 = .ok (.iadd, 1) := by decide +kernel
theorem dX12_come__282 : decode cX12_come_ 282 = .ok (.iload 6, 2) := by decide +kernel
theorem dX12_come__284 : decode cX12_come_ 284 = .ok (.iadd, 1) := by decide +kernel
theorem dX12_come__285 : decode cX12_come_ 285 = .ok (.iload 7, 2) := by decide +kernel
theorem dX12_come__287 : decode cX12_come_ 287 = .ok (.iadd, 1) := by decide +kernel
theorem dX12_come__288 : decode cX12_come_ 288 = .ok (.baload, 1) := by decide +kernel
theorem dX12_come__289 : decode cX12_come_ 289 = .ok (.bastore, 1) := by decide +kernel
theorem dX12_come__290 : decode cX12_come_ 290 = .ok (.iinc 7 1, 3) := by decide +kernel
theorem dX12_come__293 : decode cX12_come_ 293 = .ok (.goto (-37), 3) := by decide +kernel
theorem dX12_come__296 : decode cX12_come_ 296 = .ok (.goto (-208), 3) := by decide +kernel
theorem dX12_come__299 : decode cX12_come_ 299 = .ok (.iload 4, 2) := by decide +kernel
theorem dX12_come__301 : decode cX12_come_ 301 = .ok (.ireturn, 1) := by decide +kernel
set_option maxRecDepth 100000 in
set_option maxHeartbeats 4000000 in
theorem c_X12_come_ (l : Launch) (D : va_G) (t : Nat → ClassId) (h0 : Nat) (L : Nat → Nat) (σ : HS) (hM : MdI h0 L σ) (a1 : Int32) (post : Int32 → HS → Prop) (hw : F_X12_come_ h0 L a1 post σ) (sz : Nat) : RMi l D t yX12_come_ cX12_come_ 8 (some .int) ({ frames := 16, cells := 0, slots := 0, locals := 431 }) h0 L σ sz [.ref h0, .int a1] post := by
  refine h_go (τ := τT) okT (by decide) (Nat.le_of_ble_eq_true rfl) ?_
  intro p e s m below meth c ls A hF hr hlk hAe hH0 hA hl
  unfold hB
  rw [hAe]
  clear hAe
  have hF : FX p m c cX12_come_ 8 s _ RX12 D t := hF
  have hx := hF.1.1
  have hb := hF.1.2.1
  have hH : RT D t A s.heap h0 L σ s.heap [] := ⟨hH0, hM⟩
  have hl : lv_has ls 8 [(0, .ref h0), (1, .int a1)] := hl
  unfold F_X12_come_ at hw
  refine lv_aload_n hx hb dX12_come__0 rfl (lv_at hl 0 rfl) ?_
  refine w_getI hF hH fk_X12_261 dX12_come__1 hw (fun z1 hw => ?_)
  refine lv_istore_n (lv' := [(2, .int z1), (0, .ref h0), (1, .int a1)]) hx hb dX12_come__4 rfl hl (by decide) rfl (fun ls hl => ?_)
  refine lv_aload_n hx hb dX12_come__5 rfl (lv_at hl 1 rfl) ?_
  refine lv_iconst (v := 0) hx hb dX12_come__6 (by decide) ?_
  refine w_putI hF hH fk_X12_261 dX12_come__7 rfl rfl rfl hw (fun σ2 H locs hw hH => ?_)
  refine lv_iload_n hx hb dX12_come__10 rfl (lv_at hl 2 rfl) ?_
  refine w_cSi (As := [.int a1]) (rest := []) hF hH hA ms_X12_325 (fun sz => c_X12_isLine l D t h0 L _ hH.2 a1 _ hw sz) dX12_come__11 rfl rfl (by decide) rfl hl.1 (Nat.le_of_ble_eq_true rfl) (by decide) rfl (fun z4 σ3 H locs hw hH => ?_)
  obtain ⟨K7, hK8, hw⟩ := jn_open hw
  refine w_join (K := K7) 26 (fun (x5 : Unit) => []) (fun (x5 : Unit) => []) hl hH (fun x5 σ6 ls H locs hl hw hH => ?_) (fun jn9 => ?_)
  · have hw := hK8 x5 σ6 hw
    have hl : lv_has ls 8 [] := hl
    refine lv_iconst (v := (-1)) hx hb dX12_come__26 (by decide) ?_
    exact w_reti hF hH hr hlk rfl dX12_come__27 hw
  · skip
    refine w_if_eq (tgt := 26) hF dX12_come__14 rfl hw (fun hw => ?_) (fun hw => ?_)
    · have hl : lv_has ls 8 [] := lv_sub hl [] rfl
      exact jn9 () σ3 ls _ _ hl hw hH
    · refine lv_aload_n hx hb dX12_come__17 rfl (lv_at hl 1 rfl) ?_
      refine w_getA 25 hF hH fk_X12_89 dX12_come__18 (by decide) rfl ?_
      refine lv_iload_n hx hb dX12_come__21 rfl (lv_at hl 2 rfl) ?_
      refine w_zald 25 6 hF hH dX12_come__22 (by decide) rfl rfl hw (fun z10 hw => ?_)
      refine w_if_ne (tgt := 28) hF dX12_come__23 rfl hw (fun hw => ?_) (fun hw => ?_)
      · refine lv_sipush (v := 12100) hx hb dX12_come__28 (by decide) ?_
        refine lv_iload_n hx hb dX12_come__31 rfl (lv_at hl 2 rfl) ?_
        refine lv_imul hx hb dX12_come__32 ?_
        refine w_nmi hw (fun z11 hw => ?_)
        refine lv_istore_n (lv' := [(3, .int z11), (2, .int z1), (0, .ref h0), (1, .int a1)]) hx hb dX12_come__33 rfl hl (by decide) rfl (fun ls hl => ?_)
        refine lv_iconst (v := 0) hx hb dX12_come__34 (by decide) ?_
        refine lv_istore (lv' := [(4, .int 0), (3, .int z11), (2, .int z1), (0, .ref h0), (1, .int a1)]) hx hb dX12_come__35 hl (by decide) rfl (fun ls hl => ?_)
        have hl : lv_has ls 8 [(4, .int 0), (3, .int z11), (2, .int z1), (1, .int a1), (0, .ref h0)] := lv_sub hl [0, 1, 2, 4, 3] rfl
        refine w_loop (β := Int32) (fun x12 => [(4, .int x12), (3, .int z11), (2, .int z1), (1, .int a1), (0, .ref h0)]) 0 hl hw hH (fun K14 x12 σ13 ls H locs hl hw hH ih15 => ?_)
        have hl : lv_has ls 8 [(4, .int x12), (3, .int z11), (2, .int z1), (1, .int a1), (0, .ref h0)] := hl
        refine lv_iload hx hb dX12_come__37 (lv_at hl 0 rfl) ?_
        refine lv_iload_n hx hb dX12_come__39 rfl (lv_at hl 2 rfl) ?_
        refine w_icmp_ge (tgt := 72) hF dX12_come__40 rfl hw (fun hw => ?_) (fun hw => ?_)
        · refine lv_aload_n hx hb dX12_come__72 rfl (lv_at hl 4 rfl) ?_
          refine w_getA 30 hF hH fk_X12_106 dX12_come__73 (by decide) rfl ?_
          refine lv_iload_n hx hb dX12_come__76 rfl (lv_at hl 3 rfl) ?_
          refine lv_dup2_11 hx hb dX12_come__77 rfl rfl ?_
          refine w_iald 30 6 hF hH dX12_come__78 (by decide) rfl rfl hw (fun z16 hw => ?_)
          refine lv_iload_n hx hb dX12_come__79 rfl (lv_at hl 2 rfl) ?_
          refine lv_iadd hx hb dX12_come__80 ?_
          refine w_nmi hw (fun z17 hw => ?_)
          refine w_iast 30 6 hF hH dX12_come__81 (by decide) rfl rfl hw (fun σ18 H locs hw hH => ?_)
          refine lv_iconst (v := 0) hx hb dX12_come__82 (by decide) ?_
          refine lv_istore (lv' := [(4, .int 0), (3, .int z11), (2, .int z1), (1, .int a1), (0, .ref h0)]) hx hb dX12_come__83 hl (by decide) rfl (fun ls hl => ?_)
          refine lv_iconst (v := 1) hx hb dX12_come__85 (by decide) ?_
          refine lv_istore (lv' := [(5, .int 1), (4, .int 0), (3, .int z11), (2, .int z1), (1, .int a1), (0, .ref h0)]) hx hb dX12_come__86 hl (by decide) rfl (fun ls hl => ?_)
          have hl : lv_has ls 8 [(5, .int 1), (4, .int 0), (3, .int z11), (1, .int a1), (0, .ref h0)] := lv_sub hl [0, 1, 2, 4, 5] rfl
          refine w_loop (β := Int32 × Int32) (fun x19 => [(5, .int x19.1), (4, .int x19.2), (3, .int z11), (1, .int a1), (0, .ref h0)]) (1, 0) hl hw hH (fun K21 x19 σ20 ls H locs hl hw hH ih22 => ?_)
          have hl : lv_has ls 8 [(5, .int x19.1), (4, .int x19.2), (3, .int z11), (1, .int a1), (0, .ref h0)] := hl
          refine lv_iload hx hb dX12_come__88 (lv_at hl 0 rfl) ?_
          obtain ⟨K25, hK26, hw⟩ := jn_open hw
          refine w_join (K := K25) 299 (fun (x23 : Unit) => [(4, .int x19.2)]) (fun (x23 : Unit) => []) hl hH (fun x23 σ24 ls H locs hl hw hH => ?_) (fun jn27 => ?_)
          · have hw := hK26 x23 σ24 hw
            have hl : lv_has ls 8 [(4, .int x19.2)] := hl
            refine lv_iload hx hb dX12_come__299 (lv_at hl 0 rfl) ?_
            exact w_reti hF hH hr hlk rfl dX12_come__301 hw
          · skip
            refine w_if_eq (tgt := 299) hF dX12_come__90 rfl hw (fun hw => ?_) (fun hw => ?_)
            · have hl : lv_has ls 8 [(4, .int x19.2)] := lv_sub hl [1] rfl
              exact jn27 () σ20 ls _ _ hl hw hH
            · refine lv_aload_n hx hb dX12_come__93 rfl (lv_at hl 4 rfl) ?_
              refine w_getA 25 hF hH fk_X12_89 dX12_come__94 (by decide) rfl ?_
              refine lv_iload_n hx hb dX12_come__97 rfl (lv_at hl 3 rfl) ?_
              refine w_zald 25 6 hF hH dX12_come__98 (by decide) rfl rfl hw (fun z28 hw => ?_)
              refine w_if_eq (tgt := 299) hF dX12_come__99 rfl hw (fun hw => ?_) (fun hw => ?_)
              · have hl : lv_has ls 8 [(4, .int x19.2)] := lv_sub hl [1] rfl
                exact jn27 () σ20 ls _ _ hl hw hH
              · refine lv_aload_n hx hb dX12_come__102 rfl (lv_at hl 4 rfl) ?_
                refine w_getA 30 hF hH fk_X12_106 dX12_come__103 (by decide) rfl ?_
                refine lv_iload_n hx hb dX12_come__106 rfl (lv_at hl 3 rfl) ?_
                refine w_iald 30 6 hF hH dX12_come__107 (by decide) rfl rfl hw (fun z29 hw => ?_)
                refine lv_iconst (v := 4) hx hb dX12_come__108 (by decide) ?_
                refine w_icmp_lt (tgt := 299) hF dX12_come__109 rfl hw (fun hw => ?_) (fun hw => ?_)
                · have hl : lv_has ls 8 [(4, .int x19.2)] := lv_sub hl [1] rfl
                  exact jn27 () σ20 ls _ _ hl hw hH
                · refine lv_aload_n hx hb dX12_come__112 rfl (lv_at hl 4 rfl) ?_
                  refine w_getA 29 hF hH fk_X12_103 dX12_come__113 (by decide) rfl ?_
                  refine lv_iload_n hx hb dX12_come__116 rfl (lv_at hl 2 rfl) ?_
                  refine lv_iconst (v := 1) hx hb dX12_come__117 (by decide) ?_
                  refine lv_iadd hx hb dX12_come__118 ?_
                  refine w_nmi hw (fun z30 hw => ?_)
                  refine w_bald 29 72600 hF hH dX12_come__119 (by decide) rfl rfl hw (fun z31 hw => ?_)
                  refine lv_sipush (v := 255) hx hb dX12_come__120 (by decide) ?_
                  refine lv_iand hx hb dX12_come__123 ?_
                  refine w_nmi hw (fun z32 hw => ?_)
                  refine lv_bipush (v := 16) hx hb dX12_come__124 (by decide) ?_
                  refine lv_ishl hx hb dX12_come__126 ?_
                  refine w_nmi hw (fun z33 hw => ?_)
                  refine lv_aload_n hx hb dX12_come__127 rfl (lv_at hl 4 rfl) ?_
                  refine w_getA 29 hF hH fk_X12_103 dX12_come__128 (by decide) rfl ?_
                  refine lv_iload_n hx hb dX12_come__131 rfl (lv_at hl 2 rfl) ?_
                  refine lv_iconst (v := 2) hx hb dX12_come__132 (by decide) ?_
                  refine lv_iadd hx hb dX12_come__133 ?_
                  refine w_nmi hw (fun z34 hw => ?_)
                  refine w_bald 29 72600 hF hH dX12_come__134 (by decide) rfl rfl hw (fun z35 hw => ?_)
                  refine lv_sipush (v := 255) hx hb dX12_come__135 (by decide) ?_
                  refine lv_iand hx hb dX12_come__138 ?_
                  refine w_nmi hw (fun z36 hw => ?_)
                  refine lv_bipush (v := 8) hx hb dX12_come__139 (by decide) ?_
                  refine lv_ishl hx hb dX12_come__141 ?_
                  refine w_nmi hw (fun z37 hw => ?_)
                  refine lv_ior hx hb dX12_come__142 ?_
                  refine w_nmi hw (fun z38 hw => ?_)
                  refine lv_aload_n hx hb dX12_come__143 rfl (lv_at hl 4 rfl) ?_
                  refine w_getA 29 hF hH fk_X12_103 dX12_come__144 (by decide) rfl ?_
                  refine lv_iload_n hx hb dX12_come__147 rfl (lv_at hl 2 rfl) ?_
                  refine lv_iconst (v := 3) hx hb dX12_come__148 (by decide) ?_
                  refine lv_iadd hx hb dX12_come__149 ?_
                  refine w_nmi hw (fun z39 hw => ?_)
                  refine w_bald 29 72600 hF hH dX12_come__150 (by decide) rfl rfl hw (fun z40 hw => ?_)
                  refine lv_sipush (v := 255) hx hb dX12_come__151 (by decide) ?_
                  refine lv_iand hx hb dX12_come__154 ?_
                  refine w_nmi hw (fun z41 hw => ?_)
                  refine lv_ior hx hb dX12_come__155 ?_
                  refine w_nmi hw (fun z42 hw => ?_)
                  refine lv_istore (lv' := [(6, .int z42), (5, .int x19.1), (4, .int x19.2), (3, .int z11), (1, .int a1), (0, .ref h0)]) hx hb dX12_come__156 hl (by decide) rfl (fun ls hl => ?_)
                  refine lv_aload_n hx hb dX12_come__158 rfl (lv_at hl 5 rfl) ?_
                  refine w_getA 29 hF hH fk_X12_103 dX12_come__159 (by decide) rfl ?_
                  refine lv_iload_n hx hb dX12_come__162 rfl (lv_at hl 3 rfl) ?_
                  refine w_bald 29 72600 hF hH dX12_come__163 (by decide) rfl rfl hw (fun z43 hw => ?_)
                  obtain ⟨K46, hK47, hw⟩ := jn_open hw
                  refine w_join (K := K46) 182 (fun (x44 : Unit) => [(4, .int x19.2), (1, .int a1), (0, .ref h0)]) (fun (x44 : Unit) => []) hl hH (fun x44 σ45 ls H locs hl hw hH => ?_) (fun jn48 => ?_)
                  · have hw := hK47 x44 σ45 hw
                    have hl : lv_has ls 8 [(4, .int x19.2), (1, .int a1), (0, .ref h0)] := hl
                    refine lv_aload_n hx hb dX12_come__182 rfl (lv_at hl 2 rfl) ?_
                    refine lv_iload_n hx hb dX12_come__183 rfl (lv_at hl 1 rfl) ?_
                    refine w_cVv (As := [.int a1]) (rest := []) hF hH hA mv_X12_329 (fun sz => c_X12_drops l D t h0 L _ hH.2 a1 _ hw sz) dX12_come__184 rfl rfl (by decide) rfl hl.1 (Nat.le_of_ble_eq_true rfl) (by decide) rfl (fun σ49 H locs hw hH => ?_)
                    obtain ⟨z51, ez51⟩ : ∃ z : Int32, z = x19.2 + 1 := ⟨_, rfl⟩
                    have hw := hw z51 ez51
                    refine lv_iinc (lv' := [(4, .int z51), (1, .int a1), (0, .ref h0)]) (k := 0) (v := z51) hx hb dX12_come__187 hl rfl ez51.symm (by decide) rfl (fun ls hl => ?_)
                    refine lv_iload hx hb dX12_come__190 (lv_at hl 0 rfl) ?_
                    exact w_reti hF hH hr hlk rfl dX12_come__192 hw
                  · skip
                    refine w_if_ne (tgt := 182) hF dX12_come__164 rfl hw (fun hw => ?_) (fun hw => ?_)
                    · have hl : lv_has ls 8 [(4, .int x19.2), (1, .int a1), (0, .ref h0)] := lv_sub hl [2, 4, 5] rfl
                      exact jn48 () σ20 ls _ _ hl hw hH
                    · refine lv_iload hx hb dX12_come__167 (lv_at hl 0 rfl) ?_
                      refine lv_bipush (v := 64) hx hb dX12_come__169 (by decide) ?_
                      refine w_icmp_lt (tgt := 182) hF dX12_come__171 rfl hw (fun hw => ?_) (fun hw => ?_)
                      · have hl : lv_has ls 8 [(4, .int x19.2), (1, .int a1), (0, .ref h0)] := lv_sub hl [2, 4, 5] rfl
                        exact jn48 () σ20 ls _ _ hl hw hH
                      · refine lv_iload hx hb dX12_come__174 (lv_at hl 0 rfl) ?_
                        refine lv_sipush (v := 4000) hx hb dX12_come__176 (by decide) ?_
                        refine w_icmp_le (tgt := 193) hF dX12_come__179 rfl hw (fun hw => ?_) (fun hw => ?_)
                        · refine lv_aload_n hx hb dX12_come__193 rfl (lv_at hl 5 rfl) ?_
                          refine w_getA 30 hF hH fk_X12_106 dX12_come__194 (by decide) rfl ?_
                          refine lv_iload_n hx hb dX12_come__197 rfl (lv_at hl 4 rfl) ?_
                          refine w_iald 30 6 hF hH dX12_come__198 (by decide) rfl rfl hw (fun z52 hw => ?_)
                          refine lv_iconst (v := 4) hx hb dX12_come__199 (by decide) ?_
                          refine lv_iload hx hb dX12_come__200 (lv_at hl 0 rfl) ?_
                          refine lv_iadd hx hb dX12_come__202 ?_
                          refine w_nmi hw (fun z53 hw => ?_)
                          obtain ⟨K56, hK57, hw⟩ := jn_open hw
                          refine w_join (K := K56) 211 (fun (x54 : Int32) => [(6, .int z42), (4, .int x19.2), (3, .int z11), (1, .int a1), (0, .ref h0)]) (fun (x54 : Int32) => [.int x54]) hl hH (fun x54 σ55 ls H locs hl hw hH => ?_) (fun jn58 => ?_)
                          · have hw := hK57 x54 σ55 hw
                            have hl : lv_has ls 8 [(6, .int z42), (4, .int x19.2), (3, .int z11), (1, .int a1), (0, .ref h0)] := hl
                            refine lv_istore (lv' := [(5, .int x54), (6, .int z42), (4, .int x19.2), (3, .int z11), (1, .int a1), (0, .ref h0)]) hx hb dX12_come__211 hl (by decide) rfl (fun ls hl => ?_)
                            refine lv_iload hx hb dX12_come__213 (lv_at hl 0 rfl) ?_
                            obtain ⟨K61, hK62, hw⟩ := jn_open hw
                            refine w_join (K := K61) 296 (fun (x59 : Int32) => [(5, .int x54), (4, .int x59), (3, .int z11), (1, .int a1), (0, .ref h0)]) (fun (x59 : Int32) => []) hl hH (fun x59 σ60 ls H locs hl hw hH => ?_) (fun jn63 => ?_)
                            · have hw := hK62 x59 σ60 hw
                              have hl : lv_has ls 8 [(5, .int x54), (4, .int x59), (3, .int z11), (1, .int a1), (0, .ref h0)] := hl
                              refine lv_goto (tgt := 88) hx hb dX12_come__296 rfl ?_
                              exact ih22 (x54, x59) σ60 ls _ _ hl hw hH
                            · skip
                              refine w_if_eq (tgt := 296) hF dX12_come__215 rfl hw (fun hw => ?_) (fun hw => ?_)
                              · have hl : lv_has ls 8 [(5, .int x54), (4, .int x19.2), (3, .int z11), (1, .int a1), (0, .ref h0)] := lv_sub hl [0, 2, 3, 4, 5] rfl
                                exact jn63 x19.2 σ55 ls _ _ hl hw hH
                              · obtain ⟨z64, ez64⟩ : ∃ z : Int32, z = x19.2 + 1 := ⟨_, rfl⟩
                                have hw := hw z64 ez64
                                refine lv_iinc (lv' := [(4, .int z64), (5, .int x54), (6, .int z42), (3, .int z11), (1, .int a1), (0, .ref h0)]) (k := 2) (v := z64) hx hb dX12_come__218 hl rfl ez64.symm (by decide) rfl (fun ls hl => ?_)
                                refine lv_aload_n hx hb dX12_come__221 rfl (lv_at hl 5 rfl) ?_
                                refine lv_iload_n hx hb dX12_come__222 rfl (lv_at hl 4 rfl) ?_
                                refine lv_iload_n hx hb dX12_come__223 rfl (lv_at hl 3 rfl) ?_
                                refine lv_iconst (v := 4) hx hb dX12_come__224 (by decide) ?_
                                refine lv_iadd hx hb dX12_come__225 ?_
                                refine w_nmi hw (fun z65 hw => ?_)
                                refine lv_iload hx hb dX12_come__226 (lv_at hl 2 rfl) ?_
                                refine w_cVv (As := [.int a1, .int z65, .int z42]) (rest := []) hF hH hA mv_X12_353 (fun sz => c_X12_message l D t h0 L _ hH.2 a1 z65 z42 _ hw sz) dX12_come__228 rfl rfl (by decide) rfl hl.1 (Nat.le_of_ble_eq_true rfl) (by decide) rfl (fun σ66 H locs hw hH => ?_)
                                refine lv_aload_n hx hb dX12_come__231 rfl (lv_at hl 5 rfl) ?_
                                refine w_getA 25 hF hH fk_X12_89 dX12_come__232 (by decide) rfl ?_
                                refine lv_iload_n hx hb dX12_come__235 rfl (lv_at hl 4 rfl) ?_
                                refine w_zald 25 6 hF hH dX12_come__236 (by decide) rfl rfl hw (fun z68 hw => ?_)
                                refine w_if_eq (tgt := 296) hF dX12_come__237 rfl hw (fun hw => ?_) (fun hw => ?_)
                                · have hl : lv_has ls 8 [(5, .int x54), (4, .int z64), (3, .int z11), (1, .int a1), (0, .ref h0)] := lv_sub hl [1, 0, 3, 4, 5] rfl
                                  exact jn63 z64 σ66 ls _ _ hl hw hH
                                · refine lv_aload_n hx hb dX12_come__240 rfl (lv_at hl 5 rfl) ?_
                                  refine w_getA 30 hF hH fk_X12_106 dX12_come__241 (by decide) rfl ?_
                                  refine lv_iload_n hx hb dX12_come__244 rfl (lv_at hl 4 rfl) ?_
                                  refine lv_dup2_11 hx hb dX12_come__245 rfl rfl ?_
                                  refine w_iald 30 6 hF hH dX12_come__246 (by decide) rfl rfl hw (fun z69 hw => ?_)
                                  refine lv_iconst (v := 4) hx hb dX12_come__247 (by decide) ?_
                                  refine lv_iload hx hb dX12_come__248 (lv_at hl 2 rfl) ?_
                                  refine lv_iadd hx hb dX12_come__250 ?_
                                  refine w_nmi hw (fun z70 hw => ?_)
                                  refine lv_isub hx hb dX12_come__251 ?_
                                  refine w_nmi hw (fun z71 hw => ?_)
                                  refine w_iast 30 6 hF hH dX12_come__252 (by decide) rfl rfl hw (fun σ72 H locs hw hH => ?_)
                                  refine lv_iconst (v := 0) hx hb dX12_come__253 (by decide) ?_
                                  refine lv_istore (lv' := [(7, .int 0), (4, .int z64), (5, .int x54), (6, .int z42), (3, .int z11), (1, .int a1), (0, .ref h0)]) hx hb dX12_come__254 hl (by decide) rfl (fun ls hl => ?_)
                                  have hl : lv_has ls 8 [(7, .int 0), (6, .int z42), (5, .int x54), (4, .int z64), (3, .int z11), (1, .int a1), (0, .ref h0)] := lv_sub hl [0, 3, 2, 1, 4, 5, 6] rfl
                                  refine w_loop (β := Int32) (fun x73 => [(7, .int x73), (6, .int z42), (5, .int x54), (4, .int z64), (3, .int z11), (1, .int a1), (0, .ref h0)]) 0 hl hw hH (fun K75 x73 σ74 ls H locs hl hw hH ih76 => ?_)
                                  have hl : lv_has ls 8 [(7, .int x73), (6, .int z42), (5, .int x54), (4, .int z64), (3, .int z11), (1, .int a1), (0, .ref h0)] := hl
                                  refine lv_iload hx hb dX12_come__256 (lv_at hl 0 rfl) ?_
                                  refine lv_aload_n hx hb dX12_come__258 rfl (lv_at hl 6 rfl) ?_
                                  refine w_getA 30 hF hH fk_X12_106 dX12_come__259 (by decide) rfl ?_
                                  refine lv_iload_n hx hb dX12_come__262 rfl (lv_at hl 5 rfl) ?_
                                  refine w_iald 30 6 hF hH dX12_come__263 (by decide) rfl rfl hw (fun z77 hw => ?_)
                                  refine w_icmp_ge (tgt := 296) hF dX12_come__264 rfl hw (fun hw => ?_) (fun hw => ?_)
                                  · have hl : lv_has ls 8 [(5, .int x54), (4, .int z64), (3, .int z11), (1, .int a1), (0, .ref h0)] := lv_sub hl [2, 3, 4, 5, 6] rfl
                                    exact jn63 z64 σ74 ls _ _ hl hw hH
                                  · refine lv_aload_n hx hb dX12_come__267 rfl (lv_at hl 6 rfl) ?_
                                    refine w_getA 29 hF hH fk_X12_103 dX12_come__268 (by decide) rfl ?_
                                    refine lv_iload_n hx hb dX12_come__271 rfl (lv_at hl 4 rfl) ?_
                                    refine lv_iload hx hb dX12_come__272 (lv_at hl 0 rfl) ?_
                                    refine lv_iadd hx hb dX12_come__274 ?_
                                    refine w_nmi hw (fun z78 hw => ?_)
                                    refine lv_aload_n hx hb dX12_come__275 rfl (lv_at hl 6 rfl) ?_
                                    refine w_getA 29 hF hH fk_X12_103 dX12_come__276 (by decide) rfl ?_
                                    refine lv_iload_n hx hb dX12_come__279 rfl (lv_at hl 4 rfl) ?_
                                    refine lv_iconst (v := 4) hx hb dX12_come__280 (by decide) ?_
                                    refine lv_iadd hx hb dX12_come__281 ?_
                                    refine w_nmi hw (fun z79 hw => ?_)
                                    refine lv_iload hx hb dX12_come__282 (lv_at hl 1 rfl) ?_
                                    refine lv_iadd hx hb dX12_come__284 ?_
                                    refine w_nmi hw (fun z80 hw => ?_)
                                    refine lv_iload hx hb dX12_come__285 (lv_at hl 0 rfl) ?_
                                    refine lv_iadd hx hb dX12_come__287 ?_
                                    refine w_nmi hw (fun z81 hw => ?_)
                                    refine w_bald 29 72600 hF hH dX12_come__288 (by decide) rfl rfl hw (fun z82 hw => ?_)
                                    refine w_bast 29 72600 hF hH dX12_come__289 (by decide) rfl rfl hw (fun σ83 H locs hw hH => ?_)
                                    obtain ⟨z84, ez84⟩ : ∃ z : Int32, z = x73 + 1 := ⟨_, rfl⟩
                                    have hw := hw z84 ez84
                                    refine lv_iinc (lv' := [(7, .int z84), (6, .int z42), (5, .int x54), (4, .int z64), (3, .int z11), (1, .int a1), (0, .ref h0)]) (k := 0) (v := z84) hx hb dX12_come__290 hl rfl ez84.symm (by decide) rfl (fun ls hl => ?_)
                                    refine lv_goto (tgt := 256) hx hb dX12_come__293 rfl ?_
                                    exact ih76 z84 σ83 ls _ _ hl hw hH
                          · skip
                            refine w_icmp_lt (tgt := 210) hF dX12_come__203 rfl hw (fun hw => ?_) (fun hw => ?_)
                            · refine lv_iconst (v := 0) hx hb dX12_come__210 (by decide) ?_
                              have hl : lv_has ls 8 [(6, .int z42), (4, .int x19.2), (3, .int z11), (1, .int a1), (0, .ref h0)] := lv_sub hl [0, 2, 3, 4, 5] rfl
                              exact jn58 0 σ20 ls _ _ hl hw hH
                            · refine lv_iconst (v := 1) hx hb dX12_come__206 (by decide) ?_
                              refine lv_goto (tgt := 211) hx hb dX12_come__207 rfl ?_
                              have hl : lv_has ls 8 [(6, .int z42), (4, .int x19.2), (3, .int z11), (1, .int a1), (0, .ref h0)] := lv_sub hl [0, 2, 3, 4, 5] rfl
                              exact jn58 1 σ20 ls _ _ hl hw hH
                        · have hl : lv_has ls 8 [(4, .int x19.2), (1, .int a1), (0, .ref h0)] := lv_sub hl [2, 4, 5] rfl
                          exact jn48 () σ20 ls _ _ hl hw hH
        · refine lv_aload_n hx hb dX12_come__43 rfl (lv_at hl 4 rfl) ?_
          refine w_getA 29 hF hH fk_X12_103 dX12_come__44 (by decide) rfl ?_
          refine lv_iload_n hx hb dX12_come__47 rfl (lv_at hl 1 rfl) ?_
          refine lv_aload_n hx hb dX12_come__48 rfl (lv_at hl 4 rfl) ?_
          refine w_getA 30 hF hH fk_X12_106 dX12_come__49 (by decide) rfl ?_
          refine lv_iload_n hx hb dX12_come__52 rfl (lv_at hl 3 rfl) ?_
          refine w_iald 30 6 hF hH dX12_come__53 (by decide) rfl rfl hw (fun z85 hw => ?_)
          refine lv_iadd hx hb dX12_come__54 ?_
          refine w_nmi hw (fun z86 hw => ?_)
          refine lv_iload hx hb dX12_come__55 (lv_at hl 0 rfl) ?_
          refine lv_iadd hx hb dX12_come__57 ?_
          refine w_nmi hw (fun z87 hw => ?_)
          refine lv_aload_n hx hb dX12_come__58 rfl (lv_at hl 4 rfl) ?_
          refine w_getA 0 hF hH fk_X12_7 dX12_come__59 (by decide) rfl ?_
          refine lv_iload hx hb dX12_come__62 (lv_at hl 0 rfl) ?_
          refine w_bald 0 8000 hF hH dX12_come__64 (by decide) rfl rfl hw (fun z88 hw => ?_)
          refine w_bast 29 72600 hF hH dX12_come__65 (by decide) rfl rfl hw (fun σ89 H locs hw hH => ?_)
          obtain ⟨z90, ez90⟩ : ∃ z : Int32, z = x12 + 1 := ⟨_, rfl⟩
          have hw := hw z90 ez90
          refine lv_iinc (lv' := [(4, .int z90), (3, .int z11), (2, .int z1), (1, .int a1), (0, .ref h0)]) (k := 0) (v := z90) hx hb dX12_come__66 hl rfl ez90.symm (by decide) rfl (fun ls hl => ?_)
          refine lv_goto (tgt := 37) hx hb dX12_come__69 rfl ?_
          exact ih15 z90 σ89 ls _ _ hl hw hH
      · have hl : lv_has ls 8 [] := lv_sub hl [] rfl
        exact jn9 () σ3 ls _ _ hl hw hH
def F_X12_tick (h0 : Nat) (L : Nat → Nat) (a1 : Int32) (post : Int32 → HS → Prop) (σ : HS) : Prop := jn (fun (K3 : Unit → HS → Prop) => ((a1.toInt < 0) → K3 () σ) ∧ ((0 ≤ a1.toInt) → ((a1.toInt ≤ (1000000 : Int32).toInt) → ∀ z6 : Int64, z6 = sJ σ h0 2 → ∀ z7 : Int64, z7 = (a1 : Int32).toInt64 → ∀ z8 : Int64, z8 = z6 + z7 → ∀ σ9 : HS, σ9 = h_uJ σ h0 2 z8 → lw (fun (K12 : (Int32 × Int64) → HS → Prop) (x10 : Int32 × Int64) (σ11 : HS) => ((x10.1.toInt = 0) → (0 ≤ (1 : Int32).toInt ∧ (1 : Int32).toInt ≤ 1) ∧ post 1 σ11) ∧ ((¬ x10.1.toInt = 0) → lw (fun (K16 : (Int32 × Int32) → HS → Prop) (x14 : Int32 × Int32) (σ15 : HS) => (((40 : Int32).toInt ≤ x14.1.toInt) → jn (fun (K20 : Int32 → HS → Prop) => ((x14.2.toInt < 0) → K20 0 σ15) ∧ ((0 ≤ x14.2.toInt) → K20 1 σ15)) (fun (x18 : Int32) (σ19 : HS) => jn (fun (K25 : Int64 → HS → Prop) => ((x18.toInt = 0) → K25 x10.2 σ19) ∧ ((¬ x18.toInt = 0) → (0 ≤ x14.2.toInt ∧ x14.2.toInt < 40) ∧ ∀ z28 : Int64, z28 = sJ σ19 (L 41) x14.2.toInt.toNat → (0 ≤ x14.2.toInt ∧ x14.2.toInt < 40) ∧ ∀ σ29 : HS, σ29 = h_uI σ19 (L 47) x14.2.toInt.toNat (vp_nar .boolean 0) → (0 ≤ x14.2.toInt ∧ x14.2.toInt < 40) ∧ ∀ σ30 : HS, σ30 = h_uI σ29 (L 46) x14.2.toInt.toNat 0 → (0 ≤ x14.2.toInt ∧ x14.2.toInt < 40) ∧ ∀ z31 : Int32, z31 = sI σ30 (L 43) x14.2.toInt.toNat → F_X12_redo h0 L z31 (fun (σ32 : HS) => K25 z28 σ32) σ30)) (fun (x23 : Int64) (σ24 : HS) => K12 (x18, x23) σ24))) ∧ ((x14.1.toInt < (40 : Int32).toInt) → (0 ≤ x14.1.toInt ∧ x14.1.toInt < 40) ∧ ∀ z34 : Int64, z34 = sJ σ15 (L 41) x14.1.toInt.toNat → jn (fun (K37 : Int32 → HS → Prop) => jn (fun (K60 : Unit → HS → Prop) => ((z34.toInt ≤ x10.2.toInt) → K60 () σ15) ∧ ((x10.2.toInt < z34.toInt) → (0 ≤ x14.1.toInt ∧ x14.1.toInt < 40) ∧ ∀ z63 : Int32, z63 = sI σ15 (L 47) x14.1.toInt.toNat → ((z63.toInt = 0) → K60 () σ15) ∧ ((¬ z63.toInt = 0) → ∀ z64 : Int64, z64 = sJ σ15 h0 2 → (0 ≤ x14.1.toInt ∧ x14.1.toInt < 40) ∧ ∀ z65 : Int64, z65 = sJ σ15 (L 49) x14.1.toInt.toNat → ∀ z66 : Int64, z66 = z64 - z65 → ((z66.toInt < (35 : Int64).toInt) → K60 () σ15) ∧ (((35 : Int64).toInt ≤ z66.toInt) → K37 1 σ15)))) (fun (x58 : Unit) (σ59 : HS) => K37 0 σ59)) (fun (x35 : Int32) (σ36 : HS) => jn (fun (K42 : Int32 → HS → Prop) => jn (fun (K48 : Unit → HS → Prop) => ((x35.toInt = 0) → K48 () σ36) ∧ ((¬ x35.toInt = 0) → jn (fun (K53 : Unit → HS → Prop) => ((x14.2.toInt < 0) → K53 () σ36) ∧ ((0 ≤ x14.2.toInt) → (0 ≤ x14.1.toInt ∧ x14.1.toInt < 40) ∧ ∀ z56 : Int64, z56 = sJ σ36 (L 41) x14.1.toInt.toNat → (0 ≤ x14.2.toInt ∧ x14.2.toInt < 40) ∧ ∀ z57 : Int64, z57 = sJ σ36 (L 41) x14.2.toInt.toNat → ((z57.toInt ≤ z56.toInt) → K48 () σ36) ∧ ((z56.toInt < z57.toInt) → K53 () σ36))) (fun (x51 : Unit) (σ52 : HS) => K42 x14.1 σ52))) (fun (x46 : Unit) (σ47 : HS) => K42 x14.2 σ47)) (fun (x40 : Int32) (σ41 : HS) => ∀ z45 : Int32, z45 = x14.1 + 1 → K16 (z45, x40) σ41)))) (0, (-1)) σ11)) (1, 0) σ9) ∧ (((1000000 : Int32).toInt < a1.toInt) → K3 () σ))) (fun (x1 : Unit) (σ2 : HS) => (0 ≤ (0 : Int32).toInt ∧ (0 : Int32).toInt ≤ 1) ∧ post 0 σ2)
theorem dX12_tick_0 : decode cX12_tick 0 = .ok (.iload_n 1, 1) := by decide +kernel
theorem dX12_tick_1 : decode cX12_tick 1 = .ok (.ifCond .lt 10, 3) := by decide +kernel
theorem dX12_tick_4 : decode cX12_tick 4 = .ok (.iload_n 1, 1) := by decide +kernel
theorem dX12_tick_5 : decode cX12_tick 5 = .ok (.ldc_w 863, 3) := by decide +kernel
theorem dX12_tick_8 : decode cX12_tick 8 = .ok (.if_icmp .le 5, 3) := by decide +kernel
theorem dX12_tick_11 : decode cX12_tick 11 = .ok (.iconst 0, 1) := by decide +kernel
theorem dX12_tick_12 : decode cX12_tick 12 = .ok (.ireturn, 1) := by decide +kernel
theorem dX12_tick_13 : decode cX12_tick 13 = .ok (.aload_n 0, 1) := by decide +kernel
theorem dX12_tick_14 : decode cX12_tick 14 = .ok (.dup, 1) := by decide +kernel
theorem dX12_tick_15 : decode cX12_tick 15 = .ok (.getfield 322, 3) := by decide +kernel
theorem dX12_tick_18 : decode cX12_tick 18 = .ok (.iload_n 1, 1) := by decide +kernel
theorem dX12_tick_19 : decode cX12_tick 19 = .ok (.i2l, 1) := by decide +kernel
theorem dX12_tick_20 : decode cX12_tick 20 = .ok (.ladd, 1) := by decide +kernel
theorem dX12_tick_21 : decode cX12_tick 21 = .ok (.putfield 322, 3) := by decide +kernel
theorem dX12_tick_24 : decode cX12_tick 24 = .ok (.lconst 0, 1) := by decide +kernel
theorem dX12_tick_25 : decode cX12_tick 25 = .ok (.lstore_n 2, 1) := by decide +kernel
theorem dX12_tick_26 : decode cX12_tick 26 = .ok (.iconst 1, 1) := by decide +kernel
theorem dX12_tick_27 : decode cX12_tick 27 = .ok (.istore 4, 2) := by decide +kernel
theorem dX12_tick_29 : decode cX12_tick 29 = .ok (.iload 4, 2) := by decide +kernel
theorem dX12_tick_31 : decode cX12_tick 31 = .ok (.ifCond .eq 162, 3) := by decide +kernel
theorem dX12_tick_34 : decode cX12_tick 34 = .ok (.iconst (-1), 1) := by decide +kernel
theorem dX12_tick_35 : decode cX12_tick 35 = .ok (.istore 5, 2) := by decide +kernel
theorem dX12_tick_37 : decode cX12_tick 37 = .ok (.iconst 0, 1) := by decide +kernel
theorem dX12_tick_38 : decode cX12_tick 38 = .ok (.istore 6, 2) := by decide +kernel
theorem dX12_tick_40 : decode cX12_tick 40 = .ok (.iload 6, 2) := by decide +kernel
theorem dX12_tick_42 : decode cX12_tick 42 = .ok (.bipush 40, 2) := by decide +kernel
theorem dX12_tick_44 : decode cX12_tick 44 = .ok (.if_icmp .ge 94, 3) := by decide +kernel
theorem dX12_tick_47 : decode cX12_tick 47 = .ok (.aload_n 0, 1) := by decide +kernel
theorem dX12_tick_48 : decode cX12_tick 48 = .ok (.getfield 139, 3) := by decide +kernel
theorem dX12_tick_51 : decode cX12_tick 51 = .ok (.iload 6, 2) := by decide +kernel
theorem dX12_tick_53 : decode cX12_tick 53 = .ok (.laload, 1) := by decide +kernel
theorem dX12_tick_54 : decode cX12_tick 54 = .ok (.lload_n 2, 1) := by decide +kernel
theorem dX12_tick_55 : decode cX12_tick 55 = .ok (.lcmp, 1) := by decide +kernel
theorem dX12_tick_56 : decode cX12_tick 56 = .ok (.ifCond .le 36, 3) := by decide +kernel
theorem dX12_tick_59 : decode cX12_tick 59 = .ok (.aload_n 0, 1) := by decide +kernel
theorem dX12_tick_60 : decode cX12_tick 60 = .ok (.getfield 157, 3) := by decide +kernel
theorem dX12_tick_63 : decode cX12_tick 63 = .ok (.iload 6, 2) := by decide +kernel
theorem dX12_tick_65 : decode cX12_tick 65 = .ok (.baload, 1) := by decide +kernel
theorem dX12_tick_66 : decode cX12_tick 66 = .ok (.ifCond .eq 26, 3) := by decide +kernel
theorem dX12_tick_69 : decode cX12_tick 69 = .ok (.aload_n 0, 1) := by decide +kernel
theorem dX12_tick_70 : decode cX12_tick 70 = .ok (.getfield 322, 3) := by decide +kernel
theorem dX12_tick_73 : decode cX12_tick 73 = .ok (.aload_n 0, 1) := by decide +kernel
theorem dX12_tick_74 : decode cX12_tick 74 = .ok (.getfield 163, 3) := by decide +kernel
theorem dX12_tick_77 : decode cX12_tick 77 = .ok (.iload 6, 2) := by decide +kernel
theorem dX12_tick_79 : decode cX12_tick 79 = .ok (.laload, 1) := by decide +kernel
theorem dX12_tick_80 : decode cX12_tick 80 = .ok (.lsub, 1) := by decide +kernel
theorem dX12_tick_81 : decode cX12_tick 81 = .ok (.ldc2_w 864, 3) := by decide +kernel
theorem dX12_tick_84 : decode cX12_tick 84 = .ok (.lcmp, 1) := by decide +kernel
theorem dX12_tick_85 : decode cX12_tick 85 = .ok (.ifCond .lt 7, 3) := by decide +kernel
theorem dX12_tick_88 : decode cX12_tick 88 = .ok (.iconst 1, 1) := by decide +kernel
theorem dX12_tick_89 : decode cX12_tick 89 = .ok (.goto 4, 3) := by decide +kernel
theorem dX12_tick_92 : decode cX12_tick 92 = .ok (.iconst 0, 1) := by decide +kernel
theorem dX12_tick_93 : decode cX12_tick 93 = .ok (.istore 7, 2) := by decide +kernel
theorem dX12_tick_95 : decode cX12_tick 95 = .ok (.iload 7, 2) := by decide +kernel
theorem dX12_tick_97 : decode cX12_tick 97 = .ok (.ifCond .eq 31, 3) := by decide +kernel
theorem dX12_tick_100 : decode cX12_tick 100 = .ok (.iload 5, 2) := by decide +kernel
theorem dX12_tick_102 : decode cX12_tick 102 = .ok (.ifCond .lt 21, 3) := by decide +kernel
theorem dX12_tick_105 : decode cX12_tick 105 = .ok (.aload_n 0, 1) := by decide +kernel
theorem dX12_tick_106 : decode cX12_tick 106 = .ok (.getfield 139, 3) := by decide +kernel
theorem dX12_tick_109 : decode cX12_tick 109 = .ok (.iload 6, 2) := by decide +kernel
theorem dX12_tick_111 : decode cX12_tick 111 = .ok (.laload, 1) := by decide +kernel
theorem dX12_tick_112 : decode cX12_tick 112 = .ok (.aload_n 0, 1) := by decide +kernel
theorem dX12_tick_113 : decode cX12_tick 113 = .ok (.getfield 139, 3) := by decide +kernel
theorem dX12_tick_116 : decode cX12_tick 116 = .ok (.iload 5, 2) := by decide +kernel
theorem dX12_tick_118 : decode cX12_tick 118 = .ok (.laload, 1) := by decide +kernel
theorem dX12_tick_119 : decode cX12_tick 119 = .ok (.lcmp, 1) := by decide +kernel
theorem dX12_tick_120 : decode cX12_tick 120 = .ok (.ifCond .ge 8, 3) := by decide +kernel
theorem dX12_tick_123 : decode cX12_tick 123 = .ok (.iload 6, 2) := by decide +kernel
theorem dX12_tick_125 : decode cX12_tick 125 = .ok (.goto 5, 3) := by decide +kernel
theorem dX12_tick_128 : decode cX12_tick 128 = .ok (.iload 5, 2) := by decide +kernel
theorem dX12_tick_130 : decode cX12_tick 130 = .ok (.istore 5, 2) := by decide +kernel
theorem dX12_tick_132 : decode cX12_tick 132 = .ok (.iinc 6 1, 3) := by decide +kernel
theorem dX12_tick_135 : decode cX12_tick 135 = .ok (.goto (-95), 3) := by decide +kernel
theorem dX12_tick_138 : decode cX12_tick 138 = .ok (.iload 5, 2) := by decide +kernel
theorem dX12_tick_140 : decode cX12_tick 140 = .ok (.ifCond .lt 7, 3) := by decide +kernel
theorem dX12_tick_143 : decode cX12_tick 143 = .ok (.iconst 1, 1) := by decide +kernel
theorem dX12_tick_144 : decode cX12_tick 144 = .ok (.goto 4, 3) := by decide +kernel
theorem dX12_tick_147 : decode cX12_tick 147 = .ok (.iconst 0, 1) := by decide +kernel
theorem dX12_tick_148 : decode cX12_tick 148 = .ok (.istore 4, 2) := by decide +kernel
theorem dX12_tick_150 : decode cX12_tick 150 = .ok (.iload 4, 2) := by decide +kernel
theorem dX12_tick_152 : decode cX12_tick 152 = .ok (.ifCond .eq 38, 3) := by decide +kernel
theorem dX12_tick_155 : decode cX12_tick 155 = .ok (.aload_n 0, 1) := by decide +kernel
theorem dX12_tick_156 : decode cX12_tick 156 = .ok (.getfield 139, 3) := by decide +kernel
theorem dX12_tick_159 : decode cX12_tick 159 = .ok (.iload 5, 2) := by decide +kernel
theorem dX12_tick_161 : decode cX12_tick 161 = .ok (.laload, 1) := by decide +kernel
theorem dX12_tick_162 : decode cX12_tick 162 = .ok (.lstore_n 2, 1) := by decide +kernel
theorem dX12_tick_163 : decode cX12_tick 163 = .ok (.aload_n 0, 1) := by decide +kernel
theorem dX12_tick_164 : decode cX12_tick 164 = .ok (.getfield 157, 3) := by decide +kernel
theorem dX12_tick_167 : decode cX12_tick 167 = .ok (.iload 5, 2) := by decide +kernel
theorem dX12_tick_169 : decode cX12_tick 169 = .ok (.iconst 0, 1) := by decide +kernel
theorem dX12_tick_170 : decode cX12_tick 170 = .ok (.bastore, 1) := by decide +kernel
theorem dX12_tick_171 : decode cX12_tick 171 = .ok (.aload_n 0, 1) := by decide +kernel
theorem dX12_tick_172 : decode cX12_tick 172 = .ok (.getfield 154, 3) := by decide +kernel
theorem dX12_tick_175 : decode cX12_tick 175 = .ok (.iload 5, 2) := by decide +kernel
theorem dX12_tick_177 : decode cX12_tick 177 = .ok (.iconst 0, 1) := by decide +kernel
theorem dX12_tick_178 : decode cX12_tick 178 = .ok (.iastore, 1) := by decide +kernel
theorem dX12_tick_179 : decode cX12_tick 179 = .ok (.aload_n 0, 1) := by decide +kernel
theorem dX12_tick_180 : decode cX12_tick 180 = .ok (.aload_n 0, 1) := by decide +kernel
theorem dX12_tick_181 : decode cX12_tick 181 = .ok (.getfield 145, 3) := by decide +kernel
theorem dX12_tick_184 : decode cX12_tick 184 = .ok (.iload 5, 2) := by decide +kernel
theorem dX12_tick_186 : decode cX12_tick 186 = .ok (.iaload, 1) := by decide +kernel
theorem dX12_tick_187 : decode cX12_tick 187 = .ok (.invokevirtual 760, 3) := by decide +kernel
theorem dX12_tick_190 : decode cX12_tick 190 = .ok (.goto (-161), 3) := by decide +kernel
theorem dX12_tick_193 : decode cX12_tick 193 = .ok (.iconst 1, 1) := by decide +kernel
theorem dX12_tick_194 : decode cX12_tick 194 = .ok (.ireturn, 1) := by decide +kernel
set_option maxRecDepth 100000 in
set_option maxHeartbeats 4000000 in
theorem c_X12_tick (l : Launch) (D : va_G) (t : Nat → ClassId) (h0 : Nat) (L : Nat → Nat) (σ : HS) (hM : MdI h0 L σ) (a1 : Int32) (post : Int32 → HS → Prop) (hw : F_X12_tick h0 L a1 post σ) (sz : Nat) : RMi l D t yX12_tick cX12_tick 8 (some .boolean) ({ frames := 9, cells := 0, slots := 0, locals := 239 }) h0 L σ sz [.ref h0, .int a1] post := by
  refine h_go (τ := τT) okT (by decide) (Nat.le_of_ble_eq_true rfl) ?_
  intro p e s m below meth c ls A hF hr hlk hAe hH0 hA hl
  unfold hB
  rw [hAe]
  clear hAe
  have hF : FX p m c cX12_tick 8 s _ RX12 D t := hF
  have hx := hF.1.1
  have hb := hF.1.2.1
  have hH : RT D t A s.heap h0 L σ s.heap [] := ⟨hH0, hM⟩
  have hl : lv_has ls 8 [(0, .ref h0), (1, .int a1)] := hl
  unfold F_X12_tick at hw
  refine lv_iload_n hx hb dX12_tick_0 rfl (lv_at hl 1 rfl) ?_
  obtain ⟨K3, hK4, hw⟩ := jn_open hw
  refine w_join (K := K3) 11 (fun (x1 : Unit) => []) (fun (x1 : Unit) => []) hl hH (fun x1 σ2 ls H locs hl hw hH => ?_) (fun jn5 => ?_)
  · have hw := hK4 x1 σ2 hw
    have hl : lv_has ls 8 [] := hl
    refine lv_iconst (v := 0) hx hb dX12_tick_11 (by decide) ?_
    exact w_retz hF hH hr hlk dX12_tick_12 hw
  · skip
    refine w_if_lt (tgt := 11) hF dX12_tick_1 rfl hw (fun hw => ?_) (fun hw => ?_)
    · have hl : lv_has ls 8 [] := lv_sub hl [] rfl
      exact jn5 () σ ls _ _ hl hw hH
    · refine lv_iload_n hx hb dX12_tick_4 rfl (lv_at hl 1 rfl) ?_
      refine lv_ldcw (v := 1000000) hx hb hF.1.2.2.2.1 (hF.1.2.2.2.2 _ (wc_57 22 rfl)) dX12_tick_5 ?_
      refine w_icmp_le (tgt := 13) hF dX12_tick_8 rfl hw (fun hw => ?_) (fun hw => ?_)
      · refine lv_aload_n hx hb dX12_tick_13 rfl (lv_at hl 0 rfl) ?_
        refine lv_dup hx hb dX12_tick_14 rfl ?_
        refine w_getJ hF hH fk_X12_322 dX12_tick_15 hw (fun z6 hw => ?_)
        refine lv_iload_n hx hb dX12_tick_18 rfl (lv_at hl 1 rfl) ?_
        refine lv_i2l hx hb dX12_tick_19 rfl ?_
        refine w_nml hw (fun z7 hw => ?_)
        refine lv_ladd hx hb dX12_tick_20 ?_
        refine w_nml hw (fun z8 hw => ?_)
        refine w_putJ hF hH fk_X12_322 dX12_tick_21 rfl rfl rfl hw (fun σ9 H locs hw hH => ?_)
        refine lv_lconst (v := 0) hx hb dX12_tick_24 (by decide) ?_
        refine lv_lstore_n (lv' := [(2, .long 0), (0, .ref h0), (1, .int a1)]) hx hb dX12_tick_25 rfl hl (by decide) rfl (fun ls hl => ?_)
        refine lv_iconst (v := 1) hx hb dX12_tick_26 (by decide) ?_
        refine lv_istore (lv' := [(4, .int 1), (2, .long 0), (0, .ref h0), (1, .int a1)]) hx hb dX12_tick_27 hl (by decide) rfl (fun ls hl => ?_)
        have hl : lv_has ls 8 [(4, .int 1), (2, .long 0), (0, .ref h0)] := lv_sub hl [0, 1, 2] rfl
        refine w_loop (β := Int32 × Int64) (fun x10 => [(4, .int x10.1), (2, .long x10.2), (0, .ref h0)]) (1, 0) hl hw hH (fun K12 x10 σ11 ls H locs hl hw hH ih13 => ?_)
        have hl : lv_has ls 8 [(4, .int x10.1), (2, .long x10.2), (0, .ref h0)] := hl
        refine lv_iload hx hb dX12_tick_29 (lv_at hl 0 rfl) ?_
        refine w_if_eq (tgt := 193) hF dX12_tick_31 rfl hw (fun hw => ?_) (fun hw => ?_)
        · refine lv_iconst (v := 1) hx hb dX12_tick_193 (by decide) ?_
          exact w_retz hF hH hr hlk dX12_tick_194 hw
        · refine lv_iconst (v := (-1)) hx hb dX12_tick_34 (by decide) ?_
          refine lv_istore (lv' := [(5, .int (-1)), (4, .int x10.1), (2, .long x10.2), (0, .ref h0)]) hx hb dX12_tick_35 hl (by decide) rfl (fun ls hl => ?_)
          refine lv_iconst (v := 0) hx hb dX12_tick_37 (by decide) ?_
          refine lv_istore (lv' := [(6, .int 0), (5, .int (-1)), (4, .int x10.1), (2, .long x10.2), (0, .ref h0)]) hx hb dX12_tick_38 hl (by decide) rfl (fun ls hl => ?_)
          have hl : lv_has ls 8 [(6, .int 0), (5, .int (-1)), (2, .long x10.2), (0, .ref h0)] := lv_sub hl [0, 1, 3, 4] rfl
          refine w_loop (β := Int32 × Int32) (fun x14 => [(6, .int x14.1), (5, .int x14.2), (2, .long x10.2), (0, .ref h0)]) (0, (-1)) hl hw hH (fun K16 x14 σ15 ls H locs hl hw hH ih17 => ?_)
          have hl : lv_has ls 8 [(6, .int x14.1), (5, .int x14.2), (2, .long x10.2), (0, .ref h0)] := hl
          refine lv_iload hx hb dX12_tick_40 (lv_at hl 0 rfl) ?_
          refine lv_bipush (v := 40) hx hb dX12_tick_42 (by decide) ?_
          refine w_icmp_ge (tgt := 138) hF dX12_tick_44 rfl hw (fun hw => ?_) (fun hw => ?_)
          · refine lv_iload hx hb dX12_tick_138 (lv_at hl 1 rfl) ?_
            obtain ⟨K20, hK21, hw⟩ := jn_open hw
            refine w_join (K := K20) 148 (fun (x18 : Int32) => [(5, .int x14.2), (2, .long x10.2), (0, .ref h0)]) (fun (x18 : Int32) => [.int x18]) hl hH (fun x18 σ19 ls H locs hl hw hH => ?_) (fun jn22 => ?_)
            · have hw := hK21 x18 σ19 hw
              have hl : lv_has ls 8 [(5, .int x14.2), (2, .long x10.2), (0, .ref h0)] := hl
              refine lv_istore (lv' := [(4, .int x18), (5, .int x14.2), (2, .long x10.2), (0, .ref h0)]) hx hb dX12_tick_148 hl (by decide) rfl (fun ls hl => ?_)
              refine lv_iload hx hb dX12_tick_150 (lv_at hl 0 rfl) ?_
              obtain ⟨K25, hK26, hw⟩ := jn_open hw
              refine w_join (K := K25) 190 (fun (x23 : Int64) => [(4, .int x18), (2, .long x23), (0, .ref h0)]) (fun (x23 : Int64) => []) hl hH (fun x23 σ24 ls H locs hl hw hH => ?_) (fun jn27 => ?_)
              · have hw := hK26 x23 σ24 hw
                have hl : lv_has ls 8 [(4, .int x18), (2, .long x23), (0, .ref h0)] := hl
                refine lv_goto (tgt := 29) hx hb dX12_tick_190 rfl ?_
                exact ih13 (x18, x23) σ24 ls _ _ hl hw hH
              · skip
                refine w_if_eq (tgt := 190) hF dX12_tick_152 rfl hw (fun hw => ?_) (fun hw => ?_)
                · have hl : lv_has ls 8 [(4, .int x18), (2, .long x10.2), (0, .ref h0)] := lv_sub hl [0, 2, 3] rfl
                  exact jn27 x10.2 σ19 ls _ _ hl hw hH
                · refine lv_aload_n hx hb dX12_tick_155 rfl (lv_at hl 3 rfl) ?_
                  refine w_getA 41 hF hH fk_X12_139 dX12_tick_156 (by decide) rfl ?_
                  refine lv_iload hx hb dX12_tick_159 (lv_at hl 1 rfl) ?_
                  refine w_lald 41 40 hF hH dX12_tick_161 (by decide) rfl rfl hw (fun z28 hw => ?_)
                  refine lv_lstore_n (lv' := [(2, .long z28), (4, .int x18), (5, .int x14.2), (0, .ref h0)]) hx hb dX12_tick_162 rfl hl (by decide) rfl (fun ls hl => ?_)
                  refine lv_aload_n hx hb dX12_tick_163 rfl (lv_at hl 3 rfl) ?_
                  refine w_getA 47 hF hH fk_X12_157 dX12_tick_164 (by decide) rfl ?_
                  refine lv_iload hx hb dX12_tick_167 (lv_at hl 2 rfl) ?_
                  refine lv_iconst (v := 0) hx hb dX12_tick_169 (by decide) ?_
                  refine w_zast 47 40 hF hH dX12_tick_170 (by decide) rfl rfl hw (fun σ29 H locs hw hH => ?_)
                  refine lv_aload_n hx hb dX12_tick_171 rfl (lv_at hl 3 rfl) ?_
                  refine w_getA 46 hF hH fk_X12_154 dX12_tick_172 (by decide) rfl ?_
                  refine lv_iload hx hb dX12_tick_175 (lv_at hl 2 rfl) ?_
                  refine lv_iconst (v := 0) hx hb dX12_tick_177 (by decide) ?_
                  refine w_iast 46 40 hF hH dX12_tick_178 (by decide) rfl rfl hw (fun σ30 H locs hw hH => ?_)
                  refine lv_aload_n hx hb dX12_tick_179 rfl (lv_at hl 3 rfl) ?_
                  refine lv_aload_n hx hb dX12_tick_180 rfl (lv_at hl 3 rfl) ?_
                  refine w_getA 43 hF hH fk_X12_145 dX12_tick_181 (by decide) rfl ?_
                  refine lv_iload hx hb dX12_tick_184 (lv_at hl 2 rfl) ?_
                  refine w_iald 43 40 hF hH dX12_tick_186 (by decide) rfl rfl hw (fun z31 hw => ?_)
                  refine w_cVv (As := [.int z31]) (rest := []) hF hH hA mv_X12_760 (fun sz => c_X12_redo l D t h0 L _ hH.2 z31 _ hw sz) dX12_tick_187 rfl rfl (by decide) rfl hl.1 (Nat.le_of_ble_eq_true rfl) (by decide) rfl (fun σ32 H locs hw hH => ?_)
                  have hl : lv_has ls 8 [(4, .int x18), (2, .long z28), (0, .ref h0)] := lv_sub hl [1, 0, 3] rfl
                  exact jn27 z28 σ32 ls _ _ hl hw hH
            · skip
              refine w_if_lt (tgt := 147) hF dX12_tick_140 rfl hw (fun hw => ?_) (fun hw => ?_)
              · refine lv_iconst (v := 0) hx hb dX12_tick_147 (by decide) ?_
                have hl : lv_has ls 8 [(5, .int x14.2), (2, .long x10.2), (0, .ref h0)] := lv_sub hl [1, 2, 3] rfl
                exact jn22 0 σ15 ls _ _ hl hw hH
              · refine lv_iconst (v := 1) hx hb dX12_tick_143 (by decide) ?_
                refine lv_goto (tgt := 148) hx hb dX12_tick_144 rfl ?_
                have hl : lv_has ls 8 [(5, .int x14.2), (2, .long x10.2), (0, .ref h0)] := lv_sub hl [1, 2, 3] rfl
                exact jn22 1 σ15 ls _ _ hl hw hH
          · refine lv_aload_n hx hb dX12_tick_47 rfl (lv_at hl 3 rfl) ?_
            refine w_getA 41 hF hH fk_X12_139 dX12_tick_48 (by decide) rfl ?_
            refine lv_iload hx hb dX12_tick_51 (lv_at hl 0 rfl) ?_
            refine w_lald 41 40 hF hH dX12_tick_53 (by decide) rfl rfl hw (fun z34 hw => ?_)
            refine lv_lload_n hx hb dX12_tick_54 rfl (lv_at hl 2 rfl) ?_
            obtain ⟨K37, hK38, hw⟩ := jn_open hw
            refine w_join (K := K37) 93 (fun (x35 : Int32) => [(6, .int x14.1), (5, .int x14.2), (2, .long x10.2), (0, .ref h0)]) (fun (x35 : Int32) => [.int x35]) hl hH (fun x35 σ36 ls H locs hl hw hH => ?_) (fun jn39 => ?_)
            · have hw := hK38 x35 σ36 hw
              have hl : lv_has ls 8 [(6, .int x14.1), (5, .int x14.2), (2, .long x10.2), (0, .ref h0)] := hl
              refine lv_istore (lv' := [(7, .int x35), (6, .int x14.1), (5, .int x14.2), (2, .long x10.2), (0, .ref h0)]) hx hb dX12_tick_93 hl (by decide) rfl (fun ls hl => ?_)
              refine lv_iload hx hb dX12_tick_95 (lv_at hl 0 rfl) ?_
              obtain ⟨K42, hK43, hw⟩ := jn_open hw
              refine w_join (K := K42) 130 (fun (x40 : Int32) => [(6, .int x14.1), (2, .long x10.2), (0, .ref h0)]) (fun (x40 : Int32) => [.int x40]) hl hH (fun x40 σ41 ls H locs hl hw hH => ?_) (fun jn44 => ?_)
              · have hw := hK43 x40 σ41 hw
                have hl : lv_has ls 8 [(6, .int x14.1), (2, .long x10.2), (0, .ref h0)] := hl
                refine lv_istore (lv' := [(5, .int x40), (6, .int x14.1), (2, .long x10.2), (0, .ref h0)]) hx hb dX12_tick_130 hl (by decide) rfl (fun ls hl => ?_)
                obtain ⟨z45, ez45⟩ : ∃ z : Int32, z = x14.1 + 1 := ⟨_, rfl⟩
                have hw := hw z45 ez45
                refine lv_iinc (lv' := [(6, .int z45), (5, .int x40), (2, .long x10.2), (0, .ref h0)]) (k := 1) (v := z45) hx hb dX12_tick_132 hl rfl ez45.symm (by decide) rfl (fun ls hl => ?_)
                refine lv_goto (tgt := 40) hx hb dX12_tick_135 rfl ?_
                exact ih17 (z45, x40) σ41 ls _ _ hl hw hH
              · skip
                obtain ⟨K48, hK49, hw⟩ := jn_open hw
                refine w_join (K := K48) 128 (fun (x46 : Unit) => [(6, .int x14.1), (5, .int x14.2), (2, .long x10.2), (0, .ref h0)]) (fun (x46 : Unit) => []) hl hH (fun x46 σ47 ls H locs hl hw hH => ?_) (fun jn50 => ?_)
                · have hw := hK49 x46 σ47 hw
                  have hl : lv_has ls 8 [(6, .int x14.1), (5, .int x14.2), (2, .long x10.2), (0, .ref h0)] := hl
                  refine lv_iload hx hb dX12_tick_128 (lv_at hl 1 rfl) ?_
                  have hl : lv_has ls 8 [(6, .int x14.1), (2, .long x10.2), (0, .ref h0)] := lv_sub hl [0, 2, 3] rfl
                  exact jn44 x14.2 σ47 ls _ _ hl hw hH
                · skip
                  refine w_if_eq (tgt := 128) hF dX12_tick_97 rfl hw (fun hw => ?_) (fun hw => ?_)
                  · have hl : lv_has ls 8 [(6, .int x14.1), (5, .int x14.2), (2, .long x10.2), (0, .ref h0)] := lv_sub hl [1, 2, 3, 4] rfl
                    exact jn50 () σ36 ls _ _ hl hw hH
                  · refine lv_iload hx hb dX12_tick_100 (lv_at hl 2 rfl) ?_
                    obtain ⟨K53, hK54, hw⟩ := jn_open hw
                    refine w_join (K := K53) 123 (fun (x51 : Unit) => [(6, .int x14.1), (2, .long x10.2), (0, .ref h0)]) (fun (x51 : Unit) => []) hl hH (fun x51 σ52 ls H locs hl hw hH => ?_) (fun jn55 => ?_)
                    · have hw := hK54 x51 σ52 hw
                      have hl : lv_has ls 8 [(6, .int x14.1), (2, .long x10.2), (0, .ref h0)] := hl
                      refine lv_iload hx hb dX12_tick_123 (lv_at hl 0 rfl) ?_
                      refine lv_goto (tgt := 130) hx hb dX12_tick_125 rfl ?_
                      exact jn44 x14.1 σ52 ls _ _ hl hw hH
                    · skip
                      refine w_if_lt (tgt := 123) hF dX12_tick_102 rfl hw (fun hw => ?_) (fun hw => ?_)
                      · have hl : lv_has ls 8 [(6, .int x14.1), (2, .long x10.2), (0, .ref h0)] := lv_sub hl [1, 3, 4] rfl
                        exact jn55 () σ36 ls _ _ hl hw hH
                      · refine lv_aload_n hx hb dX12_tick_105 rfl (lv_at hl 4 rfl) ?_
                        refine w_getA 41 hF hH fk_X12_139 dX12_tick_106 (by decide) rfl ?_
                        refine lv_iload hx hb dX12_tick_109 (lv_at hl 1 rfl) ?_
                        refine w_lald 41 40 hF hH dX12_tick_111 (by decide) rfl rfl hw (fun z56 hw => ?_)
                        refine lv_aload_n hx hb dX12_tick_112 rfl (lv_at hl 4 rfl) ?_
                        refine w_getA 41 hF hH fk_X12_139 dX12_tick_113 (by decide) rfl ?_
                        refine lv_iload hx hb dX12_tick_116 (lv_at hl 2 rfl) ?_
                        refine w_lald 41 40 hF hH dX12_tick_118 (by decide) rfl rfl hw (fun z57 hw => ?_)
                        refine w_lif_ge (tgt := 128) hF dX12_tick_119 dX12_tick_120 rfl hw (fun hw => ?_) (fun hw => ?_)
                        · have hl : lv_has ls 8 [(6, .int x14.1), (5, .int x14.2), (2, .long x10.2), (0, .ref h0)] := lv_sub hl [1, 2, 3, 4] rfl
                          exact jn50 () σ36 ls _ _ hl hw hH
                        · have hl : lv_has ls 8 [(6, .int x14.1), (2, .long x10.2), (0, .ref h0)] := lv_sub hl [1, 3, 4] rfl
                          exact jn55 () σ36 ls _ _ hl hw hH
            · skip
              obtain ⟨K60, hK61, hw⟩ := jn_open hw
              refine w_join (K := K60) 92 (fun (x58 : Unit) => [(6, .int x14.1), (5, .int x14.2), (2, .long x10.2), (0, .ref h0)]) (fun (x58 : Unit) => []) hl hH (fun x58 σ59 ls H locs hl hw hH => ?_) (fun jn62 => ?_)
              · have hw := hK61 x58 σ59 hw
                have hl : lv_has ls 8 [(6, .int x14.1), (5, .int x14.2), (2, .long x10.2), (0, .ref h0)] := hl
                refine lv_iconst (v := 0) hx hb dX12_tick_92 (by decide) ?_
                exact jn39 0 σ59 ls _ _ hl hw hH
              · skip
                refine w_lif_le (tgt := 92) hF dX12_tick_55 dX12_tick_56 rfl hw (fun hw => ?_) (fun hw => ?_)
                · exact jn62 () σ15 ls _ _ hl hw hH
                · refine lv_aload_n hx hb dX12_tick_59 rfl (lv_at hl 3 rfl) ?_
                  refine w_getA 47 hF hH fk_X12_157 dX12_tick_60 (by decide) rfl ?_
                  refine lv_iload hx hb dX12_tick_63 (lv_at hl 0 rfl) ?_
                  refine w_zald 47 40 hF hH dX12_tick_65 (by decide) rfl rfl hw (fun z63 hw => ?_)
                  refine w_if_eq (tgt := 92) hF dX12_tick_66 rfl hw (fun hw => ?_) (fun hw => ?_)
                  · exact jn62 () σ15 ls _ _ hl hw hH
                  · refine lv_aload_n hx hb dX12_tick_69 rfl (lv_at hl 3 rfl) ?_
                    refine w_getJ hF hH fk_X12_322 dX12_tick_70 hw (fun z64 hw => ?_)
                    refine lv_aload_n hx hb dX12_tick_73 rfl (lv_at hl 3 rfl) ?_
                    refine w_getA 49 hF hH fk_X12_163 dX12_tick_74 (by decide) rfl ?_
                    refine lv_iload hx hb dX12_tick_77 (lv_at hl 0 rfl) ?_
                    refine w_lald 49 40 hF hH dX12_tick_79 (by decide) rfl rfl hw (fun z65 hw => ?_)
                    refine lv_lsub hx hb dX12_tick_80 ?_
                    refine w_nml hw (fun z66 hw => ?_)
                    refine lv_ldc2 (v := 35) hx hb hF.1.2.2.2.1 (hF.1.2.2.2.2 _ (wc_57 23 rfl)) dX12_tick_81 ?_
                    refine w_lif_lt (tgt := 92) hF dX12_tick_84 dX12_tick_85 rfl hw (fun hw => ?_) (fun hw => ?_)
                    · exact jn62 () σ15 ls _ _ hl hw hH
                    · refine lv_iconst (v := 1) hx hb dX12_tick_88 (by decide) ?_
                      refine lv_goto (tgt := 93) hx hb dX12_tick_89 rfl ?_
                      exact jn39 1 σ15 ls _ _ hl hw hH
      · have hl : lv_has ls 8 [] := lv_sub hl [] rfl
        exact jn5 () σ ls _ _ hl hw hH
def F_X12_crash (h0 : Nat) (L : Nat → Nat) (a1 : Int32) (post : Int32 → HS → Prop) (σ : HS) : Prop := jn (fun (K3 : Unit → HS → Prop) => ((a1.toInt < 0) → K3 () σ) ∧ ((0 ≤ a1.toInt) → ∀ z6 : Int32, z6 = sI σ h0 16 → ((a1.toInt ≤ z6.toInt) → ∀ z7 : Int32, z7 = sI σ h0 16 → F_X12_come h0 L a1 0 (fun (σ8 : HS) => F_X12_begin h0 L  (fun (σ10 : HS) => post z7 σ10) σ8) σ) ∧ ((z6.toInt < a1.toInt) → K3 () σ))) (fun (x1 : Unit) (σ2 : HS) => post (-1) σ2)
theorem dX12_crash_0 : decode cX12_crash 0 = .ok (.iload_n 1, 1) := by decide +kernel
theorem dX12_crash_1 : decode cX12_crash 1 = .ok (.ifCond .lt 11, 3) := by decide +kernel
theorem dX12_crash_4 : decode cX12_crash 4 = .ok (.iload_n 1, 1) := by decide +kernel
theorem dX12_crash_5 : decode cX12_crash 5 = .ok (.aload_n 0, 1) := by decide +kernel
theorem dX12_crash_6 : decode cX12_crash 6 = .ok (.getfield 271, 3) := by decide +kernel
theorem dX12_crash_9 : decode cX12_crash 9 = .ok (.if_icmp .le 5, 3) := by decide +kernel
theorem dX12_crash_12 : decode cX12_crash 12 = .ok (.iconst (-1), 1) := by decide +kernel
theorem dX12_crash_13 : decode cX12_crash 13 = .ok (.ireturn, 1) := by decide +kernel
theorem dX12_crash_14 : decode cX12_crash 14 = .ok (.aload_n 0, 1) := by decide +kernel
theorem dX12_crash_15 : decode cX12_crash 15 = .ok (.getfield 271, 3) := by decide +kernel
theorem dX12_crash_18 : decode cX12_crash 18 = .ok (.istore_n 2, 1) := by decide +kernel
theorem dX12_crash_19 : decode cX12_crash 19 = .ok (.aload_n 0, 1) := by decide +kernel
theorem dX12_crash_20 : decode cX12_crash 20 = .ok (.iload_n 1, 1) := by decide +kernel
theorem dX12_crash_21 : decode cX12_crash 21 = .ok (.iconst 0, 1) := by decide +kernel
theorem dX12_crash_22 : decode cX12_crash 22 = .ok (.invokevirtual 281, 3) := by decide +kernel
theorem dX12_crash_25 : decode cX12_crash 25 = .ok (.aload_n 0, 1) := by decide +kernel
theorem dX12_crash_26 : decode cX12_crash 26 = .ok (.invokevirtual 258, 3) := by decide +kernel
theorem dX12_crash_29 : decode cX12_crash 29 = .ok (.iload_n 2, 1) := by decide +kernel
theorem dX12_crash_30 : decode cX12_crash 30 = .ok (.ireturn, 1) := by decide +kernel
set_option maxRecDepth 100000 in
set_option maxHeartbeats 4000000 in
theorem c_X12_crash (l : Launch) (D : va_G) (t : Nat → ClassId) (h0 : Nat) (L : Nat → Nat) (σ : HS) (hM : MdI h0 L σ) (a1 : Int32) (post : Int32 → HS → Prop) (hw : F_X12_crash h0 L a1 post σ) (sz : Nat) : RMi l D t yX12_crash cX12_crash 3 (some .int) ({ frames := 3, cells := 0, slots := 0, locals := 71 }) h0 L σ sz [.ref h0, .int a1] post := by
  refine h_go (τ := τT) okT (by decide) (Nat.le_of_ble_eq_true rfl) ?_
  intro p e s m below meth c ls A hF hr hlk hAe hH0 hA hl
  unfold hB
  rw [hAe]
  clear hAe
  have hF : FX p m c cX12_crash 3 s _ RX12 D t := hF
  have hx := hF.1.1
  have hb := hF.1.2.1
  have hH : RT D t A s.heap h0 L σ s.heap [] := ⟨hH0, hM⟩
  have hl : lv_has ls 3 [(0, .ref h0), (1, .int a1)] := hl
  unfold F_X12_crash at hw
  refine lv_iload_n hx hb dX12_crash_0 rfl (lv_at hl 1 rfl) ?_
  obtain ⟨K3, hK4, hw⟩ := jn_open hw
  refine w_join (K := K3) 12 (fun (x1 : Unit) => []) (fun (x1 : Unit) => []) hl hH (fun x1 σ2 ls H locs hl hw hH => ?_) (fun jn5 => ?_)
  · have hw := hK4 x1 σ2 hw
    have hl : lv_has ls 3 [] := hl
    refine lv_iconst (v := (-1)) hx hb dX12_crash_12 (by decide) ?_
    exact w_reti hF hH hr hlk rfl dX12_crash_13 hw
  · skip
    refine w_if_lt (tgt := 12) hF dX12_crash_1 rfl hw (fun hw => ?_) (fun hw => ?_)
    · have hl : lv_has ls 3 [] := lv_sub hl [] rfl
      exact jn5 () σ ls _ _ hl hw hH
    · refine lv_iload_n hx hb dX12_crash_4 rfl (lv_at hl 1 rfl) ?_
      refine lv_aload_n hx hb dX12_crash_5 rfl (lv_at hl 0 rfl) ?_
      refine w_getI hF hH fk_X12_271 dX12_crash_6 hw (fun z6 hw => ?_)
      refine w_icmp_le (tgt := 14) hF dX12_crash_9 rfl hw (fun hw => ?_) (fun hw => ?_)
      · refine lv_aload_n hx hb dX12_crash_14 rfl (lv_at hl 0 rfl) ?_
        refine w_getI hF hH fk_X12_271 dX12_crash_15 hw (fun z7 hw => ?_)
        refine lv_istore_n (lv' := [(2, .int z7), (0, .ref h0), (1, .int a1)]) hx hb dX12_crash_18 rfl hl (by decide) rfl (fun ls hl => ?_)
        refine lv_aload_n hx hb dX12_crash_19 rfl (lv_at hl 1 rfl) ?_
        refine lv_iload_n hx hb dX12_crash_20 rfl (lv_at hl 2 rfl) ?_
        refine lv_iconst (v := 0) hx hb dX12_crash_21 (by decide) ?_
        refine w_cVv (As := [.int a1, .int 0]) (rest := []) hF hH hA mv_X12_281 (fun sz => c_X12_come l D t h0 L _ hH.2 a1 0 _ hw sz) dX12_crash_22 rfl rfl (by decide) rfl hl.1 (Nat.le_of_ble_eq_true rfl) (by decide) rfl (fun σ8 H locs hw hH => ?_)
        refine lv_aload_n hx hb dX12_crash_25 rfl (lv_at hl 1 rfl) ?_
        refine w_cVv (As := []) (rest := []) hF hH hA mv_X12_258 (fun sz => c_X12_begin l D t h0 L _ hH.2  _ hw sz) dX12_crash_26 rfl rfl (by decide) rfl hl.1 (Nat.le_of_ble_eq_true rfl) (by decide) rfl (fun σ10 H locs hw hH => ?_)
        refine lv_iload_n hx hb dX12_crash_29 rfl (lv_at hl 0 rfl) ?_
        exact w_reti hF hH hr hlk rfl dX12_crash_30 hw
      · have hl : lv_has ls 3 [] := lv_sub hl [] rfl
        exact jn5 () σ ls _ _ hl hw hH
def F_X12_outs (h0 : Nat) (L : Nat → Nat) (a1 : Int32) (post : Int32 → HS → Prop) (σ : HS) : Prop := F_X12_isLine h0 L a1 (fun (z2 : Int32) (σ1 : HS) => jn (fun (K5 : Int32 → HS → Prop) => ((z2.toInt = 0) → K5 (-1) σ1) ∧ ((¬ z2.toInt = 0) → (0 ≤ a1.toInt ∧ a1.toInt < 6) ∧ ∀ z8 : Int32, z8 = sI σ1 (L 28) a1.toInt.toNat → K5 z8 σ1)) (fun (x3 : Int32) (σ4 : HS) => post x3 σ4)) σ
theorem dX12_outs_0 : decode cX12_outs 0 = .ok (.iload_n 1, 1) := by decide +kernel
theorem dX12_outs_1 : decode cX12_outs 1 = .ok (.invokestatic 325, 3) := by decide +kernel
theorem dX12_outs_4 : decode cX12_outs 4 = .ok (.ifCond .eq 12, 3) := by decide +kernel
theorem dX12_outs_7 : decode cX12_outs 7 = .ok (.aload_n 0, 1) := by decide +kernel
theorem dX12_outs_8 : decode cX12_outs 8 = .ok (.getfield 99, 3) := by decide +kernel
theorem dX12_outs_11 : decode cX12_outs 11 = .ok (.iload_n 1, 1) := by decide +kernel
theorem dX12_outs_12 : decode cX12_outs 12 = .ok (.iaload, 1) := by decide +kernel
theorem dX12_outs_13 : decode cX12_outs 13 = .ok (.goto 4, 3) := by decide +kernel
theorem dX12_outs_16 : decode cX12_outs 16 = .ok (.iconst (-1), 1) := by decide +kernel
theorem dX12_outs_17 : decode cX12_outs 17 = .ok (.ireturn, 1) := by decide +kernel
set_option maxRecDepth 100000 in
set_option maxHeartbeats 4000000 in
theorem c_X12_outs (l : Launch) (D : va_G) (t : Nat → ClassId) (h0 : Nat) (L : Nat → Nat) (σ : HS) (hM : MdI h0 L σ) (a1 : Int32) (post : Int32 → HS → Prop) (hw : F_X12_outs h0 L a1 post σ) (sz : Nat) : RMi l D t yX12_outs cX12_outs 2 (some .int) ({ frames := 1, cells := 0, slots := 0, locals := 20 }) h0 L σ sz [.ref h0, .int a1] post := by
  refine h_go (τ := τT) okT (by decide) (Nat.le_of_ble_eq_true rfl) ?_
  intro p e s m below meth c ls A hF hr hlk hAe hH0 hA hl
  unfold hB
  rw [hAe]
  clear hAe
  have hF : FX p m c cX12_outs 2 s _ RX12 D t := hF
  have hx := hF.1.1
  have hb := hF.1.2.1
  have hH : RT D t A s.heap h0 L σ s.heap [] := ⟨hH0, hM⟩
  have hl : lv_has ls 2 [(0, .ref h0), (1, .int a1)] := hl
  unfold F_X12_outs at hw
  refine lv_iload_n hx hb dX12_outs_0 rfl (lv_at hl 1 rfl) ?_
  refine w_cSi (As := [.int a1]) (rest := []) hF hH hA ms_X12_325 (fun sz => c_X12_isLine l D t h0 L _ hH.2 a1 _ hw sz) dX12_outs_1 rfl rfl (by decide) rfl hl.1 (Nat.le_of_ble_eq_true rfl) (by decide) rfl (fun z2 σ1 H locs hw hH => ?_)
  obtain ⟨K5, hK6, hw⟩ := jn_open hw
  refine w_join (K := K5) 17 (fun (x3 : Int32) => []) (fun (x3 : Int32) => [.int x3]) hl hH (fun x3 σ4 ls H locs hl hw hH => ?_) (fun jn7 => ?_)
  · have hw := hK6 x3 σ4 hw
    have hl : lv_has ls 2 [] := hl
    exact w_reti hF hH hr hlk rfl dX12_outs_17 hw
  · skip
    refine w_if_eq (tgt := 16) hF dX12_outs_4 rfl hw (fun hw => ?_) (fun hw => ?_)
    · refine lv_iconst (v := (-1)) hx hb dX12_outs_16 (by decide) ?_
      have hl : lv_has ls 2 [] := lv_sub hl [] rfl
      exact jn7 (-1) σ1 ls _ _ hl hw hH
    · refine lv_aload_n hx hb dX12_outs_7 rfl (lv_at hl 0 rfl) ?_
      refine w_getA 28 hF hH fk_X12_99 dX12_outs_8 (by decide) rfl ?_
      refine lv_iload_n hx hb dX12_outs_11 rfl (lv_at hl 1 rfl) ?_
      refine w_iald 28 6 hF hH dX12_outs_12 (by decide) rfl rfl hw (fun z8 hw => ?_)
      refine lv_goto (tgt := 17) hx hb dX12_outs_13 rfl ?_
      have hl : lv_has ls 2 [] := lv_sub hl [] rfl
      exact jn7 z8 σ1 ls _ _ hl hw hH
def F_X12_out (h0 : Nat) (L : Nat → Nat) (a1 : Int32) (a2 : Int32) (post : Int32 → HS → Prop) (σ : HS) : Prop := F_X12_isLine h0 L a1 (fun (z2 : Int32) (σ1 : HS) => jn (fun (K5 : Int32 → HS → Prop) => jn (fun (K10 : Unit → HS → Prop) => ((z2.toInt = 0) → K10 () σ1) ∧ ((¬ z2.toInt = 0) → ((a2.toInt < 0) → K10 () σ1) ∧ ((0 ≤ a2.toInt) → (0 ≤ a1.toInt ∧ a1.toInt < 6) ∧ ∀ z13 : Int32, z13 = sI σ1 (L 28) a1.toInt.toNat → ((z13.toInt ≤ a2.toInt) → K10 () σ1) ∧ ((a2.toInt < z13.toInt) → ∀ z14 : Int32, z14 = 16000 * a1 → ∀ z15 : Int32, z15 = z14 + a2 → (0 ≤ z15.toInt ∧ z15.toInt < 96000) ∧ ∀ z16 : Int32, z16 = sI σ1 (L 27) z15.toInt.toNat → ∀ z17 : Int32, z17 = z16 &&& 255 → K5 z17 σ1)))) (fun (x8 : Unit) (σ9 : HS) => K5 (-1) σ9)) (fun (x3 : Int32) (σ4 : HS) => post x3 σ4)) σ
theorem dX12_out_0 : decode cX12_out 0 = .ok (.iload_n 1, 1) := by decide +kernel
theorem dX12_out_1 : decode cX12_out 1 = .ok (.invokestatic 325, 3) := by decide +kernel
theorem dX12_out_4 : decode cX12_out 4 = .ok (.ifCond .eq 36, 3) := by decide +kernel
theorem dX12_out_7 : decode cX12_out 7 = .ok (.iload_n 2, 1) := by decide +kernel
theorem dX12_out_8 : decode cX12_out 8 = .ok (.ifCond .lt 32, 3) := by decide +kernel
theorem dX12_out_11 : decode cX12_out 11 = .ok (.iload_n 2, 1) := by decide +kernel
theorem dX12_out_12 : decode cX12_out 12 = .ok (.aload_n 0, 1) := by decide +kernel
theorem dX12_out_13 : decode cX12_out 13 = .ok (.getfield 99, 3) := by decide +kernel
theorem dX12_out_16 : decode cX12_out 16 = .ok (.iload_n 1, 1) := by decide +kernel
theorem dX12_out_17 : decode cX12_out 17 = .ok (.iaload, 1) := by decide +kernel
theorem dX12_out_18 : decode cX12_out 18 = .ok (.if_icmp .ge 22, 3) := by decide +kernel
theorem dX12_out_21 : decode cX12_out 21 = .ok (.aload_n 0, 1) := by decide +kernel
theorem dX12_out_22 : decode cX12_out 22 = .ok (.getfield 96, 3) := by decide +kernel
theorem dX12_out_25 : decode cX12_out 25 = .ok (.sipush 16000, 3) := by decide +kernel
theorem dX12_out_28 : decode cX12_out 28 = .ok (.iload_n 1, 1) := by decide +kernel
theorem dX12_out_29 : decode cX12_out 29 = .ok (.imul, 1) := by decide +kernel
theorem dX12_out_30 : decode cX12_out 30 = .ok (.iload_n 2, 1) := by decide +kernel
theorem dX12_out_31 : decode cX12_out 31 = .ok (.iadd, 1) := by decide +kernel
theorem dX12_out_32 : decode cX12_out 32 = .ok (.baload, 1) := by decide +kernel
theorem dX12_out_33 : decode cX12_out 33 = .ok (.sipush 255, 3) := by decide +kernel
theorem dX12_out_36 : decode cX12_out 36 = .ok (.iand, 1) := by decide +kernel
theorem dX12_out_37 : decode cX12_out 37 = .ok (.goto 4, 3) := by decide +kernel
theorem dX12_out_40 : decode cX12_out 40 = .ok (.iconst (-1), 1) := by decide +kernel
theorem dX12_out_41 : decode cX12_out 41 = .ok (.ireturn, 1) := by decide +kernel
set_option maxRecDepth 100000 in
set_option maxHeartbeats 4000000 in
theorem c_X12_out (l : Launch) (D : va_G) (t : Nat → ClassId) (h0 : Nat) (L : Nat → Nat) (σ : HS) (hM : MdI h0 L σ) (a1 : Int32) (a2 : Int32) (post : Int32 → HS → Prop) (hw : F_X12_out h0 L a1 a2 post σ) (sz : Nat) : RMi l D t yX12_out cX12_out 3 (some .int) ({ frames := 1, cells := 0, slots := 0, locals := 20 }) h0 L σ sz [.ref h0, .int a1, .int a2] post := by
  refine h_go (τ := τT) okT (by decide) (Nat.le_of_ble_eq_true rfl) ?_
  intro p e s m below meth c ls A hF hr hlk hAe hH0 hA hl
  unfold hB
  rw [hAe]
  clear hAe
  have hF : FX p m c cX12_out 3 s _ RX12 D t := hF
  have hx := hF.1.1
  have hb := hF.1.2.1
  have hH : RT D t A s.heap h0 L σ s.heap [] := ⟨hH0, hM⟩
  have hl : lv_has ls 3 [(0, .ref h0), (1, .int a1), (2, .int a2)] := hl
  unfold F_X12_out at hw
  refine lv_iload_n hx hb dX12_out_0 rfl (lv_at hl 1 rfl) ?_
  refine w_cSi (As := [.int a1]) (rest := []) hF hH hA ms_X12_325 (fun sz => c_X12_isLine l D t h0 L _ hH.2 a1 _ hw sz) dX12_out_1 rfl rfl (by decide) rfl hl.1 (Nat.le_of_ble_eq_true rfl) (by decide) rfl (fun z2 σ1 H locs hw hH => ?_)
  obtain ⟨K5, hK6, hw⟩ := jn_open hw
  refine w_join (K := K5) 41 (fun (x3 : Int32) => []) (fun (x3 : Int32) => [.int x3]) hl hH (fun x3 σ4 ls H locs hl hw hH => ?_) (fun jn7 => ?_)
  · have hw := hK6 x3 σ4 hw
    have hl : lv_has ls 3 [] := hl
    exact w_reti hF hH hr hlk rfl dX12_out_41 hw
  · skip
    obtain ⟨K10, hK11, hw⟩ := jn_open hw
    refine w_join (K := K10) 40 (fun (x8 : Unit) => []) (fun (x8 : Unit) => []) hl hH (fun x8 σ9 ls H locs hl hw hH => ?_) (fun jn12 => ?_)
    · have hw := hK11 x8 σ9 hw
      have hl : lv_has ls 3 [] := hl
      refine lv_iconst (v := (-1)) hx hb dX12_out_40 (by decide) ?_
      exact jn7 (-1) σ9 ls _ _ hl hw hH
    · skip
      refine w_if_eq (tgt := 40) hF dX12_out_4 rfl hw (fun hw => ?_) (fun hw => ?_)
      · have hl : lv_has ls 3 [] := lv_sub hl [] rfl
        exact jn12 () σ1 ls _ _ hl hw hH
      · refine lv_iload_n hx hb dX12_out_7 rfl (lv_at hl 2 rfl) ?_
        refine w_if_lt (tgt := 40) hF dX12_out_8 rfl hw (fun hw => ?_) (fun hw => ?_)
        · have hl : lv_has ls 3 [] := lv_sub hl [] rfl
          exact jn12 () σ1 ls _ _ hl hw hH
        · refine lv_iload_n hx hb dX12_out_11 rfl (lv_at hl 2 rfl) ?_
          refine lv_aload_n hx hb dX12_out_12 rfl (lv_at hl 0 rfl) ?_
          refine w_getA 28 hF hH fk_X12_99 dX12_out_13 (by decide) rfl ?_
          refine lv_iload_n hx hb dX12_out_16 rfl (lv_at hl 1 rfl) ?_
          refine w_iald 28 6 hF hH dX12_out_17 (by decide) rfl rfl hw (fun z13 hw => ?_)
          refine w_icmp_ge (tgt := 40) hF dX12_out_18 rfl hw (fun hw => ?_) (fun hw => ?_)
          · have hl : lv_has ls 3 [] := lv_sub hl [] rfl
            exact jn12 () σ1 ls _ _ hl hw hH
          · refine lv_aload_n hx hb dX12_out_21 rfl (lv_at hl 0 rfl) ?_
            refine w_getA 27 hF hH fk_X12_96 dX12_out_22 (by decide) rfl ?_
            refine lv_sipush (v := 16000) hx hb dX12_out_25 (by decide) ?_
            refine lv_iload_n hx hb dX12_out_28 rfl (lv_at hl 1 rfl) ?_
            refine lv_imul hx hb dX12_out_29 ?_
            refine w_nmi hw (fun z14 hw => ?_)
            refine lv_iload_n hx hb dX12_out_30 rfl (lv_at hl 2 rfl) ?_
            refine lv_iadd hx hb dX12_out_31 ?_
            refine w_nmi hw (fun z15 hw => ?_)
            refine w_bald 27 96000 hF hH dX12_out_32 (by decide) rfl rfl hw (fun z16 hw => ?_)
            refine lv_sipush (v := 255) hx hb dX12_out_33 (by decide) ?_
            refine lv_iand hx hb dX12_out_36 ?_
            refine w_nmi hw (fun z17 hw => ?_)
            refine lv_goto (tgt := 41) hx hb dX12_out_37 rfl ?_
            have hl : lv_has ls 3 [] := lv_sub hl [] rfl
            exact jn7 z17 σ1 ls _ _ hl hw hH

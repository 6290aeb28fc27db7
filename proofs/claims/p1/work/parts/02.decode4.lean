theorem dX12_share_34 : decode cX12_share 34 = .ok (.bipush 12, 2) := by decide +kernel
theorem dX12_share_36 : decode cX12_share 36 = .ok (.if_icmp .le 5, 3) := by decide +kernel
theorem dX12_share_39 : decode cX12_share 39 = .ok (.iconst 0, 1) := by decide +kernel
theorem dX12_share_40 : decode cX12_share 40 = .ok (.ireturn, 1) := by decide +kernel
theorem dX12_isLine_0 : decode cX12_isLine 0 = .ok (.iload_n 0, 1) := by decide +kernel
theorem dX12_isLine_1 : decode cX12_isLine 1 = .ok (.ifCond .lt 13, 3) := by decide +kernel
theorem dX12_isLine_4 : decode cX12_isLine 4 = .ok (.iload_n 0, 1) := by decide +kernel
theorem dX12_isLine_5 : decode cX12_isLine 5 = .ok (.bipush 6, 2) := by decide +kernel
theorem dX12_isLine_7 : decode cX12_isLine 7 = .ok (.if_icmp .ge 7, 3) := by decide +kernel
theorem dX12_isLine_10 : decode cX12_isLine 10 = .ok (.iconst 1, 1) := by decide +kernel
theorem dX12_isLine_11 : decode cX12_isLine 11 = .ok (.goto 4, 3) := by decide +kernel
theorem dX12_isLine_14 : decode cX12_isLine 14 = .ok (.iconst 0, 1) := by decide +kernel
theorem dX12_isLine_15 : decode cX12_isLine 15 = .ok (.ireturn, 1) := by decide +kernel
theorem dX12_connect_0 : decode cX12_connect 0 = .ok (.iload_n 1, 1) := by decide +kernel
theorem dX12_connect_1 : decode cX12_connect 1 = .ok (.invokestatic 325, 3) := by decide +kernel
theorem dX12_connect_4 : decode cX12_connect 4 = .ok (.ifCond .eq 12, 3) := by decide +kernel
theorem dX12_connect_7 : decode cX12_connect 7 = .ok (.aload_n 0, 1) := by decide +kernel
theorem dX12_connect_8 : decode cX12_connect 8 = .ok (.getfield 89, 3) := by decide +kernel
theorem dX12_connect_11 : decode cX12_connect 11 = .ok (.iload_n 1, 1) := by decide +kernel
theorem dX12_connect_12 : decode cX12_connect 12 = .ok (.baload, 1) := by decide +kernel
theorem dX12_connect_13 : decode cX12_connect 13 = .ok (.ifCond .eq 5, 3) := by decide +kernel
theorem dX12_connect_16 : decode cX12_connect 16 = .ok (.iconst 0, 1) := by decide +kernel
theorem dX12_connect_17 : decode cX12_connect 17 = .ok (.ireturn, 1) := by decide +kernel
theorem dX12_connect_18 : decode cX12_connect 18 = .ok (.aload_n 0, 1) := by decide +kernel
theorem dX12_connect_19 : decode cX12_connect 19 = .ok (.getfield 89, 3) := by decide +kernel
theorem dX12_connect_22 : decode cX12_connect 22 = .ok (.iload_n 1, 1) := by decide +kernel
theorem dX12_connect_23 : decode cX12_connect 23 = .ok (.iconst 1, 1) := by decide +kernel
theorem dX12_connect_24 : decode cX12_connect 24 = .ok (.bastore, 1) := by decide +kernel
theorem dX12_connect_25 : decode cX12_connect 25 = .ok (.aload_n 0, 1) := by decide +kernel
theorem dX12_connect_26 : decode cX12_connect 26 = .ok (.getfield 92, 3) := by decide +kernel
theorem dX12_connect_29 : decode cX12_connect 29 = .ok (.iload_n 1, 1) := by decide +kernel
theorem dX12_connect_30 : decode cX12_connect 30 = .ok (.iconst 0, 1) := by decide +kernel
theorem dX12_connect_31 : decode cX12_connect 31 = .ok (.bastore, 1) := by decide +kernel
theorem dX12_connect_32 : decode cX12_connect 32 = .ok (.aload_n 0, 1) := by decide +kernel
theorem dX12_connect_33 : decode cX12_connect 33 = .ok (.getfield 99, 3) := by decide +kernel
theorem dX12_connect_36 : decode cX12_connect 36 = .ok (.iload_n 1, 1) := by decide +kernel
theorem dX12_connect_37 : decode cX12_connect 37 = .ok (.iconst 0, 1) := by decide +kernel
theorem dX12_connect_38 : decode cX12_connect 38 = .ok (.iastore, 1) := by decide +kernel
theorem dX12_connect_39 : decode cX12_connect 39 = .ok (.aload_n 0, 1) := by decide +kernel
theorem dX12_connect_40 : decode cX12_connect 40 = .ok (.getfield 106, 3) := by decide +kernel
theorem dX12_connect_43 : decode cX12_connect 43 = .ok (.iload_n 1, 1) := by decide +kernel
theorem dX12_connect_44 : decode cX12_connect 44 = .ok (.iconst 0, 1) := by decide +kernel
theorem dX12_connect_45 : decode cX12_connect 45 = .ok (.iastore, 1) := by decide +kernel
theorem dX12_connect_46 : decode cX12_connect 46 = .ok (.aload_n 0, 1) := by decide +kernel
theorem dX12_connect_47 : decode cX12_connect 47 = .ok (.getfield 112, 3) := by decide +kernel
theorem dX12_connect_50 : decode cX12_connect 50 = .ok (.iload_n 1, 1) := by decide +kernel
theorem dX12_connect_51 : decode cX12_connect 51 = .ok (.iconst 1, 1) := by decide +kernel
theorem dX12_connect_52 : decode cX12_connect 52 = .ok (.iastore, 1) := by decide +kernel
theorem dX12_connect_53 : decode cX12_connect 53 = .ok (.aload_n 0, 1) := by decide +kernel
theorem dX12_connect_54 : decode cX12_connect 54 = .ok (.getfield 109, 3) := by decide +kernel
theorem dX12_connect_57 : decode cX12_connect 57 = .ok (.bipush 16, 2) := by decide +kernel
theorem dX12_connect_59 : decode cX12_connect 59 = .ok (.iload_n 1, 1) := by decide +kernel
theorem dX12_connect_60 : decode cX12_connect 60 = .ok (.imul, 1) := by decide +kernel
theorem dX12_connect_61 : decode cX12_connect 61 = .ok (.lconst 0, 1) := by decide +kernel
theorem dX12_connect_62 : decode cX12_connect 62 = .ok (.lastore, 1) := by decide +kernel
theorem dX12_connect_63 : decode cX12_connect 63 = .ok (.aload_n 0, 1) := by decide +kernel
theorem dX12_connect_64 : decode cX12_connect 64 = .ok (.getfield 115, 3) := by decide +kernel
theorem dX12_connect_67 : decode cX12_connect 67 = .ok (.iload_n 1, 1) := by decide +kernel
theorem dX12_connect_68 : decode cX12_connect 68 = .ok (.lconst 0, 1) := by decide +kernel
theorem dX12_connect_69 : decode cX12_connect 69 = .ok (.lastore, 1) := by decide +kernel
theorem dX12_connect_70 : decode cX12_connect 70 = .ok (.iconst 1, 1) := by decide +kernel
theorem dX12_connect_71 : decode cX12_connect 71 = .ok (.ireturn, 1) := by decide +kernel
theorem dX12_hang_0 : decode cX12_hang 0 = .ok (.iload_n 1, 1) := by decide +kernel
theorem dX12_hang_1 : decode cX12_hang 1 = .ok (.invokestatic 325, 3) := by decide +kernel
theorem dX12_hang_4 : decode cX12_hang 4 = .ok (.ifCond .eq 12, 3) := by decide +kernel
theorem dX12_hang_7 : decode cX12_hang 7 = .ok (.aload_n 0, 1) := by decide +kernel
theorem dX12_hang_8 : decode cX12_hang 8 = .ok (.getfield 89, 3) := by decide +kernel
theorem dX12_hang_11 : decode cX12_hang 11 = .ok (.iload_n 1, 1) := by decide +kernel
theorem dX12_hang_12 : decode cX12_hang 12 = .ok (.baload, 1) := by decide +kernel
theorem dX12_hang_13 : decode cX12_hang 13 = .ok (.ifCond .ne 5, 3) := by decide +kernel
theorem dX12_hang_16 : decode cX12_hang 16 = .ok (.iconst 0, 1) := by decide +kernel
theorem dX12_hang_17 : decode cX12_hang 17 = .ok (.ireturn, 1) := by decide +kernel
theorem dX12_come__0 : decode cX12_come_ 0 = .ok (.aload_n 0, 1) := by decide +kernel
theorem dX12_come__1 : decode cX12_come_ 1 = .ok (.getfield 261, 3) := by decide +kernel
theorem dX12_come__4 : decode cX12_come_ 4 = .ok (.istore_n 2, 1) := by decide +kernel
theorem dX12_come__5 : decode cX12_come_ 5 = .ok (.aload_n 0, 1) := by decide +kernel
theorem dX12_come__6 : decode cX12_come_ 6 = .ok (.iconst 0, 1) := by decide +kernel
theorem dX12_come__7 : decode cX12_come_ 7 = .ok (.putfield 261, 3) := by decide +kernel
theorem dX12_come__10 : decode cX12_come_ 10 = .ok (.iload_n 1, 1) := by decide +kernel
theorem dX12_come__11 : decode cX12_come_ 11 = .ok (.invokestatic 325, 3) := by decide +kernel
theorem dX12_come__14 : decode cX12_come_ 14 = .ok (.ifCond .eq 12, 3) := by decide +kernel
theorem dX12_come__17 : decode cX12_come_ 17 = .ok (.aload_n 0, 1) := by decide +kernel
theorem dX12_come__18 : decode cX12_come_ 18 = .ok (.getfield 89, 3) := by decide +kernel
theorem dX12_come__21 : decode cX12_come_ 21 = .ok (.iload_n 1, 1) := by decide +kernel
theorem dX12_come__22 : decode cX12_come_ 22 = .ok (.baload, 1) := by decide +kernel
theorem dX12_come__23 : decode cX12_come_ 23 = .ok (.ifCond .ne 5, 3) := by decide +kernel
theorem dX12_come__26 : decode cX12_come_ 26 = .ok (.iconst (-1), 1) := by decide +kernel
theorem dX12_come__27 : decode cX12_come_ 27 = .ok (.ireturn, 1) := by decide +kernel
theorem dX12_isOpen_0 : decode cX12_isOpen 0 = .ok (.iload_n 1, 1) := by decide +kernel
theorem dX12_isOpen_1 : decode cX12_isOpen 1 = .ok (.invokestatic 325, 3) := by decide +kernel
theorem dX12_isOpen_4 : decode cX12_isOpen 4 = .ok (.ifCond .eq 16, 3) := by decide +kernel
theorem dX12_isOpen_7 : decode cX12_isOpen 7 = .ok (.aload_n 0, 1) := by decide +kernel
theorem dX12_isOpen_8 : decode cX12_isOpen 8 = .ok (.getfield 89, 3) := by decide +kernel
theorem dX12_isOpen_11 : decode cX12_isOpen 11 = .ok (.iload_n 1, 1) := by decide +kernel
theorem dX12_isOpen_12 : decode cX12_isOpen 12 = .ok (.baload, 1) := by decide +kernel
theorem dX12_isOpen_13 : decode cX12_isOpen 13 = .ok (.ifCond .eq 7, 3) := by decide +kernel
theorem dX12_isOpen_16 : decode cX12_isOpen 16 = .ok (.iconst 1, 1) := by decide +kernel
theorem dX12_isOpen_17 : decode cX12_isOpen 17 = .ok (.goto 4, 3) := by decide +kernel
theorem dX12_isOpen_20 : decode cX12_isOpen 20 = .ok (.iconst 0, 1) := by decide +kernel
theorem dX12_isOpen_21 : decode cX12_isOpen 21 = .ok (.ireturn, 1) := by decide +kernel
theorem dX12_tick_0 : decode cX12_tick 0 = .ok (.iload_n 1, 1) := by decide +kernel
theorem dX12_tick_1 : decode cX12_tick 1 = .ok (.ifCond .lt 10, 3) := by decide +kernel
theorem dX12_tick_4 : decode cX12_tick 4 = .ok (.iload_n 1, 1) := by decide +kernel
theorem dX12_tick_5 : decode cX12_tick 5 = .ok (.ldc_w 863, 3) := by decide +kernel
theorem dX12_tick_8 : decode cX12_tick 8 = .ok (.if_icmp .le 5, 3) := by decide +kernel
theorem dX12_tick_11 : decode cX12_tick 11 = .ok (.iconst 0, 1) := by decide +kernel
theorem dX12_tick_12 : decode cX12_tick 12 = .ok (.ireturn, 1) := by decide +kernel
theorem dX12_tick_13 : decode cX12_tick 13 = .ok (.aload_n 0, 1) := by decide +kernel
theorem dX12_tick_14 : decode cX12_tick 14 = .ok (.dup, 1) := by decide +kernel
theorem dX12_tick_15 : decode cX12_tick 15 = .ok (.getfield 322, 3) := by decide +kernel
theorem dX12_tick_18 : decode cX12_tick 18 = .ok (.iload_n 1, 1) := by decide +kernel
theorem dX12_tick_19 : decode cX12_tick 19 = .ok (.i2l, 1) := by decide +kernel
theorem dX12_tick_20 : decode cX12_tick 20 = .ok (.ladd, 1) := by decide +kernel
theorem dX12_tick_21 : decode cX12_tick 21 = .ok (.putfield 322, 3) := by decide +kernel
theorem dX12_tick_24 : decode cX12_tick 24 = .ok (.lconst 0, 1) := by decide +kernel
theorem dX12_tick_25 : decode cX12_tick 25 = .ok (.lstore_n 2, 1) := by decide +kernel
theorem dX12_tick_26 : decode cX12_tick 26 = .ok (.iconst 1, 1) := by decide +kernel
theorem dX12_tick_27 : decode cX12_tick 27 = .ok (.istore 4, 2) := by decide +kernel
theorem dX12_tick_29 : decode cX12_tick 29 = .ok (.iload 4, 2) := by decide +kernel
theorem dX12_tick_31 : decode cX12_tick 31 = .ok (.ifCond .eq 162, 3) := by decide +kernel
theorem dX12_tick_34 : decode cX12_tick 34 = .ok (.iconst (-1), 1) := by decide +kernel
theorem dX12_tick_35 : decode cX12_tick 35 = .ok (.istore 5, 2) := by decide +kernel
theorem dX12_tick_37 : decode cX12_tick 37 = .ok (.iconst 0, 1) := by decide +kernel
theorem dX12_tick_38 : decode cX12_tick 38 = .ok (.istore 6, 2) := by decide +kernel
theorem dX12_tick_40 : decode cX12_tick 40 = .ok (.iload 6, 2) := by decide +kernel
theorem dX12_tick_42 : decode cX12_tick 42 = .ok (.bipush 40, 2) := by decide +kernel
theorem dX12_tick_44 : decode cX12_tick 44 = .ok (.if_icmp .ge 94, 3) := by decide +kernel
theorem dX12_tick_47 : decode cX12_tick 47 = .ok (.aload_n 0, 1) := by decide +kernel
theorem dX12_tick_48 : decode cX12_tick 48 = .ok (.getfield 139, 3) := by decide +kernel
theorem dX12_tick_51 : decode cX12_tick 51 = .ok (.iload 6, 2) := by decide +kernel
theorem dX12_tick_53 : decode cX12_tick 53 = .ok (.laload, 1) := by decide +kernel
theorem dX12_tick_54 : decode cX12_tick 54 = .ok (.lload_n 2, 1) := by decide +kernel
theorem dX12_tick_55 : decode cX12_tick 55 = .ok (.lcmp, 1) := by decide +kernel
theorem dX12_tick_56 : decode cX12_tick 56 = .ok (.ifCond .le 36, 3) := by decide +kernel
theorem dX12_tick_92 : decode cX12_tick 92 = .ok (.iconst 0, 1) := by decide +kernel
theorem dX12_tick_93 : decode cX12_tick 93 = .ok (.istore 7, 2) := by decide +kernel
theorem dX12_tick_95 : decode cX12_tick 95 = .ok (.iload 7, 2) := by decide +kernel
theorem dX12_tick_97 : decode cX12_tick 97 = .ok (.ifCond .eq 31, 3) := by decide +kernel
theorem dX12_tick_128 : decode cX12_tick 128 = .ok (.iload 5, 2) := by decide +kernel
theorem dX12_tick_130 : decode cX12_tick 130 = .ok (.istore 5, 2) := by decide +kernel
theorem dX12_tick_132 : decode cX12_tick 132 = .ok (.iinc 6 1, 3) := by decide +kernel
theorem dX12_tick_135 : decode cX12_tick 135 = .ok (.goto (-95), 3) := by decide +kernel
theorem dX12_tick_138 : decode cX12_tick 138 = .ok (.iload 5, 2) := by decide +kernel
theorem dX12_tick_140 : decode cX12_tick 140 = .ok (.ifCond .lt 7, 3) := by decide +kernel
theorem dX12_tick_147 : decode cX12_tick 147 = .ok (.iconst 0, 1) := by decide +kernel
theorem dX12_tick_148 : decode cX12_tick 148 = .ok (.istore 4, 2) := by decide +kernel
theorem dX12_tick_150 : decode cX12_tick 150 = .ok (.iload 4, 2) := by decide +kernel
theorem dX12_tick_152 : decode cX12_tick 152 = .ok (.ifCond .eq 38, 3) := by decide +kernel
theorem dX12_tick_193 : decode cX12_tick 193 = .ok (.iconst 1, 1) := by decide +kernel
theorem dX12_tick_194 : decode cX12_tick 194 = .ok (.ireturn, 1) := by decide +kernel
theorem dX12_crash_0 : decode cX12_crash 0 = .ok (.iload_n 1, 1) := by decide +kernel
theorem dX12_crash_1 : decode cX12_crash 1 = .ok (.ifCond .lt 11, 3) := by decide +kernel
theorem dX12_crash_4 : decode cX12_crash 4 = .ok (.iload_n 1, 1) := by decide +kernel
theorem dX12_crash_5 : decode cX12_crash 5 = .ok (.aload_n 0, 1) := by decide +kernel
theorem dX12_crash_6 : decode cX12_crash 6 = .ok (.getfield 271, 3) := by decide +kernel
theorem dX12_crash_9 : decode cX12_crash 9 = .ok (.if_icmp .le 5, 3) := by decide +kernel
theorem dX12_crash_12 : decode cX12_crash 12 = .ok (.iconst (-1), 1) := by decide +kernel
theorem dX12_crash_13 : decode cX12_crash 13 = .ok (.ireturn, 1) := by decide +kernel
theorem dX12_crash_14 : decode cX12_crash 14 = .ok (.aload_n 0, 1) := by decide +kernel
theorem dX12_crash_15 : decode cX12_crash 15 = .ok (.getfield 271, 3) := by decide +kernel
theorem dX12_crash_18 : decode cX12_crash 18 = .ok (.istore_n 2, 1) := by decide +kernel
theorem dX12_crash_19 : decode cX12_crash 19 = .ok (.aload_n 0, 1) := by decide +kernel
theorem dX12_crash_20 : decode cX12_crash 20 = .ok (.iload_n 1, 1) := by decide +kernel
theorem dX12_crash_21 : decode cX12_crash 21 = .ok (.iconst 0, 1) := by decide +kernel
theorem dX12_crash_22 : decode cX12_crash 22 = .ok (.invokevirtual 281, 3) := by decide +kernel
theorem dX12_crash_25 : decode cX12_crash 25 = .ok (.aload_n 0, 1) := by decide +kernel
theorem dX12_crash_26 : decode cX12_crash 26 = .ok (.invokevirtual 258, 3) := by decide +kernel
theorem dX12_crash_29 : decode cX12_crash 29 = .ok (.iload_n 2, 1) := by decide +kernel
theorem dX12_crash_30 : decode cX12_crash 30 = .ok (.ireturn, 1) := by decide +kernel
theorem dX12_come_0 : decode cX12_come 0 = .ok (.iconst 0, 1) := by decide +kernel
theorem dX12_come_1 : decode cX12_come 1 = .ok (.istore_n 3, 1) := by decide +kernel
theorem dX12_come_2 : decode cX12_come 2 = .ok (.iload_n 3, 1) := by decide +kernel
theorem dX12_come_3 : decode cX12_come 3 = .ok (.iload_n 1, 1) := by decide +kernel
theorem dX12_come_4 : decode cX12_come 4 = .ok (.if_icmp .ge 16, 3) := by decide +kernel
theorem dX12_come_20 : decode cX12_come 20 = .ok (.aload_n 0, 1) := by decide +kernel
theorem dX12_come_21 : decode cX12_come 21 = .ok (.iconst 0, 1) := by decide +kernel
theorem dX12_come_22 : decode cX12_come 22 = .ok (.putfield 271, 3) := by decide +kernel
theorem dX12_come_25 : decode cX12_come 25 = .ok (.return_, 1) := by decide +kernel
theorem dX12_outs_0 : decode cX12_outs 0 = .ok (.iload_n 1, 1) := by decide +kernel
theorem dX12_outs_1 : decode cX12_outs 1 = .ok (.invokestatic 325, 3) := by decide +kernel
theorem dX12_outs_4 : decode cX12_outs 4 = .ok (.ifCond .eq 12, 3) := by decide +kernel
theorem dX12_outs_7 : decode cX12_outs 7 = .ok (.aload_n 0, 1) := by decide +kernel
theorem dX12_outs_8 : decode cX12_outs 8 = .ok (.getfield 99, 3) := by decide +kernel
theorem dX12_outs_11 : decode cX12_outs 11 = .ok (.iload_n 1, 1) := by decide +kernel
theorem dX12_outs_12 : decode cX12_outs 12 = .ok (.iaload, 1) := by decide +kernel
theorem dX12_outs_13 : decode cX12_outs 13 = .ok (.goto 4, 3) := by decide +kernel
theorem dX12_outs_16 : decode cX12_outs 16 = .ok (.iconst (-1), 1) := by decide +kernel
theorem dX12_outs_17 : decode cX12_outs 17 = .ok (.ireturn, 1) := by decide +kernel
theorem dX12_out_0 : decode cX12_out 0 = .ok (.iload_n 1, 1) := by decide +kernel
theorem dX12_out_1 : decode cX12_out 1 = .ok (.invokestatic 325, 3) := by decide +kernel
theorem dX12_out_4 : decode cX12_out 4 = .ok (.ifCond .eq 36, 3) := by decide +kernel
theorem dX12_out_7 : decode cX12_out 7 = .ok (.iload_n 2, 1) := by decide +kernel
theorem dX12_out_8 : decode cX12_out 8 = .ok (.ifCond .lt 32, 3) := by decide +kernel
theorem dX12_out_11 : decode cX12_out 11 = .ok (.iload_n 2, 1) := by decide +kernel
theorem dX12_out_12 : decode cX12_out 12 = .ok (.aload_n 0, 1) := by decide +kernel
theorem dX12_out_13 : decode cX12_out 13 = .ok (.getfield 99, 3) := by decide +kernel
theorem dX12_out_16 : decode cX12_out 16 = .ok (.iload_n 1, 1) := by decide +kernel
theorem dX12_out_17 : decode cX12_out 17 = .ok (.iaload, 1) := by decide +kernel
theorem dX12_out_18 : decode cX12_out 18 = .ok (.if_icmp .ge 22, 3) := by decide +kernel
theorem dX12_out_40 : decode cX12_out 40 = .ok (.iconst (-1), 1) := by decide +kernel
theorem dX12_out_41 : decode cX12_out 41 = .ok (.ireturn, 1) := by decide +kernel
theorem dX12_drop_0 : decode cX12_drop 0 = .ok (.iload_n 1, 1) := by decide +kernel
theorem dX12_drop_1 : decode cX12_drop 1 = .ok (.invokestatic 325, 3) := by decide +kernel
theorem dX12_drop_4 : decode cX12_drop 4 = .ok (.ifCond .ne 5, 3) := by decide +kernel
theorem dX12_drop_7 : decode cX12_drop 7 = .ok (.iconst (-1), 1) := by decide +kernel
theorem dX12_drop_8 : decode cX12_drop 8 = .ok (.ireturn, 1) := by decide +kernel
theorem dX12_drop_9 : decode cX12_drop 9 = .ok (.aload_n 0, 1) := by decide +kernel
theorem dX12_drop_10 : decode cX12_drop 10 = .ok (.getfield 99, 3) := by decide +kernel
theorem dX12_drop_13 : decode cX12_drop 13 = .ok (.iload_n 1, 1) := by decide +kernel
theorem dX12_drop_14 : decode cX12_drop 14 = .ok (.iaload, 1) := by decide +kernel
theorem dX12_drop_15 : decode cX12_drop 15 = .ok (.istore_n 2, 1) := by decide +kernel
theorem dX12_drop_16 : decode cX12_drop 16 = .ok (.aload_n 0, 1) := by decide +kernel
theorem dX12_drop_17 : decode cX12_drop 17 = .ok (.getfield 99, 3) := by decide +kernel
theorem dX12_drop_20 : decode cX12_drop 20 = .ok (.iload_n 1, 1) := by decide +kernel
theorem dX12_drop_21 : decode cX12_drop 21 = .ok (.iconst 0, 1) := by decide +kernel
theorem dX12_drop_22 : decode cX12_drop 22 = .ok (.iastore, 1) := by decide +kernel
theorem dX12_drop_23 : decode cX12_drop 23 = .ok (.iload_n 2, 1) := by decide +kernel
theorem dX12_drop_24 : decode cX12_drop 24 = .ok (.ireturn, 1) := by decide +kernel
theorem dX12_told_0 : decode cX12_told 0 = .ok (.iload_n 1, 1) := by decide +kernel
theorem dX12_told_1 : decode cX12_told 1 = .ok (.tableswitch 112 0 8 #[51, 57, 62, 68, 77, 82, 87, 96, 105], 51) := by decide +kernel
theorem dX12_told_52 : decode cX12_told 52 = .ok (.aload_n 0, 1) := by decide +kernel
theorem dX12_told_53 : decode cX12_told 53 = .ok (.getfield 322, 3) := by decide +kernel
theorem dX12_told_56 : decode cX12_told 56 = .ok (.l2i, 1) := by decide +kernel
theorem dX12_told_57 : decode cX12_told 57 = .ok (.ireturn, 1) := by decide +kernel
theorem dX12_told_58 : decode cX12_told 58 = .ok (.aload_n 0, 1) := by decide +kernel
theorem dX12_told_59 : decode cX12_told 59 = .ok (.getfield 271, 3) := by decide +kernel
theorem dX12_told_62 : decode cX12_told 62 = .ok (.ireturn, 1) := by decide +kernel
theorem dX12_told_63 : decode cX12_told 63 = .ok (.aload_n 0, 1) := by decide +kernel
theorem dX12_told_64 : decode cX12_told 64 = .ok (.iconst 0, 1) := by decide +kernel
theorem dX12_told_65 : decode cX12_told 65 = .ok (.invokevirtual 315, 3) := by decide +kernel
theorem dX12_told_68 : decode cX12_told 68 = .ok (.ireturn, 1) := by decide +kernel
theorem dX12_told_69 : decode cX12_told 69 = .ok (.aload_n 0, 1) := by decide +kernel
theorem dX12_told_70 : decode cX12_told 70 = .ok (.aload_n 0, 1) := by decide +kernel
theorem dX12_told_71 : decode cX12_told 71 = .ok (.getfield 139, 3) := by decide +kernel
theorem dX12_told_74 : decode cX12_told 74 = .ok (.invokevirtual 688, 3) := by decide +kernel
theorem dX12_told_77 : decode cX12_told 77 = .ok (.ireturn, 1) := by decide +kernel
theorem dX12_told_78 : decode cX12_told 78 = .ok (.aload_n 0, 1) := by decide +kernel
theorem dX12_told_79 : decode cX12_told 79 = .ok (.getfield 289, 3) := by decide +kernel
theorem dX12_told_82 : decode cX12_told 82 = .ok (.ireturn, 1) := by decide +kernel
theorem dX12_told_83 : decode cX12_told 83 = .ok (.aload_n 0, 1) := by decide +kernel
theorem dX12_told_84 : decode cX12_told 84 = .ok (.getfield 292, 3) := by decide +kernel
theorem dX12_told_87 : decode cX12_told 87 = .ok (.ireturn, 1) := by decide +kernel
theorem dX12_told_88 : decode cX12_told 88 = .ok (.aload_n 0, 1) := by decide +kernel
theorem dX12_told_89 : decode cX12_told 89 = .ok (.aload_n 0, 1) := by decide +kernel
theorem dX12_told_90 : decode cX12_told 90 = .ok (.getfield 118, 3) := by decide +kernel
theorem dX12_told_93 : decode cX12_told 93 = .ok (.invokevirtual 688, 3) := by decide +kernel
theorem dX12_told_96 : decode cX12_told 96 = .ok (.ireturn, 1) := by decide +kernel
theorem dX12_told_97 : decode cX12_told 97 = .ok (.aload_n 0, 1) := by decide +kernel
theorem dX12_told_98 : decode cX12_told 98 = .ok (.aload_n 0, 1) := by decide +kernel
theorem dX12_told_99 : decode cX12_told 99 = .ok (.getfield 130, 3) := by decide +kernel
theorem dX12_told_102 : decode cX12_told 102 = .ok (.invokevirtual 688, 3) := by decide +kernel
theorem dX12_told_105 : decode cX12_told 105 = .ok (.ireturn, 1) := by decide +kernel
theorem dX12_told_106 : decode cX12_told 106 = .ok (.aload_n 0, 1) := by decide +kernel
theorem dX12_told_107 : decode cX12_told 107 = .ok (.bipush 80, 2) := by decide +kernel
theorem dX12_told_109 : decode cX12_told 109 = .ok (.invokevirtual 315, 3) := by decide +kernel
theorem dX12_told_112 : decode cX12_told 112 = .ok (.ireturn, 1) := by decide +kernel
theorem dX12_told_113 : decode cX12_told 113 = .ok (.iconst (-1), 1) := by decide +kernel
theorem dX12_told_114 : decode cX12_told 114 = .ok (.ireturn, 1) := by decide +kernel
theorem dX12_nodes_0 : decode cX12_nodes 0 = .ok (.iconst 0, 1) := by decide +kernel
theorem dX12_nodes_1 : decode cX12_nodes 1 = .ok (.istore_n 2, 1) := by decide +kernel
theorem dX12_nodes_2 : decode cX12_nodes 2 = .ok (.iload_n 1, 1) := by decide +kernel
theorem dX12_nodes_3 : decode cX12_nodes 3 = .ok (.istore_n 3, 1) := by decide +kernel
theorem dX12_nodes_4 : decode cX12_nodes 4 = .ok (.iload_n 3, 1) := by decide +kernel
theorem dX12_nodes_5 : decode cX12_nodes 5 = .ok (.iload_n 1, 1) := by decide +kernel
theorem dX12_nodes_6 : decode cX12_nodes 6 = .ok (.bipush 80, 2) := by decide +kernel
theorem dX12_nodes_8 : decode cX12_nodes 8 = .ok (.iadd, 1) := by decide +kernel
theorem dX12_nodes_9 : decode cX12_nodes 9 = .ok (.if_icmp .ge 26, 3) := by decide +kernel
theorem dX12_nodes_12 : decode cX12_nodes 12 = .ok (.iload_n 2, 1) := by decide +kernel
theorem dX12_nodes_13 : decode cX12_nodes 13 = .ok (.aload_n 0, 1) := by decide +kernel
theorem dX12_nodes_14 : decode cX12_nodes 14 = .ok (.getfield 13, 3) := by decide +kernel
theorem dX12_nodes_17 : decode cX12_nodes 17 = .ok (.iload_n 3, 1) := by decide +kernel
theorem dX12_nodes_18 : decode cX12_nodes 18 = .ok (.baload, 1) := by decide +kernel
theorem dX12_nodes_19 : decode cX12_nodes 19 = .ok (.ifCond .eq 7, 3) := by decide +kernel
theorem dX12_nodes_22 : decode cX12_nodes 22 = .ok (.iconst 1, 1) := by decide +kernel
theorem dX12_nodes_23 : decode cX12_nodes 23 = .ok (.goto 4, 3) := by decide +kernel
theorem dX12_nodes_26 : decode cX12_nodes 26 = .ok (.iconst 0, 1) := by decide +kernel
theorem dX12_nodes_27 : decode cX12_nodes 27 = .ok (.iadd, 1) := by decide +kernel
theorem dX12_nodes_28 : decode cX12_nodes 28 = .ok (.istore_n 2, 1) := by decide +kernel
theorem dX12_nodes_29 : decode cX12_nodes 29 = .ok (.iinc 3 1, 3) := by decide +kernel
theorem dX12_nodes_32 : decode cX12_nodes 32 = .ok (.goto (-28), 3) := by decide +kernel
theorem dX12_nodes_35 : decode cX12_nodes 35 = .ok (.iload_n 2, 1) := by decide +kernel
theorem dX12_nodes_36 : decode cX12_nodes 36 = .ok (.ireturn, 1) := by decide +kernel
theorem dX12_count_0 : decode cX12_count 0 = .ok (.iconst 0, 1) := by decide +kernel
theorem dX12_count_1 : decode cX12_count 1 = .ok (.istore_n 2, 1) := by decide +kernel
theorem dX12_count_2 : decode cX12_count 2 = .ok (.iconst 0, 1) := by decide +kernel
theorem dX12_count_3 : decode cX12_count 3 = .ok (.istore_n 3, 1) := by decide +kernel
theorem dX12_count_4 : decode cX12_count 4 = .ok (.iload_n 3, 1) := by decide +kernel
theorem dX12_count_5 : decode cX12_count 5 = .ok (.aload_n 1, 1) := by decide +kernel
theorem dX12_count_6 : decode cX12_count 6 = .ok (.arraylength, 1) := by decide +kernel
theorem dX12_count_7 : decode cX12_count 7 = .ok (.if_icmp .ge 25, 3) := by decide +kernel
theorem dX12_count_10 : decode cX12_count 10 = .ok (.iload_n 2, 1) := by decide +kernel
theorem dX12_count_11 : decode cX12_count 11 = .ok (.aload_n 1, 1) := by decide +kernel
theorem dX12_count_12 : decode cX12_count 12 = .ok (.iload_n 3, 1) := by decide +kernel
theorem dX12_count_13 : decode cX12_count 13 = .ok (.laload, 1) := by decide +kernel
theorem dX12_count_14 : decode cX12_count 14 = .ok (.lconst 0, 1) := by decide +kernel
theorem dX12_count_15 : decode cX12_count 15 = .ok (.lcmp, 1) := by decide +kernel
theorem dX12_count_16 : decode cX12_count 16 = .ok (.ifCond .le 7, 3) := by decide +kernel
theorem dX12_count_19 : decode cX12_count 19 = .ok (.iconst 1, 1) := by decide +kernel
theorem dX12_count_20 : decode cX12_count 20 = .ok (.goto 4, 3) := by decide +kernel
theorem dX12_count_23 : decode cX12_count 23 = .ok (.iconst 0, 1) := by decide +kernel
theorem dX12_count_24 : decode cX12_count 24 = .ok (.iadd, 1) := by decide +kernel
theorem dX12_count_25 : decode cX12_count 25 = .ok (.istore_n 2, 1) := by decide +kernel
theorem dX12_count_26 : decode cX12_count 26 = .ok (.iinc 3 1, 3) := by decide +kernel
theorem dX12_count_29 : decode cX12_count 29 = .ok (.goto (-25), 3) := by decide +kernel
theorem dX12_count_32 : decode cX12_count 32 = .ok (.iload_n 2, 1) := by decide +kernel
theorem dX12_count_33 : decode cX12_count 33 = .ok (.ireturn, 1) := by decide +kernel
theorem dL_law_0 : decode cL_law 0 = .ok (.new 7, 3) := by decide +kernel
theorem dL_law_3 : decode cL_law 3 = .ok (.dup, 1) := by decide +kernel
theorem dL_law_4 : decode cL_law 4 = .ok (.invokespecial 9, 3) := by decide +kernel
theorem dL_law_7 : decode cL_law 7 = .ok (.astore_n 1, 1) := by decide +kernel
theorem dL_law_8 : decode cL_law 8 = .ok (.new 10, 3) := by decide +kernel
theorem dL_law_11 : decode cL_law 11 = .ok (.dup, 1) := by decide +kernel
theorem dL_law_12 : decode cL_law 12 = .ok (.invokespecial 12, 3) := by decide +kernel
theorem dL_law_15 : decode cL_law 15 = .ok (.astore_n 2, 1) := by decide +kernel
theorem dL_law_16 : decode cL_law 16 = .ok (.iconst 0, 1) := by decide +kernel
theorem dL_law_17 : decode cL_law 17 = .ok (.istore_n 3, 1) := by decide +kernel
theorem dL_law_18 : decode cL_law 18 = .ok (.iload_n 3, 1) := by decide +kernel
theorem dL_law_19 : decode cL_law 19 = .ok (.aload_n 0, 1) := by decide +kernel
theorem dL_law_20 : decode cL_law 20 = .ok (.arraylength, 1) := by decide +kernel
theorem dL_law_21 : decode cL_law 21 = .ok (.bipush 6, 2) := by decide +kernel
theorem dL_law_23 : decode cL_law 23 = .ok (.isub, 1) := by decide +kernel
theorem dL_law_24 : decode cL_law 24 = .ok (.if_icmp .gt 431, 3) := by decide +kernel
theorem dL_law_27 : decode cL_law 27 = .ok (.aload_n 0, 1) := by decide +kernel
theorem dL_law_28 : decode cL_law 28 = .ok (.iload_n 3, 1) := by decide +kernel
theorem dL_law_29 : decode cL_law 29 = .ok (.iaload, 1) := by decide +kernel
theorem dL_law_30 : decode cL_law 30 = .ok (.bipush 15, 2) := by decide +kernel
theorem dL_law_32 : decode cL_law 32 = .ok (.iand, 1) := by decide +kernel
theorem dL_law_33 : decode cL_law 33 = .ok (.tableswitch 416 0 12 #[67, 130, 153, 176, 199, 222, 245, 268, 291, 314, 337, 370, 393], 67) := by decide +kernel
theorem dL_law_100 : decode cL_law 100 = .ok (.aload_n 1, 1) := by decide +kernel
theorem dL_law_101 : decode cL_law 101 = .ok (.aload_n 0, 1) := by decide +kernel
theorem dL_law_102 : decode cL_law 102 = .ok (.iload_n 3, 1) := by decide +kernel
theorem dL_law_103 : decode cL_law 103 = .ok (.iconst 1, 1) := by decide +kernel
theorem dL_law_104 : decode cL_law 104 = .ok (.iadd, 1) := by decide +kernel
theorem dL_law_105 : decode cL_law 105 = .ok (.iaload, 1) := by decide +kernel
theorem dL_law_106 : decode cL_law 106 = .ok (.aload_n 0, 1) := by decide +kernel
theorem dL_law_107 : decode cL_law 107 = .ok (.iload_n 3, 1) := by decide +kernel
theorem dL_law_108 : decode cL_law 108 = .ok (.iconst 2, 1) := by decide +kernel
theorem dL_law_109 : decode cL_law 109 = .ok (.iadd, 1) := by decide +kernel
theorem dL_law_110 : decode cL_law 110 = .ok (.iaload, 1) := by decide +kernel
theorem dL_law_111 : decode cL_law 111 = .ok (.aload_n 0, 1) := by decide +kernel
theorem dL_law_112 : decode cL_law 112 = .ok (.iload_n 3, 1) := by decide +kernel
theorem dL_law_113 : decode cL_law 113 = .ok (.iconst 3, 1) := by decide +kernel
theorem dL_law_114 : decode cL_law 114 = .ok (.iadd, 1) := by decide +kernel
theorem dL_law_115 : decode cL_law 115 = .ok (.iaload, 1) := by decide +kernel
theorem dL_law_116 : decode cL_law 116 = .ok (.aload_n 0, 1) := by decide +kernel
theorem dL_law_117 : decode cL_law 117 = .ok (.iload_n 3, 1) := by decide +kernel
theorem dL_law_118 : decode cL_law 118 = .ok (.iconst 4, 1) := by decide +kernel
theorem dL_law_119 : decode cL_law 119 = .ok (.iadd, 1) := by decide +kernel
theorem dL_law_120 : decode cL_law 120 = .ok (.iaload, 1) := by decide +kernel
theorem dL_law_121 : decode cL_law 121 = .ok (.aload_n 0, 1) := by decide +kernel

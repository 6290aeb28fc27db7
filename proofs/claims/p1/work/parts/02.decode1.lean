theorem dX11_connection_5 : decode cX11_connection 5 = .ok (.aload_n 0, 1) := by decide +kernel
theorem dX11_connection_6 : decode cX11_connection 6 = .ok (.getfield 18, 3) := by decide +kernel
theorem dX11_connection_9 : decode cX11_connection 9 = .ok (.arraylength, 1) := by decide +kernel
theorem dX11_connection_10 : decode cX11_connection 10 = .ok (.if_icmp .ge 12, 3) := by decide +kernel
theorem dX11_connection_13 : decode cX11_connection 13 = .ok (.aload_n 0, 1) := by decide +kernel
theorem dX11_connection_14 : decode cX11_connection 14 = .ok (.getfield 18, 3) := by decide +kernel
theorem dX11_connection_17 : decode cX11_connection 17 = .ok (.iload_n 1, 1) := by decide +kernel
theorem dX11_connection_18 : decode cX11_connection 18 = .ok (.aaload, 1) := by decide +kernel
theorem dX11_connection_19 : decode cX11_connection 19 = .ok (.goto 4, 3) := by decide +kernel
theorem dX11_connection_22 : decode cX11_connection 22 = .ok (.aconst_null, 1) := by decide +kernel
theorem dX11_connection_23 : decode cX11_connection 23 = .ok (.areturn, 1) := by decide +kernel
theorem dX11_connect_0 : decode cX11_connect 0 = .ok (.aload_n 0, 1) := by decide +kernel
theorem dX11_connect_1 : decode cX11_connect 1 = .ok (.iload_n 1, 1) := by decide +kernel
theorem dX11_connect_2 : decode cX11_connect 2 = .ok (.invokevirtual 108, 3) := by decide +kernel
theorem dX11_connect_5 : decode cX11_connect 5 = .ok (.astore_n 2, 1) := by decide +kernel
theorem dX11_connect_6 : decode cX11_connect 6 = .ok (.aload_n 2, 1) := by decide +kernel
theorem dX11_connect_7 : decode cX11_connect 7 = .ok (.ifnull 10, 3) := by decide +kernel
theorem dX11_connect_10 : decode cX11_connect 10 = .ok (.aload_n 2, 1) := by decide +kernel
theorem dX11_connect_11 : decode cX11_connect 11 = .ok (.getfield 112, 3) := by decide +kernel
theorem dX11_connect_14 : decode cX11_connect 14 = .ok (.ifCond .eq 5, 3) := by decide +kernel
theorem dX11_connect_17 : decode cX11_connect 17 = .ok (.iconst 0, 1) := by decide +kernel
theorem dX11_connect_18 : decode cX11_connect 18 = .ok (.ireturn, 1) := by decide +kernel
theorem dX11_connect_19 : decode cX11_connect 19 = .ok (.aload_n 2, 1) := by decide +kernel
theorem dX11_connect_20 : decode cX11_connect 20 = .ok (.invokevirtual 116, 3) := by decide +kernel
theorem dX11_connect_23 : decode cX11_connect 23 = .ok (.iconst 1, 1) := by decide +kernel
theorem dX11_connect_24 : decode cX11_connect 24 = .ok (.ireturn, 1) := by decide +kernel
theorem dX2_begin_0 : decode cX2_begin 0 = .ok (.aload_n 0, 1) := by decide +kernel
theorem dX2_begin_1 : decode cX2_begin 1 = .ok (.iconst 1, 1) := by decide +kernel
theorem dX2_begin_2 : decode cX2_begin 2 = .ok (.putfield 25, 3) := by decide +kernel
theorem dX2_begin_5 : decode cX2_begin 5 = .ok (.aload_n 0, 1) := by decide +kernel
theorem dX2_begin_6 : decode cX2_begin 6 = .ok (.iconst 0, 1) := by decide +kernel
theorem dX2_begin_7 : decode cX2_begin 7 = .ok (.putfield 29, 3) := by decide +kernel
theorem dX2_begin_10 : decode cX2_begin 10 = .ok (.aload_n 0, 1) := by decide +kernel
theorem dX2_begin_11 : decode cX2_begin 11 = .ok (.getfield 12, 3) := by decide +kernel
theorem dX2_begin_14 : decode cX2_begin 14 = .ok (.iconst 0, 1) := by decide +kernel
theorem dX2_begin_15 : decode cX2_begin 15 = .ok (.putfield 32, 3) := by decide +kernel
theorem dX2_begin_18 : decode cX2_begin 18 = .ok (.aload_n 0, 1) := by decide +kernel
theorem dX2_begin_19 : decode cX2_begin 19 = .ok (.getfield 18, 3) := by decide +kernel
theorem dX2_begin_22 : decode cX2_begin 22 = .ok (.iconst 0, 1) := by decide +kernel
theorem dX2_begin_23 : decode cX2_begin 23 = .ok (.putfield 32, 3) := by decide +kernel
theorem dX2_begin_26 : decode cX2_begin 26 = .ok (.aload_n 0, 1) := by decide +kernel
theorem dX2_begin_27 : decode cX2_begin 27 = .ok (.getfield 21, 3) := by decide +kernel
theorem dX2_begin_30 : decode cX2_begin 30 = .ok (.iconst 0, 1) := by decide +kernel
theorem dX2_begin_31 : decode cX2_begin 31 = .ok (.lconst 0, 1) := by decide +kernel
theorem dX2_begin_32 : decode cX2_begin 32 = .ok (.lastore, 1) := by decide +kernel
theorem dX2_begin_33 : decode cX2_begin 33 = .ok (.aload_n 0, 1) := by decide +kernel
theorem dX2_begin_34 : decode cX2_begin 34 = .ok (.iconst 1, 1) := by decide +kernel
theorem dX2_begin_35 : decode cX2_begin 35 = .ok (.putfield 36, 3) := by decide +kernel
theorem dX2_begin_38 : decode cX2_begin 38 = .ok (.aload_n 0, 1) := by decide +kernel
theorem dX2_begin_39 : decode cX2_begin 39 = .ok (.lconst 0, 1) := by decide +kernel
theorem dX2_begin_40 : decode cX2_begin 40 = .ok (.putfield 39, 3) := by decide +kernel
theorem dX2_begin_43 : decode cX2_begin 43 = .ok (.return_, 1) := by decide +kernel
theorem dX11_hang_0 : decode cX11_hang 0 = .ok (.aload_n 0, 1) := by decide +kernel
theorem dX11_hang_1 : decode cX11_hang 1 = .ok (.iload_n 1, 1) := by decide +kernel
theorem dX11_hang_2 : decode cX11_hang 2 = .ok (.invokevirtual 108, 3) := by decide +kernel
theorem dX11_hang_5 : decode cX11_hang 5 = .ok (.astore_n 2, 1) := by decide +kernel
theorem dX11_hang_6 : decode cX11_hang 6 = .ok (.aload_n 2, 1) := by decide +kernel
theorem dX11_hang_7 : decode cX11_hang 7 = .ok (.ifnull 10, 3) := by decide +kernel
theorem dX11_hang_10 : decode cX11_hang 10 = .ok (.aload_n 2, 1) := by decide +kernel
theorem dX11_hang_11 : decode cX11_hang 11 = .ok (.getfield 112, 3) := by decide +kernel
theorem dX11_hang_14 : decode cX11_hang 14 = .ok (.ifCond .ne 5, 3) := by decide +kernel
theorem dX11_hang_17 : decode cX11_hang 17 = .ok (.iconst 0, 1) := by decide +kernel
theorem dX11_hang_18 : decode cX11_hang 18 = .ok (.ireturn, 1) := by decide +kernel
theorem dX11_come_0 : decode cX11_come 0 = .ok (.aload_n 0, 1) := by decide +kernel
theorem dX11_come_1 : decode cX11_come 1 = .ok (.getfield 10, 3) := by decide +kernel
theorem dX11_come_4 : decode cX11_come 4 = .ok (.getfield 85, 3) := by decide +kernel
theorem dX11_come_7 : decode cX11_come 7 = .ok (.aload_n 0, 1) := by decide +kernel
theorem dX11_come_8 : decode cX11_come 8 = .ok (.getfield 10, 3) := by decide +kernel
theorem dX11_come_11 : decode cX11_come 11 = .ok (.getfield 126, 3) := by decide +kernel
theorem dX11_come_14 : decode cX11_come 14 = .ok (.arraylength, 1) := by decide +kernel
theorem dX11_come_15 : decode cX11_come 15 = .ok (.invokestatic 130, 3) := by decide +kernel
theorem dX11_come_18 : decode cX11_come 18 = .ok (.istore_n 2, 1) := by decide +kernel
theorem dX11_come_19 : decode cX11_come 19 = .ok (.aload_n 0, 1) := by decide +kernel
theorem dX11_come_20 : decode cX11_come 20 = .ok (.getfield 10, 3) := by decide +kernel
theorem dX11_come_23 : decode cX11_come 23 = .ok (.iconst 0, 1) := by decide +kernel
theorem dX11_come_24 : decode cX11_come 24 = .ok (.putfield 85, 3) := by decide +kernel
theorem dX11_come_27 : decode cX11_come 27 = .ok (.aload_n 0, 1) := by decide +kernel
theorem dX11_come_28 : decode cX11_come 28 = .ok (.iload_n 1, 1) := by decide +kernel
theorem dX11_come_29 : decode cX11_come 29 = .ok (.invokevirtual 108, 3) := by decide +kernel
theorem dX11_come_32 : decode cX11_come 32 = .ok (.astore_n 3, 1) := by decide +kernel
theorem dX11_come_33 : decode cX11_come 33 = .ok (.aload_n 3, 1) := by decide +kernel
theorem dX11_come_34 : decode cX11_come 34 = .ok (.ifnull 10, 3) := by decide +kernel
theorem dX11_come_37 : decode cX11_come 37 = .ok (.aload_n 3, 1) := by decide +kernel
theorem dX11_come_38 : decode cX11_come 38 = .ok (.getfield 112, 3) := by decide +kernel
theorem dX11_come_41 : decode cX11_come 41 = .ok (.ifCond .ne 5, 3) := by decide +kernel
theorem dX11_come_44 : decode cX11_come 44 = .ok (.iconst (-1), 1) := by decide +kernel
theorem dX11_come_45 : decode cX11_come 45 = .ok (.ireturn, 1) := by decide +kernel
theorem dX11_isOpen_0 : decode cX11_isOpen 0 = .ok (.aload_n 0, 1) := by decide +kernel
theorem dX11_isOpen_1 : decode cX11_isOpen 1 = .ok (.iload_n 1, 1) := by decide +kernel
theorem dX11_isOpen_2 : decode cX11_isOpen 2 = .ok (.invokevirtual 108, 3) := by decide +kernel
theorem dX11_isOpen_5 : decode cX11_isOpen 5 = .ok (.astore_n 2, 1) := by decide +kernel
theorem dX11_isOpen_6 : decode cX11_isOpen 6 = .ok (.aload_n 2, 1) := by decide +kernel
theorem dX11_isOpen_7 : decode cX11_isOpen 7 = .ok (.ifnull 14, 3) := by decide +kernel
theorem dX11_isOpen_10 : decode cX11_isOpen 10 = .ok (.aload_n 2, 1) := by decide +kernel
theorem dX11_isOpen_11 : decode cX11_isOpen 11 = .ok (.getfield 112, 3) := by decide +kernel
theorem dX11_isOpen_14 : decode cX11_isOpen 14 = .ok (.ifCond .eq 7, 3) := by decide +kernel
theorem dX11_isOpen_17 : decode cX11_isOpen 17 = .ok (.iconst 1, 1) := by decide +kernel
theorem dX11_isOpen_18 : decode cX11_isOpen 18 = .ok (.goto 4, 3) := by decide +kernel
theorem dX11_isOpen_21 : decode cX11_isOpen 21 = .ok (.iconst 0, 1) := by decide +kernel
theorem dX11_isOpen_22 : decode cX11_isOpen 22 = .ok (.ireturn, 1) := by decide +kernel
theorem dX11_tick_0 : decode cX11_tick 0 = .ok (.iload_n 1, 1) := by decide +kernel
theorem dX11_tick_1 : decode cX11_tick 1 = .ok (.ifCond .lt 9, 3) := by decide +kernel
theorem dX11_tick_4 : decode cX11_tick 4 = .ok (.iload_n 1, 1) := by decide +kernel
theorem dX11_tick_5 : decode cX11_tick 5 = .ok (.ldc 156, 2) := by decide +kernel
theorem dX11_tick_7 : decode cX11_tick 7 = .ok (.if_icmp .le 5, 3) := by decide +kernel
theorem dX11_tick_10 : decode cX11_tick 10 = .ok (.iconst 0, 1) := by decide +kernel
theorem dX11_tick_11 : decode cX11_tick 11 = .ok (.ireturn, 1) := by decide +kernel
theorem dX11_tick_12 : decode cX11_tick 12 = .ok (.aload_n 0, 1) := by decide +kernel
theorem dX11_tick_13 : decode cX11_tick 13 = .ok (.dup, 1) := by decide +kernel
theorem dX11_tick_14 : decode cX11_tick 14 = .ok (.getfield 157, 3) := by decide +kernel
theorem dX11_tick_17 : decode cX11_tick 17 = .ok (.iload_n 1, 1) := by decide +kernel
theorem dX11_tick_18 : decode cX11_tick 18 = .ok (.i2l, 1) := by decide +kernel
theorem dX11_tick_19 : decode cX11_tick 19 = .ok (.ladd, 1) := by decide +kernel
theorem dX11_tick_20 : decode cX11_tick 20 = .ok (.putfield 157, 3) := by decide +kernel
theorem dX11_tick_23 : decode cX11_tick 23 = .ok (.iconst 0, 1) := by decide +kernel
theorem dX11_tick_24 : decode cX11_tick 24 = .ok (.istore_n 2, 1) := by decide +kernel
theorem dX11_tick_25 : decode cX11_tick 25 = .ok (.iload_n 2, 1) := by decide +kernel
theorem dX11_tick_26 : decode cX11_tick 26 = .ok (.aload_n 0, 1) := by decide +kernel
theorem dX11_tick_27 : decode cX11_tick 27 = .ok (.getfield 52, 3) := by decide +kernel
theorem dX11_tick_30 : decode cX11_tick 30 = .ok (.invokevirtual 161, 3) := by decide +kernel
theorem dX11_tick_33 : decode cX11_tick 33 = .ok (.if_icmp .ge 54, 3) := by decide +kernel
theorem dX11_tick_87 : decode cX11_tick 87 = .ok (.iconst 1, 1) := by decide +kernel
theorem dX11_tick_88 : decode cX11_tick 88 = .ok (.ireturn, 1) := by decide +kernel
theorem dJx4a65c_size_8abf5_0 : decode cJx4a65c_size_8abf5 0 = .ok (.aload_n 0, 1) := by decide +kernel
theorem dJx4a65c_size_8abf5_1 : decode cJx4a65c_size_8abf5 1 = .ok (.getfield 48, 3) := by decide +kernel
theorem dJx4a65c_size_8abf5_4 : decode cJx4a65c_size_8abf5 4 = .ok (.ireturn, 1) := by decide +kernel
theorem dX11_crash_0 : decode cX11_crash 0 = .ok (.iload_n 1, 1) := by decide +kernel
theorem dX11_crash_1 : decode cX11_crash 1 = .ok (.ifCond .lt 11, 3) := by decide +kernel
theorem dX11_crash_4 : decode cX11_crash 4 = .ok (.iload_n 1, 1) := by decide +kernel
theorem dX11_crash_5 : decode cX11_crash 5 = .ok (.aload_n 0, 1) := by decide +kernel
theorem dX11_crash_6 : decode cX11_crash 6 = .ok (.getfield 182, 3) := by decide +kernel
theorem dX11_crash_9 : decode cX11_crash 9 = .ok (.if_icmp .le 5, 3) := by decide +kernel
theorem dX11_crash_12 : decode cX11_crash 12 = .ok (.iconst (-1), 1) := by decide +kernel
theorem dX11_crash_13 : decode cX11_crash 13 = .ok (.ireturn, 1) := by decide +kernel
theorem dX11_crash_14 : decode cX11_crash 14 = .ok (.aload_n 0, 1) := by decide +kernel
theorem dX11_crash_15 : decode cX11_crash 15 = .ok (.getfield 182, 3) := by decide +kernel
theorem dX11_crash_18 : decode cX11_crash 18 = .ok (.istore_n 2, 1) := by decide +kernel
theorem dX11_crash_19 : decode cX11_crash 19 = .ok (.aload_n 0, 1) := by decide +kernel
theorem dX11_crash_20 : decode cX11_crash 20 = .ok (.iload_n 1, 1) := by decide +kernel
theorem dX11_crash_21 : decode cX11_crash 21 = .ok (.putfield 182, 3) := by decide +kernel
theorem dX11_crash_24 : decode cX11_crash 24 = .ok (.aload_n 0, 1) := by decide +kernel
theorem dX11_crash_25 : decode cX11_crash 25 = .ok (.invokevirtual 185, 3) := by decide +kernel
theorem dX11_crash_28 : decode cX11_crash 28 = .ok (.aload_n 0, 1) := by decide +kernel
theorem dX11_crash_29 : decode cX11_crash 29 = .ok (.getfield 29, 3) := by decide +kernel
theorem dX11_crash_32 : decode cX11_crash 32 = .ok (.aload_n 0, 1) := by decide +kernel
theorem dX11_crash_33 : decode cX11_crash 33 = .ok (.getfield 33, 3) := by decide +kernel
theorem dX11_crash_36 : decode cX11_crash 36 = .ok (.invokevirtual 188, 3) := by decide +kernel
theorem dX11_crash_39 : decode cX11_crash 39 = .ok (.iconst 0, 1) := by decide +kernel
theorem dX11_crash_40 : decode cX11_crash 40 = .ok (.istore_n 3, 1) := by decide +kernel
theorem dX11_crash_41 : decode cX11_crash 41 = .ok (.iload_n 3, 1) := by decide +kernel
theorem dX11_crash_42 : decode cX11_crash 42 = .ok (.aload_n 0, 1) := by decide +kernel
theorem dX11_crash_43 : decode cX11_crash 43 = .ok (.getfield 18, 3) := by decide +kernel
theorem dX11_crash_46 : decode cX11_crash 46 = .ok (.arraylength, 1) := by decide +kernel
theorem dX11_crash_47 : decode cX11_crash 47 = .ok (.if_icmp .ge 18, 3) := by decide +kernel
theorem dX11_crash_50 : decode cX11_crash 50 = .ok (.aload_n 0, 1) := by decide +kernel
theorem dX11_crash_51 : decode cX11_crash 51 = .ok (.getfield 18, 3) := by decide +kernel
theorem dX11_crash_54 : decode cX11_crash 54 = .ok (.iload_n 3, 1) := by decide +kernel
theorem dX11_crash_55 : decode cX11_crash 55 = .ok (.aaload, 1) := by decide +kernel
theorem dX11_crash_56 : decode cX11_crash 56 = .ok (.invokevirtual 192, 3) := by decide +kernel
theorem dX11_crash_59 : decode cX11_crash 59 = .ok (.iinc 3 1, 3) := by decide +kernel
theorem dX11_crash_62 : decode cX11_crash 62 = .ok (.goto (-21), 3) := by decide +kernel
theorem dX11_crash_65 : decode cX11_crash 65 = .ok (.aload_n 0, 1) := by decide +kernel
theorem dX11_crash_66 : decode cX11_crash 66 = .ok (.getfield 45, 3) := by decide +kernel
theorem dX11_crash_69 : decode cX11_crash 69 = .ok (.invokevirtual 195, 3) := by decide +kernel
theorem dX11_crash_72 : decode cX11_crash 72 = .ok (.aload_n 0, 1) := by decide +kernel
theorem dX11_crash_73 : decode cX11_crash 73 = .ok (.getfield 49, 3) := by decide +kernel
theorem dX11_crash_76 : decode cX11_crash 76 = .ok (.invokevirtual 195, 3) := by decide +kernel
theorem dX11_crash_79 : decode cX11_crash 79 = .ok (.aload_n 0, 1) := by decide +kernel
theorem dX11_crash_80 : decode cX11_crash 80 = .ok (.getfield 52, 3) := by decide +kernel
theorem dX11_crash_83 : decode cX11_crash 83 = .ok (.invokevirtual 195, 3) := by decide +kernel
theorem dX11_crash_86 : decode cX11_crash 86 = .ok (.aload_n 0, 1) := by decide +kernel
theorem dX11_crash_87 : decode cX11_crash 87 = .ok (.getfield 55, 3) := by decide +kernel
theorem dX11_crash_90 : decode cX11_crash 90 = .ok (.invokevirtual 195, 3) := by decide +kernel
theorem dX11_crash_93 : decode cX11_crash 93 = .ok (.aload_n 0, 1) := by decide +kernel
theorem dX11_crash_94 : decode cX11_crash 94 = .ok (.getfield 58, 3) := by decide +kernel
theorem dX11_crash_97 : decode cX11_crash 97 = .ok (.invokevirtual 195, 3) := by decide +kernel
theorem dX11_crash_100 : decode cX11_crash 100 = .ok (.aload_n 0, 1) := by decide +kernel
theorem dX11_crash_101 : decode cX11_crash 101 = .ok (.getfield 61, 3) := by decide +kernel
theorem dX11_crash_104 : decode cX11_crash 104 = .ok (.lconst 0, 1) := by decide +kernel
theorem dX11_crash_105 : decode cX11_crash 105 = .ok (.invokestatic 198, 3) := by decide +kernel
theorem dX11_crash_108 : decode cX11_crash 108 = .ok (.iload_n 2, 1) := by decide +kernel
theorem dX11_crash_109 : decode cX11_crash 109 = .ok (.ireturn, 1) := by decide +kernel
theorem dX11_comeToDisk_0 : decode cX11_comeToDisk 0 = .ok (.iconst 0, 1) := by decide +kernel
theorem dX11_comeToDisk_1 : decode cX11_comeToDisk 1 = .ok (.istore_n 1, 1) := by decide +kernel
theorem dX11_comeToDisk_2 : decode cX11_comeToDisk 2 = .ok (.iload_n 1, 1) := by decide +kernel
theorem dX11_comeToDisk_3 : decode cX11_comeToDisk 3 = .ok (.aload_n 0, 1) := by decide +kernel
theorem dX11_comeToDisk_4 : decode cX11_comeToDisk 4 = .ok (.getfield 182, 3) := by decide +kernel
theorem dX11_comeToDisk_7 : decode cX11_comeToDisk 7 = .ok (.if_icmp .ge 31, 3) := by decide +kernel
theorem dX11_comeToDisk_38 : decode cX11_comeToDisk 38 = .ok (.aload_n 0, 1) := by decide +kernel
theorem dX11_comeToDisk_39 : decode cX11_comeToDisk 39 = .ok (.iconst 0, 1) := by decide +kernel
theorem dX11_comeToDisk_40 : decode cX11_comeToDisk 40 = .ok (.putfield 182, 3) := by decide +kernel
theorem dX11_comeToDisk_43 : decode cX11_comeToDisk 43 = .ok (.return_, 1) := by decide +kernel
theorem dX9_copyFrom_0 : decode cX9_copyFrom 0 = .ok (.iconst 0, 1) := by decide +kernel
theorem dX9_copyFrom_1 : decode cX9_copyFrom 1 = .ok (.istore_n 2, 1) := by decide +kernel
theorem dX9_copyFrom_2 : decode cX9_copyFrom 2 = .ok (.iload_n 2, 1) := by decide +kernel
theorem dX9_copyFrom_3 : decode cX9_copyFrom 3 = .ok (.aload_n 0, 1) := by decide +kernel
theorem dX9_copyFrom_4 : decode cX9_copyFrom 4 = .ok (.getfield 11, 3) := by decide +kernel
theorem dX9_copyFrom_7 : decode cX9_copyFrom 7 = .ok (.arraylength, 1) := by decide +kernel
theorem dX9_copyFrom_8 : decode cX9_copyFrom 8 = .ok (.if_icmp .ge 24, 3) := by decide +kernel
theorem dX9_copyFrom_11 : decode cX9_copyFrom 11 = .ok (.aload_n 0, 1) := by decide +kernel
theorem dX9_copyFrom_12 : decode cX9_copyFrom 12 = .ok (.getfield 11, 3) := by decide +kernel
theorem dX9_copyFrom_15 : decode cX9_copyFrom 15 = .ok (.iload_n 2, 1) := by decide +kernel
theorem dX9_copyFrom_16 : decode cX9_copyFrom 16 = .ok (.aaload, 1) := by decide +kernel
theorem dX9_copyFrom_17 : decode cX9_copyFrom 17 = .ok (.aload_n 1, 1) := by decide +kernel
theorem dX9_copyFrom_18 : decode cX9_copyFrom 18 = .ok (.getfield 11, 3) := by decide +kernel
theorem dX9_copyFrom_21 : decode cX9_copyFrom 21 = .ok (.iload_n 2, 1) := by decide +kernel
theorem dX9_copyFrom_22 : decode cX9_copyFrom 22 = .ok (.aaload, 1) := by decide +kernel
theorem dX9_copyFrom_23 : decode cX9_copyFrom 23 = .ok (.invokevirtual 130, 3) := by decide +kernel
theorem dX9_copyFrom_26 : decode cX9_copyFrom 26 = .ok (.iinc 2 1, 3) := by decide +kernel
theorem dX9_copyFrom_29 : decode cX9_copyFrom 29 = .ok (.goto (-27), 3) := by decide +kernel
theorem dX9_copyFrom_32 : decode cX9_copyFrom 32 = .ok (.aload_n 0, 1) := by decide +kernel
theorem dX9_copyFrom_33 : decode cX9_copyFrom 33 = .ok (.aload_n 1, 1) := by decide +kernel
theorem dX9_copyFrom_34 : decode cX9_copyFrom 34 = .ok (.getfield 52, 3) := by decide +kernel
theorem dX9_copyFrom_37 : decode cX9_copyFrom 37 = .ok (.putfield 52, 3) := by decide +kernel
theorem dX9_copyFrom_40 : decode cX9_copyFrom 40 = .ok (.return_, 1) := by decide +kernel
theorem dX4_copyFrom_0 : decode cX4_copyFrom 0 = .ok (.aload_n 0, 1) := by decide +kernel
theorem dX4_copyFrom_1 : decode cX4_copyFrom 1 = .ok (.aload_n 1, 1) := by decide +kernel
theorem dX4_copyFrom_2 : decode cX4_copyFrom 2 = .ok (.getfield 77, 3) := by decide +kernel
theorem dX4_copyFrom_5 : decode cX4_copyFrom 5 = .ok (.putfield 77, 3) := by decide +kernel
theorem dX4_copyFrom_8 : decode cX4_copyFrom 8 = .ok (.aload_n 0, 1) := by decide +kernel
theorem dX4_copyFrom_9 : decode cX4_copyFrom 9 = .ok (.aload_n 1, 1) := by decide +kernel
theorem dX4_copyFrom_10 : decode cX4_copyFrom 10 = .ok (.getfield 28, 3) := by decide +kernel
theorem dX4_copyFrom_13 : decode cX4_copyFrom 13 = .ok (.putfield 28, 3) := by decide +kernel
theorem dX4_copyFrom_16 : decode cX4_copyFrom 16 = .ok (.aload_n 0, 1) := by decide +kernel
theorem dX4_copyFrom_17 : decode cX4_copyFrom 17 = .ok (.iconst 0, 1) := by decide +kernel
theorem dX4_copyFrom_18 : decode cX4_copyFrom 18 = .ok (.putfield 61, 3) := by decide +kernel
theorem dX4_copyFrom_21 : decode cX4_copyFrom 21 = .ok (.aload_n 0, 1) := by decide +kernel
theorem dX4_copyFrom_22 : decode cX4_copyFrom 22 = .ok (.aload_n 1, 1) := by decide +kernel
theorem dX4_copyFrom_23 : decode cX4_copyFrom 23 = .ok (.getfield 9, 3) := by decide +kernel
theorem dX4_copyFrom_26 : decode cX4_copyFrom 26 = .ok (.putfield 9, 3) := by decide +kernel
theorem dX4_copyFrom_29 : decode cX4_copyFrom 29 = .ok (.aload_n 0, 1) := by decide +kernel
theorem dX4_copyFrom_30 : decode cX4_copyFrom 30 = .ok (.aload_n 1, 1) := by decide +kernel
theorem dX4_copyFrom_31 : decode cX4_copyFrom 31 = .ok (.getfield 64, 3) := by decide +kernel
theorem dX4_copyFrom_34 : decode cX4_copyFrom 34 = .ok (.putfield 64, 3) := by decide +kernel
theorem dX4_copyFrom_37 : decode cX4_copyFrom 37 = .ok (.aload_n 1, 1) := by decide +kernel
theorem dX4_copyFrom_38 : decode cX4_copyFrom 38 = .ok (.getfield 15, 3) := by decide +kernel
theorem dX4_copyFrom_41 : decode cX4_copyFrom 41 = .ok (.iconst 0, 1) := by decide +kernel
theorem dX4_copyFrom_42 : decode cX4_copyFrom 42 = .ok (.aload_n 0, 1) := by decide +kernel
theorem dX4_copyFrom_43 : decode cX4_copyFrom 43 = .ok (.getfield 15, 3) := by decide +kernel
theorem dX4_copyFrom_46 : decode cX4_copyFrom 46 = .ok (.iconst 0, 1) := by decide +kernel
theorem dX4_copyFrom_47 : decode cX4_copyFrom 47 = .ok (.aload_n 0, 1) := by decide +kernel
theorem dX4_copyFrom_48 : decode cX4_copyFrom 48 = .ok (.getfield 15, 3) := by decide +kernel
theorem dX4_copyFrom_51 : decode cX4_copyFrom 51 = .ok (.arraylength, 1) := by decide +kernel
theorem dX4_copyFrom_52 : decode cX4_copyFrom 52 = .ok (.invokestatic 80, 3) := by decide +kernel
theorem dX4_copyFrom_55 : decode cX4_copyFrom 55 = .ok (.aload_n 0, 1) := by decide +kernel
theorem dX4_copyFrom_56 : decode cX4_copyFrom 56 = .ok (.aload_n 1, 1) := by decide +kernel
theorem dX4_copyFrom_57 : decode cX4_copyFrom 57 = .ok (.getfield 25, 3) := by decide +kernel
theorem dX4_copyFrom_60 : decode cX4_copyFrom 60 = .ok (.putfield 25, 3) := by decide +kernel
theorem dX4_copyFrom_63 : decode cX4_copyFrom 63 = .ok (.aload_n 0, 1) := by decide +kernel
theorem dX4_copyFrom_64 : decode cX4_copyFrom 64 = .ok (.aload_n 1, 1) := by decide +kernel
theorem dX4_copyFrom_65 : decode cX4_copyFrom 65 = .ok (.getfield 35, 3) := by decide +kernel
theorem dX4_copyFrom_68 : decode cX4_copyFrom 68 = .ok (.putfield 35, 3) := by decide +kernel
theorem dX4_copyFrom_71 : decode cX4_copyFrom 71 = .ok (.aload_n 0, 1) := by decide +kernel
theorem dX4_copyFrom_72 : decode cX4_copyFrom 72 = .ok (.aload_n 1, 1) := by decide +kernel
theorem dX4_copyFrom_73 : decode cX4_copyFrom 73 = .ok (.getfield 45, 3) := by decide +kernel
theorem dX4_copyFrom_76 : decode cX4_copyFrom 76 = .ok (.putfield 45, 3) := by decide +kernel
theorem dX4_copyFrom_79 : decode cX4_copyFrom 79 = .ok (.aload_n 0, 1) := by decide +kernel
theorem dX4_copyFrom_80 : decode cX4_copyFrom 80 = .ok (.aload_n 1, 1) := by decide +kernel
theorem dX4_copyFrom_81 : decode cX4_copyFrom 81 = .ok (.getfield 48, 3) := by decide +kernel
theorem dX4_copyFrom_84 : decode cX4_copyFrom 84 = .ok (.putfield 48, 3) := by decide +kernel
theorem dX4_copyFrom_87 : decode cX4_copyFrom 87 = .ok (.aload_n 0, 1) := by decide +kernel
theorem dX4_copyFrom_88 : decode cX4_copyFrom 88 = .ok (.aload_n 1, 1) := by decide +kernel
theorem dX4_copyFrom_89 : decode cX4_copyFrom 89 = .ok (.getfield 51, 3) := by decide +kernel
theorem dX4_copyFrom_92 : decode cX4_copyFrom 92 = .ok (.putfield 51, 3) := by decide +kernel
theorem dX4_copyFrom_95 : decode cX4_copyFrom 95 = .ok (.aload_n 0, 1) := by decide +kernel
theorem dX4_copyFrom_96 : decode cX4_copyFrom 96 = .ok (.aload_n 1, 1) := by decide +kernel
theorem dX4_copyFrom_97 : decode cX4_copyFrom 97 = .ok (.getfield 32, 3) := by decide +kernel
theorem dX4_copyFrom_100 : decode cX4_copyFrom 100 = .ok (.putfield 32, 3) := by decide +kernel
theorem dX4_copyFrom_103 : decode cX4_copyFrom 103 = .ok (.aload_n 0, 1) := by decide +kernel
theorem dX4_copyFrom_104 : decode cX4_copyFrom 104 = .ok (.getfield 19, 3) := by decide +kernel
theorem dX4_copyFrom_107 : decode cX4_copyFrom 107 = .ok (.arraylength, 1) := by decide +kernel
theorem dX4_copyFrom_108 : decode cX4_copyFrom 108 = .ok (.aload_n 0, 1) := by decide +kernel
theorem dX4_copyFrom_109 : decode cX4_copyFrom 109 = .ok (.getfield 32, 3) := by decide +kernel
theorem dX4_copyFrom_112 : decode cX4_copyFrom 112 = .ok (.if_icmp .ge 14, 3) := by decide +kernel
theorem dX4_copyFrom_126 : decode cX4_copyFrom 126 = .ok (.aload_n 1, 1) := by decide +kernel
theorem dX4_copyFrom_127 : decode cX4_copyFrom 127 = .ok (.getfield 19, 3) := by decide +kernel
theorem dX4_copyFrom_130 : decode cX4_copyFrom 130 = .ok (.iconst 0, 1) := by decide +kernel
theorem dX4_copyFrom_131 : decode cX4_copyFrom 131 = .ok (.aload_n 0, 1) := by decide +kernel
theorem dX4_copyFrom_132 : decode cX4_copyFrom 132 = .ok (.getfield 19, 3) := by decide +kernel
theorem dX4_copyFrom_135 : decode cX4_copyFrom 135 = .ok (.iconst 0, 1) := by decide +kernel
theorem dX4_copyFrom_136 : decode cX4_copyFrom 136 = .ok (.aload_n 0, 1) := by decide +kernel
theorem dX4_copyFrom_137 : decode cX4_copyFrom 137 = .ok (.getfield 32, 3) := by decide +kernel
theorem dX4_copyFrom_140 : decode cX4_copyFrom 140 = .ok (.invokestatic 80, 3) := by decide +kernel
theorem dX4_copyFrom_143 : decode cX4_copyFrom 143 = .ok (.return_, 1) := by decide +kernel
theorem dX2_vanish_0 : decode cX2_vanish 0 = .ok (.aload_n 0, 1) := by decide +kernel
theorem dX2_vanish_1 : decode cX2_vanish 1 = .ok (.iconst 0, 1) := by decide +kernel
theorem dX2_vanish_2 : decode cX2_vanish 2 = .ok (.putfield 25, 3) := by decide +kernel
theorem dX2_vanish_5 : decode cX2_vanish 5 = .ok (.aload_n 0, 1) := by decide +kernel
theorem dX2_vanish_6 : decode cX2_vanish 6 = .ok (.getfield 12, 3) := by decide +kernel
theorem dX2_vanish_9 : decode cX2_vanish 9 = .ok (.iconst 0, 1) := by decide +kernel
theorem dX2_vanish_10 : decode cX2_vanish 10 = .ok (.putfield 32, 3) := by decide +kernel
theorem dX2_vanish_13 : decode cX2_vanish 13 = .ok (.aload_n 0, 1) := by decide +kernel
theorem dX2_vanish_14 : decode cX2_vanish 14 = .ok (.getfield 18, 3) := by decide +kernel
theorem dX2_vanish_17 : decode cX2_vanish 17 = .ok (.iconst 0, 1) := by decide +kernel
theorem dX2_vanish_18 : decode cX2_vanish 18 = .ok (.putfield 32, 3) := by decide +kernel
theorem dX2_vanish_21 : decode cX2_vanish 21 = .ok (.return_, 1) := by decide +kernel
theorem dJx4a65c_clear_da8c8_0 : decode cJx4a65c_clear_da8c8 0 = .ok (.aload_n 0, 1) := by decide +kernel
theorem dJx4a65c_clear_da8c8_1 : decode cJx4a65c_clear_da8c8 1 = .ok (.dup, 1) := by decide +kernel
theorem dJx4a65c_clear_da8c8_2 : decode cJx4a65c_clear_da8c8 2 = .ok (.getfield 63, 3) := by decide +kernel
theorem dJx4a65c_clear_da8c8_5 : decode cJx4a65c_clear_da8c8 5 = .ok (.iconst 1, 1) := by decide +kernel
theorem dJx4a65c_clear_da8c8_6 : decode cJx4a65c_clear_da8c8 6 = .ok (.iadd, 1) := by decide +kernel
theorem dJx4a65c_clear_da8c8_7 : decode cJx4a65c_clear_da8c8 7 = .ok (.putfield 63, 3) := by decide +kernel
theorem dJx4a65c_clear_da8c8_10 : decode cJx4a65c_clear_da8c8 10 = .ok (.aload_n 0, 1) := by decide +kernel
theorem dJx4a65c_clear_da8c8_11 : decode cJx4a65c_clear_da8c8 11 = .ok (.getfield 9, 3) := by decide +kernel
theorem dJx4a65c_clear_da8c8_14 : decode cJx4a65c_clear_da8c8 14 = .ok (.astore_n 1, 1) := by decide +kernel
theorem dJx4a65c_clear_da8c8_15 : decode cJx4a65c_clear_da8c8 15 = .ok (.aload_n 0, 1) := by decide +kernel
theorem dJx4a65c_clear_da8c8_16 : decode cJx4a65c_clear_da8c8 16 = .ok (.getfield 48, 3) := by decide +kernel
theorem dJx4a65c_clear_da8c8_19 : decode cJx4a65c_clear_da8c8 19 = .ok (.istore_n 2, 1) := by decide +kernel
theorem dJx4a65c_clear_da8c8_20 : decode cJx4a65c_clear_da8c8 20 = .ok (.aload_n 0, 1) := by decide +kernel
theorem dJx4a65c_clear_da8c8_21 : decode cJx4a65c_clear_da8c8 21 = .ok (.iconst 0, 1) := by decide +kernel
theorem dJx4a65c_clear_da8c8_22 : decode cJx4a65c_clear_da8c8 22 = .ok (.dup_x1, 1) := by decide +kernel
theorem dJx4a65c_clear_da8c8_23 : decode cJx4a65c_clear_da8c8 23 = .ok (.putfield 48, 3) := by decide +kernel
theorem dJx4a65c_clear_da8c8_26 : decode cJx4a65c_clear_da8c8 26 = .ok (.istore_n 3, 1) := by decide +kernel
theorem dJx4a65c_clear_da8c8_27 : decode cJx4a65c_clear_da8c8 27 = .ok (.iload_n 3, 1) := by decide +kernel
theorem dJx4a65c_clear_da8c8_28 : decode cJx4a65c_clear_da8c8 28 = .ok (.iload_n 2, 1) := by decide +kernel
theorem dJx4a65c_clear_da8c8_29 : decode cJx4a65c_clear_da8c8 29 = .ok (.if_icmp .ge 13, 3) := by decide +kernel
theorem dJx4a65c_clear_da8c8_42 : decode cJx4a65c_clear_da8c8 42 = .ok (.return_, 1) := by decide +kernel
theorem dJ7_fill_d0a16_0 : decode cJ7_fill_d0a16 0 = .ok (.iconst 0, 1) := by decide +kernel
theorem dJ7_fill_d0a16_1 : decode cJ7_fill_d0a16 1 = .ok (.istore_n 3, 1) := by decide +kernel
theorem dJ7_fill_d0a16_2 : decode cJ7_fill_d0a16 2 = .ok (.aload_n 0, 1) := by decide +kernel
theorem dJ7_fill_d0a16_3 : decode cJ7_fill_d0a16 3 = .ok (.arraylength, 1) := by decide +kernel
theorem dJ7_fill_d0a16_4 : decode cJ7_fill_d0a16 4 = .ok (.istore 4, 2) := by decide +kernel
theorem dJ7_fill_d0a16_6 : decode cJ7_fill_d0a16 6 = .ok (.iload_n 3, 1) := by decide +kernel
theorem dJ7_fill_d0a16_7 : decode cJ7_fill_d0a16 7 = .ok (.iload 4, 2) := by decide +kernel
theorem dJ7_fill_d0a16_9 : decode cJ7_fill_d0a16 9 = .ok (.if_icmp .ge 13, 3) := by decide +kernel
theorem dJ7_fill_d0a16_12 : decode cJ7_fill_d0a16 12 = .ok (.aload_n 0, 1) := by decide +kernel
theorem dJ7_fill_d0a16_13 : decode cJ7_fill_d0a16 13 = .ok (.iload_n 3, 1) := by decide +kernel
theorem dJ7_fill_d0a16_14 : decode cJ7_fill_d0a16 14 = .ok (.lload_n 1, 1) := by decide +kernel
theorem dJ7_fill_d0a16_15 : decode cJ7_fill_d0a16 15 = .ok (.lastore, 1) := by decide +kernel
theorem dJ7_fill_d0a16_16 : decode cJ7_fill_d0a16 16 = .ok (.iinc 3 1, 3) := by decide +kernel
theorem dJ7_fill_d0a16_19 : decode cJ7_fill_d0a16 19 = .ok (.goto (-13), 3) := by decide +kernel
theorem dJ7_fill_d0a16_22 : decode cJ7_fill_d0a16 22 = .ok (.return_, 1) := by decide +kernel
theorem dX11_outs_0 : decode cX11_outs 0 = .ok (.aload_n 0, 1) := by decide +kernel
theorem dX11_outs_1 : decode cX11_outs 1 = .ok (.iload_n 1, 1) := by decide +kernel
theorem dX11_outs_2 : decode cX11_outs 2 = .ok (.invokevirtual 108, 3) := by decide +kernel
theorem dX11_outs_5 : decode cX11_outs 5 = .ok (.astore_n 2, 1) := by decide +kernel
theorem dX11_outs_6 : decode cX11_outs 6 = .ok (.aload_n 2, 1) := by decide +kernel
theorem dX11_outs_7 : decode cX11_outs 7 = .ok (.ifnonnull 7, 3) := by decide +kernel
theorem dX11_outs_10 : decode cX11_outs 10 = .ok (.iconst (-1), 1) := by decide +kernel
theorem dX11_outs_11 : decode cX11_outs 11 = .ok (.goto 10, 3) := by decide +kernel
theorem dX11_outs_14 : decode cX11_outs 14 = .ok (.aload_n 2, 1) := by decide +kernel
theorem dX11_outs_15 : decode cX11_outs 15 = .ok (.getfield 201, 3) := by decide +kernel
theorem dX11_outs_18 : decode cX11_outs 18 = .ok (.getfield 85, 3) := by decide +kernel
theorem dX11_outs_21 : decode cX11_outs 21 = .ok (.ireturn, 1) := by decide +kernel
theorem dX11_out_0 : decode cX11_out 0 = .ok (.aload_n 0, 1) := by decide +kernel
theorem dX11_out_1 : decode cX11_out 1 = .ok (.iload_n 1, 1) := by decide +kernel
theorem dX11_out_2 : decode cX11_out 2 = .ok (.invokevirtual 108, 3) := by decide +kernel
theorem dX11_out_5 : decode cX11_out 5 = .ok (.astore_n 3, 1) := by decide +kernel
theorem dX11_out_6 : decode cX11_out 6 = .ok (.aload_n 3, 1) := by decide +kernel
theorem dX11_out_7 : decode cX11_out 7 = .ok (.ifnull 18, 3) := by decide +kernel

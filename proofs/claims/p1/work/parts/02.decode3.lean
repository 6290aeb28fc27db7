theorem dX12_init_578 : decode cX12_init 578 = .ok (.newarray .int, 2) := by decide +kernel
theorem dX12_init_580 : decode cX12_init 580 = .ok (.putfield 226, 3) := by decide +kernel
theorem dX12_init_583 : decode cX12_init 583 = .ok (.aload_n 0, 1) := by decide +kernel
theorem dX12_init_584 : decode cX12_init 584 = .ok (.bipush 16, 2) := by decide +kernel
theorem dX12_init_586 : decode cX12_init 586 = .ok (.newarray .long, 2) := by decide +kernel
theorem dX12_init_588 : decode cX12_init 588 = .ok (.putfield 229, 3) := by decide +kernel
theorem dX12_init_591 : decode cX12_init 591 = .ok (.aload_n 0, 1) := by decide +kernel
theorem dX12_init_592 : decode cX12_init 592 = .ok (.bipush 16, 2) := by decide +kernel
theorem dX12_init_594 : decode cX12_init 594 = .ok (.newarray .long, 2) := by decide +kernel
theorem dX12_init_596 : decode cX12_init 596 = .ok (.putfield 232, 3) := by decide +kernel
theorem dX12_init_599 : decode cX12_init 599 = .ok (.aload_n 0, 1) := by decide +kernel
theorem dX12_init_600 : decode cX12_init 600 = .ok (.bipush 16, 2) := by decide +kernel
theorem dX12_init_602 : decode cX12_init 602 = .ok (.newarray .boolean, 2) := by decide +kernel
theorem dX12_init_604 : decode cX12_init 604 = .ok (.putfield 235, 3) := by decide +kernel
theorem dX12_init_607 : decode cX12_init 607 = .ok (.aload_n 0, 1) := by decide +kernel
theorem dX12_init_608 : decode cX12_init 608 = .ok (.bipush 16, 2) := by decide +kernel
theorem dX12_init_610 : decode cX12_init 610 = .ok (.newarray .int, 2) := by decide +kernel
theorem dX12_init_612 : decode cX12_init 612 = .ok (.putfield 238, 3) := by decide +kernel
theorem dX12_init_615 : decode cX12_init 615 = .ok (.aload_n 0, 1) := by decide +kernel
theorem dX12_init_616 : decode cX12_init 616 = .ok (.ldc 241, 2) := by decide +kernel
theorem dX12_init_618 : decode cX12_init 618 = .ok (.newarray .byte, 2) := by decide +kernel
theorem dX12_init_620 : decode cX12_init 620 = .ok (.putfield 242, 3) := by decide +kernel
theorem dX12_init_623 : decode cX12_init 623 = .ok (.aload_n 0, 1) := by decide +kernel
theorem dX12_init_624 : decode cX12_init 624 = .ok (.ldc 245, 2) := by decide +kernel
theorem dX12_init_626 : decode cX12_init 626 = .ok (.newarray .byte, 2) := by decide +kernel
theorem dX12_init_628 : decode cX12_init 628 = .ok (.putfield 246, 3) := by decide +kernel
theorem dX12_init_631 : decode cX12_init 631 = .ok (.aload_n 0, 1) := by decide +kernel
theorem dX12_init_632 : decode cX12_init 632 = .ok (.sipush 130, 3) := by decide +kernel
theorem dX12_init_635 : decode cX12_init 635 = .ok (.newarray .int, 2) := by decide +kernel
theorem dX12_init_637 : decode cX12_init 637 = .ok (.putfield 249, 3) := by decide +kernel
theorem dX12_init_640 : decode cX12_init 640 = .ok (.aload_n 0, 1) := by decide +kernel
theorem dX12_init_641 : decode cX12_init 641 = .ok (.sipush 130, 3) := by decide +kernel
theorem dX12_init_644 : decode cX12_init 644 = .ok (.newarray .int, 2) := by decide +kernel
theorem dX12_init_646 : decode cX12_init 646 = .ok (.putfield 252, 3) := by decide +kernel
theorem dX12_init_649 : decode cX12_init 649 = .ok (.aload_n 0, 1) := by decide +kernel
theorem dX12_init_650 : decode cX12_init 650 = .ok (.sipush 130, 3) := by decide +kernel
theorem dX12_init_653 : decode cX12_init 653 = .ok (.newarray .int, 2) := by decide +kernel
theorem dX12_init_655 : decode cX12_init 655 = .ok (.putfield 255, 3) := by decide +kernel
theorem dX12_init_658 : decode cX12_init 658 = .ok (.iconst 0, 1) := by decide +kernel
theorem dX12_init_659 : decode cX12_init 659 = .ok (.istore_n 1, 1) := by decide +kernel
theorem dX12_init_660 : decode cX12_init 660 = .ok (.iload_n 1, 1) := by decide +kernel
theorem dX12_init_661 : decode cX12_init 661 = .ok (.iconst 4, 1) := by decide +kernel
theorem dX12_init_662 : decode cX12_init 662 = .ok (.if_icmp .ge 16, 3) := by decide +kernel
theorem dX12_init_665 : decode cX12_init 665 = .ok (.aload_n 0, 1) := by decide +kernel
theorem dX12_init_666 : decode cX12_init 666 = .ok (.getfield 47, 3) := by decide +kernel
theorem dX12_init_669 : decode cX12_init 669 = .ok (.iload_n 1, 1) := by decide +kernel
theorem dX12_init_670 : decode cX12_init 670 = .ok (.iconst (-1), 1) := by decide +kernel
theorem dX12_init_671 : decode cX12_init 671 = .ok (.iastore, 1) := by decide +kernel
theorem dX12_init_672 : decode cX12_init 672 = .ok (.iinc 1 1, 3) := by decide +kernel
theorem dX12_init_675 : decode cX12_init 675 = .ok (.goto (-15), 3) := by decide +kernel
theorem dX12_init_678 : decode cX12_init 678 = .ok (.aload_n 0, 1) := by decide +kernel
theorem dX12_init_679 : decode cX12_init 679 = .ok (.invokevirtual 258, 3) := by decide +kernel
theorem dX12_init_682 : decode cX12_init 682 = .ok (.return_, 1) := by decide +kernel
theorem dX12_begin_0 : decode cX12_begin 0 = .ok (.iconst 0, 1) := by decide +kernel
theorem dX12_begin_1 : decode cX12_begin 1 = .ok (.istore_n 1, 1) := by decide +kernel
theorem dX12_begin_2 : decode cX12_begin 2 = .ok (.iload_n 1, 1) := by decide +kernel
theorem dX12_begin_3 : decode cX12_begin 3 = .ok (.bipush 6, 2) := by decide +kernel
theorem dX12_begin_5 : decode cX12_begin 5 = .ok (.if_icmp .ge 23, 3) := by decide +kernel
theorem dX12_begin_8 : decode cX12_begin 8 = .ok (.aload_n 0, 1) := by decide +kernel
theorem dX12_begin_9 : decode cX12_begin 9 = .ok (.getfield 89, 3) := by decide +kernel
theorem dX12_begin_12 : decode cX12_begin 12 = .ok (.iload_n 1, 1) := by decide +kernel
theorem dX12_begin_13 : decode cX12_begin 13 = .ok (.iconst 0, 1) := by decide +kernel
theorem dX12_begin_14 : decode cX12_begin 14 = .ok (.bastore, 1) := by decide +kernel
theorem dX12_begin_15 : decode cX12_begin 15 = .ok (.aload_n 0, 1) := by decide +kernel
theorem dX12_begin_16 : decode cX12_begin 16 = .ok (.getfield 99, 3) := by decide +kernel
theorem dX12_begin_19 : decode cX12_begin 19 = .ok (.iload_n 1, 1) := by decide +kernel
theorem dX12_begin_20 : decode cX12_begin 20 = .ok (.iconst 0, 1) := by decide +kernel
theorem dX12_begin_21 : decode cX12_begin 21 = .ok (.iastore, 1) := by decide +kernel
theorem dX12_begin_22 : decode cX12_begin 22 = .ok (.iinc 1 1, 3) := by decide +kernel
theorem dX12_begin_25 : decode cX12_begin 25 = .ok (.goto (-23), 3) := by decide +kernel
theorem dX12_begin_28 : decode cX12_begin 28 = .ok (.iconst 0, 1) := by decide +kernel
theorem dX12_begin_29 : decode cX12_begin 29 = .ok (.istore_n 1, 1) := by decide +kernel
theorem dX12_begin_30 : decode cX12_begin 30 = .ok (.iload_n 1, 1) := by decide +kernel
theorem dX12_begin_31 : decode cX12_begin 31 = .ok (.bipush 8, 2) := by decide +kernel
theorem dX12_begin_33 : decode cX12_begin 33 = .ok (.if_icmp .ge 16, 3) := by decide +kernel
theorem dX12_begin_36 : decode cX12_begin 36 = .ok (.aload_n 0, 1) := by decide +kernel
theorem dX12_begin_37 : decode cX12_begin 37 = .ok (.getfield 118, 3) := by decide +kernel
theorem dX12_begin_40 : decode cX12_begin 40 = .ok (.iload_n 1, 1) := by decide +kernel
theorem dX12_begin_41 : decode cX12_begin 41 = .ok (.lconst 0, 1) := by decide +kernel
theorem dX12_begin_42 : decode cX12_begin 42 = .ok (.lastore, 1) := by decide +kernel
theorem dX12_begin_43 : decode cX12_begin 43 = .ok (.iinc 1 1, 3) := by decide +kernel
theorem dX12_begin_46 : decode cX12_begin 46 = .ok (.goto (-16), 3) := by decide +kernel
theorem dX12_begin_49 : decode cX12_begin 49 = .ok (.iconst 0, 1) := by decide +kernel
theorem dX12_begin_50 : decode cX12_begin 50 = .ok (.istore_n 1, 1) := by decide +kernel
theorem dX12_begin_51 : decode cX12_begin 51 = .ok (.iload_n 1, 1) := by decide +kernel
theorem dX12_begin_52 : decode cX12_begin 52 = .ok (.bipush 16, 2) := by decide +kernel
theorem dX12_begin_54 : decode cX12_begin 54 = .ok (.if_icmp .ge 16, 3) := by decide +kernel
theorem dX12_begin_57 : decode cX12_begin 57 = .ok (.aload_n 0, 1) := by decide +kernel
theorem dX12_begin_58 : decode cX12_begin 58 = .ok (.getfield 130, 3) := by decide +kernel
theorem dX12_begin_61 : decode cX12_begin 61 = .ok (.iload_n 1, 1) := by decide +kernel
theorem dX12_begin_62 : decode cX12_begin 62 = .ok (.lconst 0, 1) := by decide +kernel
theorem dX12_begin_63 : decode cX12_begin 63 = .ok (.lastore, 1) := by decide +kernel
theorem dX12_begin_64 : decode cX12_begin 64 = .ok (.iinc 1 1, 3) := by decide +kernel
theorem dX12_begin_67 : decode cX12_begin 67 = .ok (.goto (-16), 3) := by decide +kernel
theorem dX12_begin_70 : decode cX12_begin 70 = .ok (.iconst 0, 1) := by decide +kernel
theorem dX12_begin_71 : decode cX12_begin 71 = .ok (.istore_n 1, 1) := by decide +kernel
theorem dX12_begin_72 : decode cX12_begin 72 = .ok (.iload_n 1, 1) := by decide +kernel
theorem dX12_begin_73 : decode cX12_begin 73 = .ok (.bipush 40, 2) := by decide +kernel
theorem dX12_begin_75 : decode cX12_begin 75 = .ok (.if_icmp .ge 16, 3) := by decide +kernel
theorem dX12_begin_78 : decode cX12_begin 78 = .ok (.aload_n 0, 1) := by decide +kernel
theorem dX12_begin_79 : decode cX12_begin 79 = .ok (.getfield 139, 3) := by decide +kernel
theorem dX12_begin_82 : decode cX12_begin 82 = .ok (.iload_n 1, 1) := by decide +kernel
theorem dX12_begin_83 : decode cX12_begin 83 = .ok (.lconst 0, 1) := by decide +kernel
theorem dX12_begin_84 : decode cX12_begin 84 = .ok (.lastore, 1) := by decide +kernel
theorem dX12_begin_85 : decode cX12_begin 85 = .ok (.iinc 1 1, 3) := by decide +kernel
theorem dX12_begin_88 : decode cX12_begin 88 = .ok (.goto (-16), 3) := by decide +kernel
theorem dX12_begin_91 : decode cX12_begin 91 = .ok (.aload_n 0, 1) := by decide +kernel
theorem dX12_begin_92 : decode cX12_begin 92 = .ok (.iconst 0, 1) := by decide +kernel
theorem dX12_begin_93 : decode cX12_begin 93 = .ok (.putfield 289, 3) := by decide +kernel
theorem dX12_begin_96 : decode cX12_begin 96 = .ok (.aload_n 0, 1) := by decide +kernel
theorem dX12_begin_97 : decode cX12_begin 97 = .ok (.iconst 0, 1) := by decide +kernel
theorem dX12_begin_98 : decode cX12_begin 98 = .ok (.putfield 292, 3) := by decide +kernel
theorem dX12_begin_101 : decode cX12_begin 101 = .ok (.aload_n 0, 1) := by decide +kernel
theorem dX12_begin_102 : decode cX12_begin 102 = .ok (.iconst 0, 1) := by decide +kernel
theorem dX12_begin_103 : decode cX12_begin 103 = .ok (.putfield 271, 3) := by decide +kernel
theorem dX12_begin_106 : decode cX12_begin 106 = .ok (.aload_n 0, 1) := by decide +kernel
theorem dX12_begin_107 : decode cX12_begin 107 = .ok (.lconst 0, 1) := by decide +kernel
theorem dX12_begin_108 : decode cX12_begin 108 = .ok (.putfield 295, 3) := by decide +kernel
theorem dX12_begin_111 : decode cX12_begin 111 = .ok (.aload_n 0, 1) := by decide +kernel
theorem dX12_begin_112 : decode cX12_begin 112 = .ok (.lconst 0, 1) := by decide +kernel
theorem dX12_begin_113 : decode cX12_begin 113 = .ok (.putfield 299, 3) := by decide +kernel
theorem dX12_begin_116 : decode cX12_begin 116 = .ok (.aload_n 0, 1) := by decide +kernel
theorem dX12_begin_117 : decode cX12_begin 117 = .ok (.lconst 0, 1) := by decide +kernel
theorem dX12_begin_118 : decode cX12_begin 118 = .ok (.putfield 302, 3) := by decide +kernel
theorem dX12_begin_121 : decode cX12_begin 121 = .ok (.aload_n 0, 1) := by decide +kernel
theorem dX12_begin_122 : decode cX12_begin 122 = .ok (.lconst 0, 1) := by decide +kernel
theorem dX12_begin_123 : decode cX12_begin 123 = .ok (.putfield 305, 3) := by decide +kernel
theorem dX12_begin_126 : decode cX12_begin 126 = .ok (.iconst 0, 1) := by decide +kernel
theorem dX12_begin_127 : decode cX12_begin 127 = .ok (.istore_n 1, 1) := by decide +kernel
theorem dX12_begin_128 : decode cX12_begin 128 = .ok (.iload_n 1, 1) := by decide +kernel
theorem dX12_begin_129 : decode cX12_begin 129 = .ok (.bipush 80, 2) := by decide +kernel
theorem dX12_begin_131 : decode cX12_begin 131 = .ok (.if_icmp .ge 25, 3) := by decide +kernel
theorem dX12_begin_134 : decode cX12_begin 134 = .ok (.aload_n 0, 1) := by decide +kernel
theorem dX12_begin_135 : decode cX12_begin 135 = .ok (.bipush 80, 2) := by decide +kernel
theorem dX12_begin_137 : decode cX12_begin 137 = .ok (.iload_n 1, 1) := by decide +kernel
theorem dX12_begin_138 : decode cX12_begin 138 = .ok (.iadd, 1) := by decide +kernel
theorem dX12_begin_139 : decode cX12_begin 139 = .ok (.iload_n 1, 1) := by decide +kernel
theorem dX12_begin_140 : decode cX12_begin 140 = .ok (.invokevirtual 308, 3) := by decide +kernel
theorem dX12_begin_143 : decode cX12_begin 143 = .ok (.aload_n 0, 1) := by decide +kernel
theorem dX12_begin_144 : decode cX12_begin 144 = .ok (.getfield 44, 3) := by decide +kernel
theorem dX12_begin_147 : decode cX12_begin 147 = .ok (.iload_n 1, 1) := by decide +kernel
theorem dX12_begin_148 : decode cX12_begin 148 = .ok (.iconst 0, 1) := by decide +kernel
theorem dX12_begin_149 : decode cX12_begin 149 = .ok (.bastore, 1) := by decide +kernel
theorem dX12_begin_150 : decode cX12_begin 150 = .ok (.iinc 1 1, 3) := by decide +kernel
theorem dX12_begin_153 : decode cX12_begin 153 = .ok (.goto (-25), 3) := by decide +kernel
theorem dX12_begin_156 : decode cX12_begin 156 = .ok (.return_, 1) := by decide +kernel
theorem dX12_copyNode_0 : decode cX12_copyNode 0 = .ok (.aload_n 0, 1) := by decide +kernel
theorem dX12_copyNode_1 : decode cX12_copyNode 1 = .ok (.getfield 13, 3) := by decide +kernel
theorem dX12_copyNode_4 : decode cX12_copyNode 4 = .ok (.iload_n 2, 1) := by decide +kernel
theorem dX12_copyNode_5 : decode cX12_copyNode 5 = .ok (.aload_n 0, 1) := by decide +kernel
theorem dX12_copyNode_6 : decode cX12_copyNode 6 = .ok (.getfield 13, 3) := by decide +kernel
theorem dX12_copyNode_9 : decode cX12_copyNode 9 = .ok (.iload_n 1, 1) := by decide +kernel
theorem dX12_copyNode_10 : decode cX12_copyNode 10 = .ok (.baload, 1) := by decide +kernel
theorem dX12_copyNode_11 : decode cX12_copyNode 11 = .ok (.bastore, 1) := by decide +kernel
theorem dX12_copyNode_12 : decode cX12_copyNode 12 = .ok (.aload_n 0, 1) := by decide +kernel
theorem dX12_copyNode_13 : decode cX12_copyNode 13 = .ok (.getfield 17, 3) := by decide +kernel
theorem dX12_copyNode_16 : decode cX12_copyNode 16 = .ok (.iload_n 2, 1) := by decide +kernel
theorem dX12_copyNode_17 : decode cX12_copyNode 17 = .ok (.aload_n 0, 1) := by decide +kernel
theorem dX12_copyNode_18 : decode cX12_copyNode 18 = .ok (.getfield 17, 3) := by decide +kernel
theorem dX12_copyNode_21 : decode cX12_copyNode 21 = .ok (.iload_n 1, 1) := by decide +kernel
theorem dX12_copyNode_22 : decode cX12_copyNode 22 = .ok (.iaload, 1) := by decide +kernel
theorem dX12_copyNode_23 : decode cX12_copyNode 23 = .ok (.iastore, 1) := by decide +kernel
theorem dX12_copyNode_24 : decode cX12_copyNode 24 = .ok (.aload_n 0, 1) := by decide +kernel
theorem dX12_copyNode_25 : decode cX12_copyNode 25 = .ok (.getfield 21, 3) := by decide +kernel
theorem dX12_copyNode_28 : decode cX12_copyNode 28 = .ok (.iload_n 2, 1) := by decide +kernel
theorem dX12_copyNode_29 : decode cX12_copyNode 29 = .ok (.aload_n 0, 1) := by decide +kernel
theorem dX12_copyNode_30 : decode cX12_copyNode 30 = .ok (.getfield 21, 3) := by decide +kernel
theorem dX12_copyNode_33 : decode cX12_copyNode 33 = .ok (.iload_n 1, 1) := by decide +kernel
theorem dX12_copyNode_34 : decode cX12_copyNode 34 = .ok (.baload, 1) := by decide +kernel
theorem dX12_copyNode_35 : decode cX12_copyNode 35 = .ok (.bastore, 1) := by decide +kernel
theorem dX12_copyNode_36 : decode cX12_copyNode 36 = .ok (.aload_n 0, 1) := by decide +kernel
theorem dX12_copyNode_37 : decode cX12_copyNode 37 = .ok (.getfield 27, 3) := by decide +kernel
theorem dX12_copyNode_40 : decode cX12_copyNode 40 = .ok (.iload_n 2, 1) := by decide +kernel
theorem dX12_copyNode_41 : decode cX12_copyNode 41 = .ok (.aload_n 0, 1) := by decide +kernel
theorem dX12_copyNode_42 : decode cX12_copyNode 42 = .ok (.getfield 27, 3) := by decide +kernel
theorem dX12_copyNode_45 : decode cX12_copyNode 45 = .ok (.iload_n 1, 1) := by decide +kernel
theorem dX12_copyNode_46 : decode cX12_copyNode 46 = .ok (.iaload, 1) := by decide +kernel
theorem dX12_copyNode_47 : decode cX12_copyNode 47 = .ok (.iastore, 1) := by decide +kernel
theorem dX12_copyNode_48 : decode cX12_copyNode 48 = .ok (.aload_n 0, 1) := by decide +kernel
theorem dX12_copyNode_49 : decode cX12_copyNode 49 = .ok (.getfield 30, 3) := by decide +kernel
theorem dX12_copyNode_52 : decode cX12_copyNode 52 = .ok (.iload_n 2, 1) := by decide +kernel
theorem dX12_copyNode_53 : decode cX12_copyNode 53 = .ok (.aload_n 0, 1) := by decide +kernel
theorem dX12_copyNode_54 : decode cX12_copyNode 54 = .ok (.getfield 30, 3) := by decide +kernel
theorem dX12_copyNode_57 : decode cX12_copyNode 57 = .ok (.iload_n 1, 1) := by decide +kernel
theorem dX12_copyNode_58 : decode cX12_copyNode 58 = .ok (.iaload, 1) := by decide +kernel
theorem dX12_copyNode_59 : decode cX12_copyNode 59 = .ok (.iastore, 1) := by decide +kernel
theorem dX12_copyNode_60 : decode cX12_copyNode 60 = .ok (.aload_n 0, 1) := by decide +kernel
theorem dX12_copyNode_61 : decode cX12_copyNode 61 = .ok (.getfield 37, 3) := by decide +kernel
theorem dX12_copyNode_64 : decode cX12_copyNode 64 = .ok (.iload_n 2, 1) := by decide +kernel
theorem dX12_copyNode_65 : decode cX12_copyNode 65 = .ok (.aload_n 0, 1) := by decide +kernel
theorem dX12_copyNode_66 : decode cX12_copyNode 66 = .ok (.getfield 37, 3) := by decide +kernel
theorem dX12_copyNode_69 : decode cX12_copyNode 69 = .ok (.iload_n 1, 1) := by decide +kernel
theorem dX12_copyNode_70 : decode cX12_copyNode 70 = .ok (.iaload, 1) := by decide +kernel
theorem dX12_copyNode_71 : decode cX12_copyNode 71 = .ok (.iastore, 1) := by decide +kernel
theorem dX12_copyNode_72 : decode cX12_copyNode 72 = .ok (.iconst 0, 1) := by decide +kernel
theorem dX12_copyNode_73 : decode cX12_copyNode 73 = .ok (.istore_n 3, 1) := by decide +kernel
theorem dX12_copyNode_74 : decode cX12_copyNode 74 = .ok (.iload_n 3, 1) := by decide +kernel
theorem dX12_copyNode_75 : decode cX12_copyNode 75 = .ok (.bipush 12, 2) := by decide +kernel
theorem dX12_copyNode_77 : decode cX12_copyNode 77 = .ok (.if_icmp .ge 31, 3) := by decide +kernel
theorem dX12_copyNode_80 : decode cX12_copyNode 80 = .ok (.aload_n 0, 1) := by decide +kernel
theorem dX12_copyNode_81 : decode cX12_copyNode 81 = .ok (.getfield 24, 3) := by decide +kernel
theorem dX12_copyNode_84 : decode cX12_copyNode 84 = .ok (.bipush 12, 2) := by decide +kernel
theorem dX12_copyNode_86 : decode cX12_copyNode 86 = .ok (.iload_n 2, 1) := by decide +kernel
theorem dX12_copyNode_87 : decode cX12_copyNode 87 = .ok (.imul, 1) := by decide +kernel
theorem dX12_copyNode_88 : decode cX12_copyNode 88 = .ok (.iload_n 3, 1) := by decide +kernel
theorem dX12_copyNode_89 : decode cX12_copyNode 89 = .ok (.iadd, 1) := by decide +kernel
theorem dX12_copyNode_90 : decode cX12_copyNode 90 = .ok (.aload_n 0, 1) := by decide +kernel
theorem dX12_copyNode_91 : decode cX12_copyNode 91 = .ok (.getfield 24, 3) := by decide +kernel
theorem dX12_copyNode_94 : decode cX12_copyNode 94 = .ok (.bipush 12, 2) := by decide +kernel
theorem dX12_copyNode_96 : decode cX12_copyNode 96 = .ok (.iload_n 1, 1) := by decide +kernel
theorem dX12_copyNode_97 : decode cX12_copyNode 97 = .ok (.imul, 1) := by decide +kernel
theorem dX12_copyNode_98 : decode cX12_copyNode 98 = .ok (.iload_n 3, 1) := by decide +kernel
theorem dX12_copyNode_99 : decode cX12_copyNode 99 = .ok (.iadd, 1) := by decide +kernel
theorem dX12_copyNode_100 : decode cX12_copyNode 100 = .ok (.baload, 1) := by decide +kernel
theorem dX12_copyNode_101 : decode cX12_copyNode 101 = .ok (.bastore, 1) := by decide +kernel
theorem dX12_copyNode_102 : decode cX12_copyNode 102 = .ok (.iinc 3 1, 3) := by decide +kernel
theorem dX12_copyNode_105 : decode cX12_copyNode 105 = .ok (.goto (-31), 3) := by decide +kernel
theorem dX12_copyNode_108 : decode cX12_copyNode 108 = .ok (.iconst 0, 1) := by decide +kernel
theorem dX12_copyNode_109 : decode cX12_copyNode 109 = .ok (.istore_n 3, 1) := by decide +kernel
theorem dX12_copyNode_110 : decode cX12_copyNode 110 = .ok (.iload_n 3, 1) := by decide +kernel
theorem dX12_copyNode_111 : decode cX12_copyNode 111 = .ok (.iconst 4, 1) := by decide +kernel
theorem dX12_copyNode_112 : decode cX12_copyNode 112 = .ok (.if_icmp .ge 29, 3) := by decide +kernel
theorem dX12_copyNode_115 : decode cX12_copyNode 115 = .ok (.aload_n 0, 1) := by decide +kernel
theorem dX12_copyNode_116 : decode cX12_copyNode 116 = .ok (.getfield 33, 3) := by decide +kernel
theorem dX12_copyNode_119 : decode cX12_copyNode 119 = .ok (.iconst 4, 1) := by decide +kernel
theorem dX12_copyNode_120 : decode cX12_copyNode 120 = .ok (.iload_n 2, 1) := by decide +kernel
theorem dX12_copyNode_121 : decode cX12_copyNode 121 = .ok (.imul, 1) := by decide +kernel
theorem dX12_copyNode_122 : decode cX12_copyNode 122 = .ok (.iload_n 3, 1) := by decide +kernel
theorem dX12_copyNode_123 : decode cX12_copyNode 123 = .ok (.iadd, 1) := by decide +kernel
theorem dX12_copyNode_124 : decode cX12_copyNode 124 = .ok (.aload_n 0, 1) := by decide +kernel
theorem dX12_copyNode_125 : decode cX12_copyNode 125 = .ok (.getfield 33, 3) := by decide +kernel
theorem dX12_copyNode_128 : decode cX12_copyNode 128 = .ok (.iconst 4, 1) := by decide +kernel
theorem dX12_copyNode_129 : decode cX12_copyNode 129 = .ok (.iload_n 1, 1) := by decide +kernel
theorem dX12_copyNode_130 : decode cX12_copyNode 130 = .ok (.imul, 1) := by decide +kernel
theorem dX12_copyNode_131 : decode cX12_copyNode 131 = .ok (.iload_n 3, 1) := by decide +kernel
theorem dX12_copyNode_132 : decode cX12_copyNode 132 = .ok (.iadd, 1) := by decide +kernel
theorem dX12_copyNode_133 : decode cX12_copyNode 133 = .ok (.laload, 1) := by decide +kernel
theorem dX12_copyNode_134 : decode cX12_copyNode 134 = .ok (.lastore, 1) := by decide +kernel
theorem dX12_copyNode_135 : decode cX12_copyNode 135 = .ok (.iinc 3 1, 3) := by decide +kernel
theorem dX12_copyNode_138 : decode cX12_copyNode 138 = .ok (.goto (-28), 3) := by decide +kernel
theorem dX12_copyNode_141 : decode cX12_copyNode 141 = .ok (.iconst 0, 1) := by decide +kernel
theorem dX12_copyNode_142 : decode cX12_copyNode 142 = .ok (.istore_n 3, 1) := by decide +kernel
theorem dX12_copyNode_143 : decode cX12_copyNode 143 = .ok (.iload_n 3, 1) := by decide +kernel
theorem dX12_copyNode_144 : decode cX12_copyNode 144 = .ok (.sipush 4096, 3) := by decide +kernel
theorem dX12_copyNode_147 : decode cX12_copyNode 147 = .ok (.if_icmp .ge 33, 3) := by decide +kernel
theorem dX12_copyNode_150 : decode cX12_copyNode 150 = .ok (.aload_n 0, 1) := by decide +kernel
theorem dX12_copyNode_151 : decode cX12_copyNode 151 = .ok (.getfield 41, 3) := by decide +kernel
theorem dX12_copyNode_154 : decode cX12_copyNode 154 = .ok (.sipush 4096, 3) := by decide +kernel
theorem dX12_copyNode_157 : decode cX12_copyNode 157 = .ok (.iload_n 2, 1) := by decide +kernel
theorem dX12_copyNode_158 : decode cX12_copyNode 158 = .ok (.imul, 1) := by decide +kernel
theorem dX12_copyNode_159 : decode cX12_copyNode 159 = .ok (.iload_n 3, 1) := by decide +kernel
theorem dX12_copyNode_160 : decode cX12_copyNode 160 = .ok (.iadd, 1) := by decide +kernel
theorem dX12_copyNode_161 : decode cX12_copyNode 161 = .ok (.aload_n 0, 1) := by decide +kernel
theorem dX12_copyNode_162 : decode cX12_copyNode 162 = .ok (.getfield 41, 3) := by decide +kernel
theorem dX12_copyNode_165 : decode cX12_copyNode 165 = .ok (.sipush 4096, 3) := by decide +kernel
theorem dX12_copyNode_168 : decode cX12_copyNode 168 = .ok (.iload_n 1, 1) := by decide +kernel
theorem dX12_copyNode_169 : decode cX12_copyNode 169 = .ok (.imul, 1) := by decide +kernel
theorem dX12_copyNode_170 : decode cX12_copyNode 170 = .ok (.iload_n 3, 1) := by decide +kernel
theorem dX12_copyNode_171 : decode cX12_copyNode 171 = .ok (.iadd, 1) := by decide +kernel
theorem dX12_copyNode_172 : decode cX12_copyNode 172 = .ok (.baload, 1) := by decide +kernel
theorem dX12_copyNode_173 : decode cX12_copyNode 173 = .ok (.bastore, 1) := by decide +kernel
theorem dX12_copyNode_174 : decode cX12_copyNode 174 = .ok (.iinc 3 1, 3) := by decide +kernel
theorem dX12_copyNode_177 : decode cX12_copyNode 177 = .ok (.goto (-34), 3) := by decide +kernel
theorem dX12_copyNode_180 : decode cX12_copyNode 180 = .ok (.return_, 1) := by decide +kernel
theorem dX12_feed_0 : decode cX12_feed 0 = .ok (.aload_n 0, 1) := by decide +kernel
theorem dX12_feed_1 : decode cX12_feed 1 = .ok (.getfield 261, 3) := by decide +kernel
theorem dX12_feed_4 : decode cX12_feed 4 = .ok (.bipush 20, 2) := by decide +kernel
theorem dX12_feed_6 : decode cX12_feed 6 = .ok (.iadd, 1) := by decide +kernel
theorem dX12_feed_7 : decode cX12_feed 7 = .ok (.sipush 8000, 3) := by decide +kernel
theorem dX12_feed_10 : decode cX12_feed 10 = .ok (.if_icmp .le 5, 3) := by decide +kernel
theorem dX12_feed_13 : decode cX12_feed 13 = .ok (.iconst (-1), 1) := by decide +kernel
theorem dX12_feed_14 : decode cX12_feed 14 = .ok (.ireturn, 1) := by decide +kernel
theorem dX12_feed_15 : decode cX12_feed 15 = .ok (.aload_n 0, 1) := by decide +kernel
theorem dX12_feed_16 : decode cX12_feed 16 = .ok (.iload_n 1, 1) := by decide +kernel
theorem dX12_feed_17 : decode cX12_feed 17 = .ok (.invokevirtual 265, 3) := by decide +kernel
theorem dX12_feed_20 : decode cX12_feed 20 = .ok (.aload_n 0, 1) := by decide +kernel
theorem dX12_feed_21 : decode cX12_feed 21 = .ok (.iload_n 2, 1) := by decide +kernel
theorem dX12_feed_22 : decode cX12_feed 22 = .ok (.invokevirtual 265, 3) := by decide +kernel
theorem dX12_feed_25 : decode cX12_feed 25 = .ok (.aload_n 0, 1) := by decide +kernel
theorem dX12_feed_26 : decode cX12_feed 26 = .ok (.iload_n 3, 1) := by decide +kernel
theorem dX12_feed_27 : decode cX12_feed 27 = .ok (.invokevirtual 265, 3) := by decide +kernel
theorem dX12_feed_30 : decode cX12_feed 30 = .ok (.aload_n 0, 1) := by decide +kernel
theorem dX12_feed_31 : decode cX12_feed 31 = .ok (.iload 4, 2) := by decide +kernel
theorem dX12_feed_33 : decode cX12_feed 33 = .ok (.invokevirtual 265, 3) := by decide +kernel
theorem dX12_feed_36 : decode cX12_feed 36 = .ok (.aload_n 0, 1) := by decide +kernel
theorem dX12_feed_37 : decode cX12_feed 37 = .ok (.iload 5, 2) := by decide +kernel
theorem dX12_feed_39 : decode cX12_feed 39 = .ok (.invokevirtual 265, 3) := by decide +kernel
theorem dX12_feed_42 : decode cX12_feed 42 = .ok (.aload_n 0, 1) := by decide +kernel
theorem dX12_feed_43 : decode cX12_feed 43 = .ok (.getfield 261, 3) := by decide +kernel
theorem dX12_feed_46 : decode cX12_feed 46 = .ok (.ireturn, 1) := by decide +kernel
theorem dX12_lay_0 : decode cX12_lay 0 = .ok (.bipush 24, 2) := by decide +kernel
theorem dX12_lay_2 : decode cX12_lay 2 = .ok (.istore_n 2, 1) := by decide +kernel
theorem dX12_lay_3 : decode cX12_lay 3 = .ok (.iload_n 2, 1) := by decide +kernel
theorem dX12_lay_4 : decode cX12_lay 4 = .ok (.ifCond .lt 32, 3) := by decide +kernel
theorem dX12_lay_7 : decode cX12_lay 7 = .ok (.aload_n 0, 1) := by decide +kernel
theorem dX12_lay_8 : decode cX12_lay 8 = .ok (.getfield 7, 3) := by decide +kernel
theorem dX12_lay_11 : decode cX12_lay 11 = .ok (.aload_n 0, 1) := by decide +kernel
theorem dX12_lay_12 : decode cX12_lay 12 = .ok (.getfield 261, 3) := by decide +kernel
theorem dX12_lay_15 : decode cX12_lay 15 = .ok (.iload_n 1, 1) := by decide +kernel
theorem dX12_lay_16 : decode cX12_lay 16 = .ok (.iload_n 2, 1) := by decide +kernel
theorem dX12_lay_17 : decode cX12_lay 17 = .ok (.ishr, 1) := by decide +kernel
theorem dX12_lay_18 : decode cX12_lay 18 = .ok (.i2b, 1) := by decide +kernel
theorem dX12_lay_19 : decode cX12_lay 19 = .ok (.bastore, 1) := by decide +kernel
theorem dX12_lay_20 : decode cX12_lay 20 = .ok (.aload_n 0, 1) := by decide +kernel
theorem dX12_lay_21 : decode cX12_lay 21 = .ok (.dup, 1) := by decide +kernel
theorem dX12_lay_22 : decode cX12_lay 22 = .ok (.getfield 261, 3) := by decide +kernel
theorem dX12_lay_25 : decode cX12_lay 25 = .ok (.iconst 1, 1) := by decide +kernel
theorem dX12_lay_26 : decode cX12_lay 26 = .ok (.iadd, 1) := by decide +kernel
theorem dX12_lay_27 : decode cX12_lay 27 = .ok (.putfield 261, 3) := by decide +kernel
theorem dX12_lay_30 : decode cX12_lay 30 = .ok (.iinc 2 (-8), 3) := by decide +kernel
theorem dX12_lay_33 : decode cX12_lay 33 = .ok (.goto (-30), 3) := by decide +kernel
theorem dX12_lay_36 : decode cX12_lay 36 = .ok (.return_, 1) := by decide +kernel
theorem dX12_cut_0 : decode cX12_cut 0 = .ok (.iload_n 1, 1) := by decide +kernel
theorem dX12_cut_1 : decode cX12_cut 1 = .ok (.ifCond .lt 11, 3) := by decide +kernel
theorem dX12_cut_4 : decode cX12_cut 4 = .ok (.iload_n 1, 1) := by decide +kernel
theorem dX12_cut_5 : decode cX12_cut 5 = .ok (.aload_n 0, 1) := by decide +kernel
theorem dX12_cut_6 : decode cX12_cut 6 = .ok (.getfield 261, 3) := by decide +kernel
theorem dX12_cut_9 : decode cX12_cut 9 = .ok (.if_icmp .le 5, 3) := by decide +kernel
theorem dX12_cut_12 : decode cX12_cut 12 = .ok (.iconst (-1), 1) := by decide +kernel
theorem dX12_cut_13 : decode cX12_cut 13 = .ok (.ireturn, 1) := by decide +kernel
theorem dX12_cut_14 : decode cX12_cut 14 = .ok (.aload_n 0, 1) := by decide +kernel
theorem dX12_cut_15 : decode cX12_cut 15 = .ok (.getfield 261, 3) := by decide +kernel
theorem dX12_cut_18 : decode cX12_cut 18 = .ok (.iload_n 1, 1) := by decide +kernel
theorem dX12_cut_19 : decode cX12_cut 19 = .ok (.isub, 1) := by decide +kernel
theorem dX12_cut_20 : decode cX12_cut 20 = .ok (.istore_n 2, 1) := by decide +kernel
theorem dX12_cut_21 : decode cX12_cut 21 = .ok (.aload_n 0, 1) := by decide +kernel
theorem dX12_cut_22 : decode cX12_cut 22 = .ok (.iload_n 1, 1) := by decide +kernel
theorem dX12_cut_23 : decode cX12_cut 23 = .ok (.putfield 261, 3) := by decide +kernel
theorem dX12_cut_26 : decode cX12_cut 26 = .ok (.iload_n 2, 1) := by decide +kernel
theorem dX12_cut_27 : decode cX12_cut 27 = .ok (.ireturn, 1) := by decide +kernel
theorem dX12_share_0 : decode cX12_share 0 = .ok (.aload_n 0, 1) := by decide +kernel
theorem dX12_share_1 : decode cX12_share 1 = .ok (.getfield 261, 3) := by decide +kernel
theorem dX12_share_4 : decode cX12_share 4 = .ok (.istore_n 2, 1) := by decide +kernel
theorem dX12_share_5 : decode cX12_share 5 = .ok (.aload_n 0, 1) := by decide +kernel
theorem dX12_share_6 : decode cX12_share 6 = .ok (.iconst 0, 1) := by decide +kernel
theorem dX12_share_7 : decode cX12_share 7 = .ok (.putfield 261, 3) := by decide +kernel
theorem dX12_share_10 : decode cX12_share 10 = .ok (.iload_n 1, 1) := by decide +kernel
theorem dX12_share_11 : decode cX12_share 11 = .ok (.ifCond .lt 28, 3) := by decide +kernel
theorem dX12_share_14 : decode cX12_share 14 = .ok (.iload_n 1, 1) := by decide +kernel
theorem dX12_share_15 : decode cX12_share 15 = .ok (.iconst 3, 1) := by decide +kernel
theorem dX12_share_16 : decode cX12_share 16 = .ok (.if_icmp .gt 23, 3) := by decide +kernel
theorem dX12_share_19 : decode cX12_share 19 = .ok (.aload_n 0, 1) := by decide +kernel
theorem dX12_share_20 : decode cX12_share 20 = .ok (.getfield 47, 3) := by decide +kernel
theorem dX12_share_23 : decode cX12_share 23 = .ok (.iload_n 1, 1) := by decide +kernel
theorem dX12_share_24 : decode cX12_share 24 = .ok (.iaload, 1) := by decide +kernel
theorem dX12_share_25 : decode cX12_share 25 = .ok (.ifCond .ge 14, 3) := by decide +kernel
theorem dX12_share_28 : decode cX12_share 28 = .ok (.iload_n 2, 1) := by decide +kernel
theorem dX12_share_29 : decode cX12_share 29 = .ok (.iconst 1, 1) := by decide +kernel
theorem dX12_share_30 : decode cX12_share 30 = .ok (.if_icmp .lt 9, 3) := by decide +kernel
theorem dX12_share_33 : decode cX12_share 33 = .ok (.iload_n 2, 1) := by decide +kernel

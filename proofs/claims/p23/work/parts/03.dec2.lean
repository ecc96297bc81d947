theorem dX7_sideChance_0 : decode cX7_sideChance 0 = .ok (.aload_n 0, 1) := by decide +kernel
theorem dX7_sideChance_1 : decode cX7_sideChance 1 = .ok (.getfield 119, 3) := by decide +kernel
theorem dX7_sideChance_4 : decode cX7_sideChance 4 = .ok (.iload_n 1, 1) := by decide +kernel
theorem dX7_sideChance_5 : decode cX7_sideChance 5 = .ok (.imul, 1) := by decide +kernel
theorem dX7_sideChance_6 : decode cX7_sideChance 6 = .ok (.aload_n 0, 1) := by decide +kernel
theorem dX7_sideChance_7 : decode cX7_sideChance 7 = .ok (.getfield 116, 3) := by decide +kernel
theorem dX7_sideChance_10 : decode cX7_sideChance 10 = .ok (.iconst 2, 1) := by decide +kernel
theorem dX7_sideChance_11 : decode cX7_sideChance 11 = .ok (.idiv, 1) := by decide +kernel
theorem dX7_sideChance_12 : decode cX7_sideChance 12 = .ok (.iadd, 1) := by decide +kernel
theorem dX7_sideChance_13 : decode cX7_sideChance 13 = .ok (.aload_n 0, 1) := by decide +kernel
theorem dX7_sideChance_14 : decode cX7_sideChance 14 = .ok (.getfield 116, 3) := by decide +kernel
theorem dX7_sideChance_17 : decode cX7_sideChance 17 = .ok (.idiv, 1) := by decide +kernel
theorem dX7_sideChance_18 : decode cX7_sideChance 18 = .ok (.istore_n 2, 1) := by decide +kernel
theorem dX7_sideChance_19 : decode cX7_sideChance 19 = .ok (.iload_n 2, 1) := by decide +kernel
theorem dX7_sideChance_20 : decode cX7_sideChance 20 = .ok (.iconst 1, 1) := by decide +kernel
theorem dX7_sideChance_21 : decode cX7_sideChance 21 = .ok (.if_icmp .ge 7, 3) := by decide +kernel
theorem dX7_sideChance_24 : decode cX7_sideChance 24 = .ok (.iconst 1, 1) := by decide +kernel
theorem dX7_sideChance_25 : decode cX7_sideChance 25 = .ok (.goto 17, 3) := by decide +kernel
theorem dX7_sideChance_28 : decode cX7_sideChance 28 = .ok (.iload_n 2, 1) := by decide +kernel
theorem dX7_sideChance_29 : decode cX7_sideChance 29 = .ok (.iload_n 1, 1) := by decide +kernel
theorem dX7_sideChance_30 : decode cX7_sideChance 30 = .ok (.iconst 1, 1) := by decide +kernel
theorem dX7_sideChance_31 : decode cX7_sideChance 31 = .ok (.isub, 1) := by decide +kernel
theorem dX7_sideChance_32 : decode cX7_sideChance 32 = .ok (.if_icmp .le 9, 3) := by decide +kernel
theorem dX7_sideChance_35 : decode cX7_sideChance 35 = .ok (.iload_n 1, 1) := by decide +kernel
theorem dX7_sideChance_36 : decode cX7_sideChance 36 = .ok (.iconst 1, 1) := by decide +kernel
theorem dX7_sideChance_37 : decode cX7_sideChance 37 = .ok (.isub, 1) := by decide +kernel
theorem dX7_sideChance_38 : decode cX7_sideChance 38 = .ok (.goto 4, 3) := by decide +kernel
theorem dX7_sideChance_41 : decode cX7_sideChance 41 = .ok (.iload_n 2, 1) := by decide +kernel
theorem dX7_sideChance_42 : decode cX7_sideChance 42 = .ok (.ireturn, 1) := by decide +kernel
theorem dX7_writeSides_0 : decode cX7_writeSides 0 = .ok (.iconst 4, 1) := by decide +kernel
theorem dX7_writeSides_1 : decode cX7_writeSides 1 = .ok (.istore_n 3, 1) := by decide +kernel
theorem dX7_writeSides_2 : decode cX7_writeSides 2 = .ok (.iload_n 3, 1) := by decide +kernel
theorem dX7_writeSides_3 : decode cX7_writeSides 3 = .ok (.ifCond .lt 87, 3) := by decide +kernel
theorem dX7_writeSides_6 : decode cX7_writeSides 6 = .ok (.aload_n 0, 1) := by decide +kernel
theorem dX7_writeSides_7 : decode cX7_writeSides 7 = .ok (.iconst 0, 1) := by decide +kernel
theorem dX7_writeSides_8 : decode cX7_writeSides 8 = .ok (.iload_n 2, 1) := by decide +kernel
theorem dX7_writeSides_9 : decode cX7_writeSides 9 = .ok (.iconst 5, 1) := by decide +kernel
theorem dX7_writeSides_10 : decode cX7_writeSides 10 = .ok (.iload_n 3, 1) := by decide +kernel
theorem dX7_writeSides_11 : decode cX7_writeSides 11 = .ok (.isub, 1) := by decide +kernel
theorem dX7_writeSides_12 : decode cX7_writeSides 12 = .ok (.ishr, 1) := by decide +kernel
theorem dX7_writeSides_13 : decode cX7_writeSides 13 = .ok (.iload_n 3, 1) := by decide +kernel
theorem dX7_writeSides_14 : decode cX7_writeSides 14 = .ok (.invokevirtual 122, 3) := by decide +kernel
theorem dX7_writeSides_17 : decode cX7_writeSides 17 = .ok (.aload_n 0, 1) := by decide +kernel
theorem dX7_writeSides_18 : decode cX7_writeSides 18 = .ok (.getfield 119, 3) := by decide +kernel
theorem dX7_writeSides_21 : decode cX7_writeSides 21 = .ok (.ifCond .le 63, 3) := by decide +kernel
theorem dX7_writeSides_24 : decode cX7_writeSides 24 = .ok (.aload_n 0, 1) := by decide +kernel
theorem dX7_writeSides_25 : decode cX7_writeSides 25 = .ok (.getfield 119, 3) := by decide +kernel
theorem dX7_writeSides_28 : decode cX7_writeSides 28 = .ok (.aload_n 0, 1) := by decide +kernel
theorem dX7_writeSides_29 : decode cX7_writeSides 29 = .ok (.getfield 116, 3) := by decide +kernel
theorem dX7_writeSides_32 : decode cX7_writeSides 32 = .ok (.if_icmp .ge 52, 3) := by decide +kernel
theorem dX7_writeSides_35 : decode cX7_writeSides 35 = .ok (.aload_n 0, 1) := by decide +kernel
theorem dX7_writeSides_36 : decode cX7_writeSides 36 = .ok (.iconst 1, 1) := by decide +kernel
theorem dX7_writeSides_37 : decode cX7_writeSides 37 = .ok (.aload_n 0, 1) := by decide +kernel
theorem dX7_writeSides_38 : decode cX7_writeSides 38 = .ok (.getfield 59, 3) := by decide +kernel
theorem dX7_writeSides_41 : decode cX7_writeSides 41 = .ok (.ishl, 1) := by decide +kernel
theorem dX7_writeSides_42 : decode cX7_writeSides 42 = .ok (.invokevirtual 126, 3) := by decide +kernel
theorem dX7_writeSides_45 : decode cX7_writeSides 45 = .ok (.istore 4, 2) := by decide +kernel
theorem dX7_writeSides_47 : decode cX7_writeSides 47 = .ok (.iload_n 2, 1) := by decide +kernel
theorem dX7_writeSides_48 : decode cX7_writeSides 48 = .ok (.iconst 4, 1) := by decide +kernel
theorem dX7_writeSides_49 : decode cX7_writeSides 49 = .ok (.iload_n 3, 1) := by decide +kernel
theorem dX7_writeSides_50 : decode cX7_writeSides 50 = .ok (.isub, 1) := by decide +kernel
theorem dX7_writeSides_51 : decode cX7_writeSides 51 = .ok (.ishr, 1) := by decide +kernel
theorem dX7_writeSides_52 : decode cX7_writeSides 52 = .ok (.iconst 1, 1) := by decide +kernel
theorem dX7_writeSides_53 : decode cX7_writeSides 53 = .ok (.iand, 1) := by decide +kernel
theorem dX7_writeSides_54 : decode cX7_writeSides 54 = .ok (.ifCond .ne 14, 3) := by decide +kernel
theorem dX7_writeSides_57 : decode cX7_writeSides 57 = .ok (.aload_n 0, 1) := by decide +kernel
theorem dX7_writeSides_58 : decode cX7_writeSides 58 = .ok (.iload_n 1, 1) := by decide +kernel
theorem dX7_writeSides_59 : decode cX7_writeSides 59 = .ok (.iload 4, 2) := by decide +kernel
theorem dX7_writeSides_61 : decode cX7_writeSides 61 = .ok (.iconst 0, 1) := by decide +kernel
theorem dX7_writeSides_62 : decode cX7_writeSides 62 = .ok (.invokevirtual 129, 3) := by decide +kernel
theorem dX7_writeSides_65 : decode cX7_writeSides 65 = .ok (.goto 19, 3) := by decide +kernel
theorem dX7_writeSides_68 : decode cX7_writeSides 68 = .ok (.aload_n 0, 1) := by decide +kernel
theorem dX7_writeSides_69 : decode cX7_writeSides 69 = .ok (.iload_n 1, 1) := by decide +kernel
theorem dX7_writeSides_70 : decode cX7_writeSides 70 = .ok (.iconst 1, 1) := by decide +kernel
theorem dX7_writeSides_71 : decode cX7_writeSides 71 = .ok (.aload_n 0, 1) := by decide +kernel
theorem dX7_writeSides_72 : decode cX7_writeSides 72 = .ok (.getfield 59, 3) := by decide +kernel
theorem dX7_writeSides_75 : decode cX7_writeSides 75 = .ok (.ishl, 1) := by decide +kernel
theorem dX7_writeSides_76 : decode cX7_writeSides 76 = .ok (.iload 4, 2) := by decide +kernel
theorem dX7_writeSides_78 : decode cX7_writeSides 78 = .ok (.isub, 1) := by decide +kernel
theorem dX7_writeSides_79 : decode cX7_writeSides 79 = .ok (.iload 4, 2) := by decide +kernel
theorem dX7_writeSides_81 : decode cX7_writeSides 81 = .ok (.invokevirtual 129, 3) := by decide +kernel
theorem dX7_writeSides_84 : decode cX7_writeSides 84 = .ok (.iinc 3 (-1), 3) := by decide +kernel
theorem dX7_writeSides_87 : decode cX7_writeSides 87 = .ok (.goto (-85), 3) := by decide +kernel
theorem dX7_writeSides_90 : decode cX7_writeSides 90 = .ok (.return_, 1) := by decide +kernel
theorem dX7_mayWrite_0 : decode cX7_mayWrite 0 = .ok (.aload_n 0, 1) := by decide +kernel
theorem dX7_mayWrite_1 : decode cX7_mayWrite 1 = .ok (.getfield 69, 3) := by decide +kernel
theorem dX7_mayWrite_4 : decode cX7_mayWrite 4 = .ok (.istore_n 1, 1) := by decide +kernel
theorem dX7_mayWrite_5 : decode cX7_mayWrite 5 = .ok (.iconst 0, 1) := by decide +kernel
theorem dX7_mayWrite_6 : decode cX7_mayWrite 6 = .ok (.istore_n 2, 1) := by decide +kernel
theorem dX7_mayWrite_7 : decode cX7_mayWrite 7 = .ok (.iload_n 2, 1) := by decide +kernel
theorem dX7_mayWrite_8 : decode cX7_mayWrite 8 = .ok (.aload_n 0, 1) := by decide +kernel
theorem dX7_mayWrite_9 : decode cX7_mayWrite 9 = .ok (.getfield 65, 3) := by decide +kernel
theorem dX7_mayWrite_12 : decode cX7_mayWrite 12 = .ok (.if_icmp .ge 33, 3) := by decide +kernel
theorem dX7_mayWrite_15 : decode cX7_mayWrite 15 = .ok (.iload_n 1, 1) := by decide +kernel
theorem dX7_mayWrite_16 : decode cX7_mayWrite 16 = .ok (.ifCond .eq 29, 3) := by decide +kernel
theorem dX7_mayWrite_19 : decode cX7_mayWrite 19 = .ok (.aload_n 0, 1) := by decide +kernel
theorem dX7_mayWrite_20 : decode cX7_mayWrite 20 = .ok (.getfield 20, 3) := by decide +kernel
theorem dX7_mayWrite_23 : decode cX7_mayWrite 23 = .ok (.aload_n 0, 1) := by decide +kernel
theorem dX7_mayWrite_24 : decode cX7_mayWrite 24 = .ok (.getfield 13, 3) := by decide +kernel
theorem dX7_mayWrite_27 : decode cX7_mayWrite 27 = .ok (.iload_n 2, 1) := by decide +kernel
theorem dX7_mayWrite_28 : decode cX7_mayWrite 28 = .ok (.iaload, 1) := by decide +kernel
theorem dX7_mayWrite_29 : decode cX7_mayWrite 29 = .ok (.iaload, 1) := by decide +kernel
theorem dX7_mayWrite_30 : decode cX7_mayWrite 30 = .ok (.ifCond .le 7, 3) := by decide +kernel
theorem dX7_mayWrite_33 : decode cX7_mayWrite 33 = .ok (.iconst 1, 1) := by decide +kernel
theorem dX7_mayWrite_34 : decode cX7_mayWrite 34 = .ok (.goto 4, 3) := by decide +kernel
theorem dX7_mayWrite_37 : decode cX7_mayWrite 37 = .ok (.iconst 0, 1) := by decide +kernel
theorem dX7_mayWrite_38 : decode cX7_mayWrite 38 = .ok (.istore_n 1, 1) := by decide +kernel
theorem dX7_mayWrite_39 : decode cX7_mayWrite 39 = .ok (.iinc 2 1, 3) := by decide +kernel
theorem dX7_mayWrite_42 : decode cX7_mayWrite 42 = .ok (.goto (-35), 3) := by decide +kernel
theorem dX7_mayWrite_45 : decode cX7_mayWrite 45 = .ok (.iload_n 1, 1) := by decide +kernel
theorem dX7_mayWrite_46 : decode cX7_mayWrite 46 = .ok (.ireturn, 1) := by decide +kernel
theorem dX7_writeForm_0 : decode cX7_writeForm 0 = .ok (.aload_n 0, 1) := by decide +kernel
theorem dX7_writeForm_1 : decode cX7_writeForm 1 = .ok (.iconst 0, 1) := by decide +kernel
theorem dX7_writeForm_2 : decode cX7_writeForm 2 = .ok (.putfield 96, 3) := by decide +kernel
theorem dX7_writeForm_5 : decode cX7_writeForm 5 = .ok (.aload_n 0, 1) := by decide +kernel
theorem dX7_writeForm_6 : decode cX7_writeForm 6 = .ok (.iconst 4, 1) := by decide +kernel
theorem dX7_writeForm_7 : decode cX7_writeForm 7 = .ok (.iload_n 1, 1) := by decide +kernel
theorem dX7_writeForm_8 : decode cX7_writeForm 8 = .ok (.imul, 1) := by decide +kernel
theorem dX7_writeForm_9 : decode cX7_writeForm 9 = .ok (.aload_n 0, 1) := by decide +kernel
theorem dX7_writeForm_10 : decode cX7_writeForm 10 = .ok (.getfield 7, 3) := by decide +kernel
theorem dX7_writeForm_13 : decode cX7_writeForm 13 = .ok (.iconst 4, 1) := by decide +kernel
theorem dX7_writeForm_14 : decode cX7_writeForm 14 = .ok (.if_icmp .ne 7, 3) := by decide +kernel
theorem dX7_writeForm_17 : decode cX7_writeForm 17 = .ok (.iconst 2, 1) := by decide +kernel
theorem dX7_writeForm_18 : decode cX7_writeForm 18 = .ok (.goto 9, 3) := by decide +kernel
theorem dX7_writeForm_21 : decode cX7_writeForm 21 = .ok (.aload_n 0, 1) := by decide +kernel
theorem dX7_writeForm_22 : decode cX7_writeForm 22 = .ok (.getfield 7, 3) := by decide +kernel
theorem dX7_writeForm_25 : decode cX7_writeForm 25 = .ok (.iconst 1, 1) := by decide +kernel
theorem dX7_writeForm_26 : decode cX7_writeForm 26 = .ok (.isub, 1) := by decide +kernel
theorem dX7_writeForm_27 : decode cX7_writeForm 27 = .ok (.iadd, 1) := by decide +kernel
theorem dX7_writeForm_28 : decode cX7_writeForm 28 = .ok (.invokevirtual 99, 3) := by decide +kernel
theorem dX7_writeForm_31 : decode cX7_writeForm 31 = .ok (.aload_n 0, 1) := by decide +kernel
theorem dX7_writeForm_32 : decode cX7_writeForm 32 = .ok (.aload_n 0, 1) := by decide +kernel
theorem dX7_writeForm_33 : decode cX7_writeForm 33 = .ok (.getfield 59, 3) := by decide +kernel
theorem dX7_writeForm_36 : decode cX7_writeForm 36 = .ok (.invokevirtual 99, 3) := by decide +kernel
theorem dX7_writeForm_39 : decode cX7_writeForm 39 = .ok (.aload_n 0, 1) := by decide +kernel
theorem dX7_writeForm_40 : decode cX7_writeForm 40 = .ok (.aload_n 0, 1) := by decide +kernel
theorem dX7_writeForm_41 : decode cX7_writeForm 41 = .ok (.getfield 65, 3) := by decide +kernel
theorem dX7_writeForm_44 : decode cX7_writeForm 44 = .ok (.i2l, 1) := by decide +kernel
theorem dX7_writeForm_45 : decode cX7_writeForm 45 = .ok (.iconst 2, 1) := by decide +kernel
theorem dX7_writeForm_46 : decode cX7_writeForm 46 = .ok (.invokevirtual 132, 3) := by decide +kernel
theorem dX7_writeForm_49 : decode cX7_writeForm 49 = .ok (.aload_n 0, 1) := by decide +kernel
theorem dX7_writeForm_50 : decode cX7_writeForm 50 = .ok (.invokevirtual 136, 3) := by decide +kernel
theorem dX7_writeForm_53 : decode cX7_writeForm 53 = .ok (.iconst 0, 1) := by decide +kernel
theorem dX7_writeForm_54 : decode cX7_writeForm 54 = .ok (.istore_n 2, 1) := by decide +kernel
theorem dX7_writeForm_55 : decode cX7_writeForm 55 = .ok (.iload_n 2, 1) := by decide +kernel
theorem dX7_writeForm_56 : decode cX7_writeForm 56 = .ok (.iconst 4, 1) := by decide +kernel
theorem dX7_writeForm_57 : decode cX7_writeForm 57 = .ok (.if_icmp .ge 23, 3) := by decide +kernel
theorem dX7_writeForm_60 : decode cX7_writeForm 60 = .ok (.aload_n 0, 1) := by decide +kernel
theorem dX7_writeForm_61 : decode cX7_writeForm 61 = .ok (.getfield 41, 3) := by decide +kernel
theorem dX7_writeForm_64 : decode cX7_writeForm 64 = .ok (.iload_n 2, 1) := by decide +kernel
theorem dX7_writeForm_65 : decode cX7_writeForm 65 = .ok (.iload_n 1, 1) := by decide +kernel
theorem dX7_writeForm_66 : decode cX7_writeForm 66 = .ok (.aload_n 0, 1) := by decide +kernel
theorem dX7_writeForm_67 : decode cX7_writeForm 67 = .ok (.getfield 59, 3) := by decide +kernel
theorem dX7_writeForm_70 : decode cX7_writeForm 70 = .ok (.invokestatic 139, 3) := by decide +kernel
theorem dX7_writeForm_73 : decode cX7_writeForm 73 = .ok (.lastore, 1) := by decide +kernel
theorem dX7_writeForm_74 : decode cX7_writeForm 74 = .ok (.iinc 2 1, 3) := by decide +kernel
theorem dX7_writeForm_77 : decode cX7_writeForm 77 = .ok (.goto (-22), 3) := by decide +kernel
theorem dX7_writeForm_80 : decode cX7_writeForm 80 = .ok (.aload_n 0, 1) := by decide +kernel
theorem dX7_writeForm_81 : decode cX7_writeForm 81 = .ok (.iconst 0, 1) := by decide +kernel
theorem dX7_writeForm_82 : decode cX7_writeForm 82 = .ok (.putfield 113, 3) := by decide +kernel
theorem dX7_writeForm_85 : decode cX7_writeForm 85 = .ok (.aload_n 0, 1) := by decide +kernel
theorem dX7_writeForm_86 : decode cX7_writeForm 86 = .ok (.getfield 65, 3) := by decide +kernel
theorem dX7_writeForm_89 : decode cX7_writeForm 89 = .ok (.iconst 1, 1) := by decide +kernel
theorem dX7_writeForm_90 : decode cX7_writeForm 90 = .ok (.isub, 1) := by decide +kernel
theorem dX7_writeForm_91 : decode cX7_writeForm 91 = .ok (.istore_n 2, 1) := by decide +kernel
theorem dX7_writeForm_92 : decode cX7_writeForm 92 = .ok (.iload_n 2, 1) := by decide +kernel
theorem dX7_writeForm_93 : decode cX7_writeForm 93 = .ok (.ifCond .lt 123, 3) := by decide +kernel
theorem dX7_writeForm_96 : decode cX7_writeForm 96 = .ok (.aload_n 0, 1) := by decide +kernel
theorem dX7_writeForm_97 : decode cX7_writeForm 97 = .ok (.getfield 13, 3) := by decide +kernel
theorem dX7_writeForm_100 : decode cX7_writeForm 100 = .ok (.iload_n 2, 1) := by decide +kernel
theorem dX7_writeForm_101 : decode cX7_writeForm 101 = .ok (.iaload, 1) := by decide +kernel
theorem dX7_writeForm_102 : decode cX7_writeForm 102 = .ok (.istore_n 3, 1) := by decide +kernel
theorem dX7_writeForm_103 : decode cX7_writeForm 103 = .ok (.iload_n 2, 1) := by decide +kernel
theorem dX7_writeForm_104 : decode cX7_writeForm 104 = .ok (.aload_n 0, 1) := by decide +kernel
theorem dX7_writeForm_105 : decode cX7_writeForm 105 = .ok (.getfield 7, 3) := by decide +kernel
theorem dX7_writeForm_108 : decode cX7_writeForm 108 = .ok (.irem, 1) := by decide +kernel
theorem dX7_writeForm_109 : decode cX7_writeForm 109 = .ok (.istore 4, 2) := by decide +kernel
theorem dX7_writeForm_111 : decode cX7_writeForm 111 = .ok (.iload_n 1, 1) := by decide +kernel
theorem dX7_writeForm_112 : decode cX7_writeForm 112 = .ok (.iconst 3, 1) := by decide +kernel
theorem dX7_writeForm_113 : decode cX7_writeForm 113 = .ok (.if_icmp .ne 13, 3) := by decide +kernel
theorem dX7_writeForm_116 : decode cX7_writeForm 116 = .ok (.aload_n 0, 1) := by decide +kernel
theorem dX7_writeForm_117 : decode cX7_writeForm 117 = .ok (.iload 4, 2) := by decide +kernel
theorem dX7_writeForm_119 : decode cX7_writeForm 119 = .ok (.iload_n 3, 1) := by decide +kernel
theorem dX7_writeForm_120 : decode cX7_writeForm 120 = .ok (.invokevirtual 143, 3) := by decide +kernel
theorem dX7_writeForm_123 : decode cX7_writeForm 123 = .ok (.goto 87, 3) := by decide +kernel
theorem dX7_writeForm_126 : decode cX7_writeForm 126 = .ok (.aload_n 0, 1) := by decide +kernel
theorem dX7_writeForm_127 : decode cX7_writeForm 127 = .ok (.getfield 20, 3) := by decide +kernel
theorem dX7_writeForm_130 : decode cX7_writeForm 130 = .ok (.iload_n 3, 1) := by decide +kernel
theorem dX7_writeForm_131 : decode cX7_writeForm 131 = .ok (.iaload, 1) := by decide +kernel
theorem dX7_writeForm_132 : decode cX7_writeForm 132 = .ok (.iconst 1, 1) := by decide +kernel
theorem dX7_writeForm_133 : decode cX7_writeForm 133 = .ok (.aload_n 0, 1) := by decide +kernel
theorem dX7_writeForm_134 : decode cX7_writeForm 134 = .ok (.getfield 59, 3) := by decide +kernel
theorem dX7_writeForm_137 : decode cX7_writeForm 137 = .ok (.ishl, 1) := by decide +kernel
theorem dX7_writeForm_138 : decode cX7_writeForm 138 = .ok (.if_icmp .ge 72, 3) := by decide +kernel
theorem dX7_writeForm_141 : decode cX7_writeForm 141 = .ok (.iload_n 1, 1) := by decide +kernel
theorem dX7_writeForm_142 : decode cX7_writeForm 142 = .ok (.ifCond .ne 24, 3) := by decide +kernel
theorem dX7_writeForm_145 : decode cX7_writeForm 145 = .ok (.aload_n 0, 1) := by decide +kernel
theorem dX7_writeForm_146 : decode cX7_writeForm 146 = .ok (.iload 4, 2) := by decide +kernel
theorem dX7_writeForm_148 : decode cX7_writeForm 148 = .ok (.aload_n 0, 1) := by decide +kernel
theorem dX7_writeForm_149 : decode cX7_writeForm 149 = .ok (.getfield 20, 3) := by decide +kernel
theorem dX7_writeForm_152 : decode cX7_writeForm 152 = .ok (.iload_n 3, 1) := by decide +kernel
theorem dX7_writeForm_153 : decode cX7_writeForm 153 = .ok (.iaload, 1) := by decide +kernel
theorem dX7_writeForm_154 : decode cX7_writeForm 154 = .ok (.aload_n 0, 1) := by decide +kernel
theorem dX7_writeForm_155 : decode cX7_writeForm 155 = .ok (.getfield 23, 3) := by decide +kernel
theorem dX7_writeForm_158 : decode cX7_writeForm 158 = .ok (.iload_n 3, 1) := by decide +kernel
theorem dX7_writeForm_159 : decode cX7_writeForm 159 = .ok (.iaload, 1) := by decide +kernel
theorem dX7_writeForm_160 : decode cX7_writeForm 160 = .ok (.invokevirtual 129, 3) := by decide +kernel
theorem dX7_writeForm_163 : decode cX7_writeForm 163 = .ok (.goto 47, 3) := by decide +kernel
theorem dX7_writeForm_166 : decode cX7_writeForm 166 = .ok (.iload_n 1, 1) := by decide +kernel
theorem dX7_writeForm_167 : decode cX7_writeForm 167 = .ok (.iconst 1, 1) := by decide +kernel
theorem dX7_writeForm_168 : decode cX7_writeForm 168 = .ok (.if_icmp .ne 24, 3) := by decide +kernel
theorem dX7_writeForm_171 : decode cX7_writeForm 171 = .ok (.aload_n 0, 1) := by decide +kernel
theorem dX7_writeForm_172 : decode cX7_writeForm 172 = .ok (.iload 4, 2) := by decide +kernel
theorem dX7_writeForm_174 : decode cX7_writeForm 174 = .ok (.aload_n 0, 1) := by decide +kernel
theorem dX7_writeForm_175 : decode cX7_writeForm 175 = .ok (.getfield 20, 3) := by decide +kernel
theorem dX7_writeForm_178 : decode cX7_writeForm 178 = .ok (.iload_n 3, 1) := by decide +kernel
theorem dX7_writeForm_179 : decode cX7_writeForm 179 = .ok (.iaload, 1) := by decide +kernel
theorem dX7_writeForm_180 : decode cX7_writeForm 180 = .ok (.aload_n 0, 1) := by decide +kernel
theorem dX7_writeForm_181 : decode cX7_writeForm 181 = .ok (.getfield 23, 3) := by decide +kernel
theorem dX7_writeForm_184 : decode cX7_writeForm 184 = .ok (.iload_n 3, 1) := by decide +kernel
theorem dX7_writeForm_185 : decode cX7_writeForm 185 = .ok (.iaload, 1) := by decide +kernel
theorem dX7_writeForm_186 : decode cX7_writeForm 186 = .ok (.invokevirtual 146, 3) := by decide +kernel
theorem dX7_writeForm_189 : decode cX7_writeForm 189 = .ok (.goto 21, 3) := by decide +kernel
theorem dX7_writeForm_192 : decode cX7_writeForm 192 = .ok (.aload_n 0, 1) := by decide +kernel
theorem dX7_writeForm_193 : decode cX7_writeForm 193 = .ok (.iload 4, 2) := by decide +kernel
theorem dX7_writeForm_195 : decode cX7_writeForm 195 = .ok (.aload_n 0, 1) := by decide +kernel
theorem dX7_writeForm_196 : decode cX7_writeForm 196 = .ok (.getfield 20, 3) := by decide +kernel
theorem dX7_writeForm_199 : decode cX7_writeForm 199 = .ok (.iload_n 3, 1) := by decide +kernel
theorem dX7_writeForm_200 : decode cX7_writeForm 200 = .ok (.iaload, 1) := by decide +kernel
theorem dX7_writeForm_201 : decode cX7_writeForm 201 = .ok (.aload_n 0, 1) := by decide +kernel
theorem dX7_writeForm_202 : decode cX7_writeForm 202 = .ok (.getfield 23, 3) := by decide +kernel
theorem dX7_writeForm_205 : decode cX7_writeForm 205 = .ok (.iload_n 3, 1) := by decide +kernel
theorem dX7_writeForm_206 : decode cX7_writeForm 206 = .ok (.iaload, 1) := by decide +kernel
theorem dX7_writeForm_207 : decode cX7_writeForm 207 = .ok (.invokevirtual 149, 3) := by decide +kernel
theorem dX7_writeForm_210 : decode cX7_writeForm 210 = .ok (.iinc 2 (-1), 3) := by decide +kernel
theorem dX7_writeForm_213 : decode cX7_writeForm 213 = .ok (.goto (-121), 3) := by decide +kernel
theorem dX7_writeForm_216 : decode cX7_writeForm 216 = .ok (.iconst 0, 1) := by decide +kernel
theorem dX7_writeForm_217 : decode cX7_writeForm 217 = .ok (.istore_n 2, 1) := by decide +kernel
theorem dX7_writeForm_218 : decode cX7_writeForm 218 = .ok (.iload_n 2, 1) := by decide +kernel
theorem dX7_writeForm_219 : decode cX7_writeForm 219 = .ok (.aload_n 0, 1) := by decide +kernel
theorem dX7_writeForm_220 : decode cX7_writeForm 220 = .ok (.getfield 7, 3) := by decide +kernel
theorem dX7_writeForm_223 : decode cX7_writeForm 223 = .ok (.if_icmp .ge 51, 3) := by decide +kernel
theorem dX7_writeForm_226 : decode cX7_writeForm 226 = .ok (.aload_n 0, 1) := by decide +kernel
theorem dX7_writeForm_227 : decode cX7_writeForm 227 = .ok (.aload_n 0, 1) := by decide +kernel
theorem dX7_writeForm_228 : decode cX7_writeForm 228 = .ok (.getfield 41, 3) := by decide +kernel
theorem dX7_writeForm_231 : decode cX7_writeForm 231 = .ok (.iload_n 2, 1) := by decide +kernel
theorem dX7_writeForm_232 : decode cX7_writeForm 232 = .ok (.laload, 1) := by decide +kernel
theorem dX7_writeForm_233 : decode cX7_writeForm 233 = .ok (.iload_n 1, 1) := by decide +kernel
theorem dX7_writeForm_234 : decode cX7_writeForm 234 = .ok (.iconst 1, 1) := by decide +kernel
theorem dX7_writeForm_235 : decode cX7_writeForm 235 = .ok (.if_icmp .ne 8, 3) := by decide +kernel
theorem dX7_writeForm_238 : decode cX7_writeForm 238 = .ok (.bipush 8, 2) := by decide +kernel
theorem dX7_writeForm_240 : decode cX7_writeForm 240 = .ok (.goto 13, 3) := by decide +kernel
theorem dX7_writeForm_243 : decode cX7_writeForm 243 = .ok (.iload_n 1, 1) := by decide +kernel
theorem dX7_writeForm_244 : decode cX7_writeForm 244 = .ok (.iconst 2, 1) := by decide +kernel
theorem dX7_writeForm_245 : decode cX7_writeForm 245 = .ok (.if_icmp .ne 7, 3) := by decide +kernel
theorem dX7_writeForm_248 : decode cX7_writeForm 248 = .ok (.iconst 2, 1) := by decide +kernel
theorem dX7_writeForm_249 : decode cX7_writeForm 249 = .ok (.goto 4, 3) := by decide +kernel
theorem dX7_writeForm_252 : decode cX7_writeForm 252 = .ok (.iconst 4, 1) := by decide +kernel
theorem dX7_writeForm_253 : decode cX7_writeForm 253 = .ok (.invokevirtual 132, 3) := by decide +kernel
theorem dX7_writeForm_256 : decode cX7_writeForm 256 = .ok (.aload_n 0, 1) := by decide +kernel
theorem dX7_writeForm_257 : decode cX7_writeForm 257 = .ok (.getfield 45, 3) := by decide +kernel
theorem dX7_writeForm_260 : decode cX7_writeForm 260 = .ok (.iload_n 2, 1) := by decide +kernel
theorem dX7_writeForm_261 : decode cX7_writeForm 261 = .ok (.aload_n 0, 1) := by decide +kernel
theorem dX7_writeForm_262 : decode cX7_writeForm 262 = .ok (.getfield 41, 3) := by decide +kernel
theorem dX7_writeForm_265 : decode cX7_writeForm 265 = .ok (.iload_n 2, 1) := by decide +kernel
theorem dX7_writeForm_266 : decode cX7_writeForm 266 = .ok (.laload, 1) := by decide +kernel
theorem dX7_writeForm_267 : decode cX7_writeForm 267 = .ok (.lastore, 1) := by decide +kernel
theorem dX7_writeForm_268 : decode cX7_writeForm 268 = .ok (.iinc 2 1, 3) := by decide +kernel
theorem dX7_writeForm_271 : decode cX7_writeForm 271 = .ok (.goto (-53), 3) := by decide +kernel
theorem dX7_writeForm_274 : decode cX7_writeForm 274 = .ok (.aload_n 0, 1) := by decide +kernel
theorem dX7_writeForm_275 : decode cX7_writeForm 275 = .ok (.aload_n 0, 1) := by decide +kernel
theorem dX7_writeForm_276 : decode cX7_writeForm 276 = .ok (.getfield 7, 3) := by decide +kernel
theorem dX7_writeForm_279 : decode cX7_writeForm 279 = .ok (.putfield 152, 3) := by decide +kernel
theorem dX7_writeForm_282 : decode cX7_writeForm 282 = .ok (.aload_n 0, 1) := by decide +kernel
theorem dX7_writeForm_283 : decode cX7_writeForm 283 = .ok (.iconst 0, 1) := by decide +kernel
theorem dX7_writeForm_284 : decode cX7_writeForm 284 = .ok (.putfield 102, 3) := by decide +kernel
theorem dX7_writeForm_287 : decode cX7_writeForm 287 = .ok (.aload_n 0, 1) := by decide +kernel
theorem dX7_writeForm_288 : decode cX7_writeForm 288 = .ok (.getfield 113, 3) := by decide +kernel
theorem dX7_writeForm_291 : decode cX7_writeForm 291 = .ok (.iconst 1, 1) := by decide +kernel
theorem dX7_writeForm_292 : decode cX7_writeForm 292 = .ok (.isub, 1) := by decide +kernel
theorem dX7_writeForm_293 : decode cX7_writeForm 293 = .ok (.istore_n 2, 1) := by decide +kernel
theorem dX7_writeForm_294 : decode cX7_writeForm 294 = .ok (.iload_n 2, 1) := by decide +kernel
theorem dX7_writeForm_295 : decode cX7_writeForm 295 = .ok (.ifCond .lt 58, 3) := by decide +kernel
theorem dX7_writeForm_298 : decode cX7_writeForm 298 = .ok (.iload_n 1, 1) := by decide +kernel
theorem dX7_writeForm_299 : decode cX7_writeForm 299 = .ok (.iconst 1, 1) := by decide +kernel
theorem dX7_writeForm_300 : decode cX7_writeForm 300 = .ok (.if_icmp .ne 18, 3) := by decide +kernel
theorem dX7_writeForm_303 : decode cX7_writeForm 303 = .ok (.aload_n 0, 1) := by decide +kernel
theorem dX7_writeForm_304 : decode cX7_writeForm 304 = .ok (.aload_n 0, 1) := by decide +kernel
theorem dX7_writeForm_305 : decode cX7_writeForm 305 = .ok (.getfield 49, 3) := by decide +kernel
theorem dX7_writeForm_308 : decode cX7_writeForm 308 = .ok (.iload_n 2, 1) := by decide +kernel
theorem dX7_writeForm_309 : decode cX7_writeForm 309 = .ok (.iaload, 1) := by decide +kernel
theorem dX7_writeForm_310 : decode cX7_writeForm 310 = .ok (.i2l, 1) := by decide +kernel
theorem dX7_writeForm_311 : decode cX7_writeForm 311 = .ok (.iconst 4, 1) := by decide +kernel
theorem dX7_writeForm_312 : decode cX7_writeForm 312 = .ok (.invokevirtual 132, 3) := by decide +kernel
theorem dX7_writeForm_315 : decode cX7_writeForm 315 = .ok (.goto 32, 3) := by decide +kernel
theorem dX7_writeForm_318 : decode cX7_writeForm 318 = .ok (.iload_n 1, 1) := by decide +kernel
theorem dX7_writeForm_319 : decode cX7_writeForm 319 = .ok (.iconst 2, 1) := by decide +kernel
theorem dX7_writeForm_320 : decode cX7_writeForm 320 = .ok (.if_icmp .ne 17, 3) := by decide +kernel
theorem dX7_writeForm_323 : decode cX7_writeForm 323 = .ok (.aload_n 0, 1) := by decide +kernel
theorem dX7_writeForm_324 : decode cX7_writeForm 324 = .ok (.aload_n 0, 1) := by decide +kernel
theorem dX7_writeForm_325 : decode cX7_writeForm 325 = .ok (.getfield 49, 3) := by decide +kernel
theorem dX7_writeForm_328 : decode cX7_writeForm 328 = .ok (.iload_n 2, 1) := by decide +kernel
theorem dX7_writeForm_329 : decode cX7_writeForm 329 = .ok (.iaload, 1) := by decide +kernel
theorem dX7_writeForm_330 : decode cX7_writeForm 330 = .ok (.iconst 1, 1) := by decide +kernel
theorem dX7_writeForm_331 : decode cX7_writeForm 331 = .ok (.invokevirtual 109, 3) := by decide +kernel
theorem dX7_writeForm_334 : decode cX7_writeForm 334 = .ok (.goto 13, 3) := by decide +kernel
theorem dX7_writeForm_337 : decode cX7_writeForm 337 = .ok (.aload_n 0, 1) := by decide +kernel
theorem dX7_writeForm_338 : decode cX7_writeForm 338 = .ok (.aload_n 0, 1) := by decide +kernel
theorem dX7_writeForm_339 : decode cX7_writeForm 339 = .ok (.getfield 49, 3) := by decide +kernel
theorem dX7_writeForm_342 : decode cX7_writeForm 342 = .ok (.iload_n 2, 1) := by decide +kernel
theorem dX7_writeForm_343 : decode cX7_writeForm 343 = .ok (.iaload, 1) := by decide +kernel
theorem dX7_writeForm_344 : decode cX7_writeForm 344 = .ok (.invokevirtual 99, 3) := by decide +kernel
theorem dX7_writeForm_347 : decode cX7_writeForm 347 = .ok (.iinc 2 (-1), 3) := by decide +kernel
theorem dX7_writeForm_350 : decode cX7_writeForm 350 = .ok (.goto (-56), 3) := by decide +kernel
theorem dX7_writeForm_353 : decode cX7_writeForm 353 = .ok (.return_, 1) := by decide +kernel
theorem dX7_write_0 : decode cX7_write 0 = .ok (.aload_n 0, 1) := by decide +kernel
theorem dX7_write_1 : decode cX7_write 1 = .ok (.iconst 0, 1) := by decide +kernel
theorem dX7_write_2 : decode cX7_write 2 = .ok (.putfield 62, 3) := by decide +kernel
theorem dX7_write_5 : decode cX7_write 5 = .ok (.aload_n 0, 1) := by decide +kernel
theorem dX7_write_6 : decode cX7_write 6 = .ok (.invokevirtual 155, 3) := by decide +kernel
theorem dX7_write_9 : decode cX7_write 9 = .ok (.ifCond .ne 6, 3) := by decide +kernel
theorem dX7_write_12 : decode cX7_write 12 = .ok (.bipush (-2), 2) := by decide +kernel
theorem dX7_write_14 : decode cX7_write 14 = .ok (.ireturn, 1) := by decide +kernel
theorem dX7_write_15 : decode cX7_write 15 = .ok (.aload_n 0, 1) := by decide +kernel
theorem dX7_write_16 : decode cX7_write 16 = .ok (.aload_n 0, 1) := by decide +kernel
theorem dX7_write_17 : decode cX7_write 17 = .ok (.getfield 91, 3) := by decide +kernel
theorem dX7_write_20 : decode cX7_write 20 = .ok (.invokevirtual 159, 3) := by decide +kernel
theorem dX7_write_23 : decode cX7_write 23 = .ok (.aload_n 0, 1) := by decide +kernel
theorem dX7_write_24 : decode cX7_write 24 = .ok (.getfield 96, 3) := by decide +kernel
theorem dX7_write_27 : decode cX7_write 27 = .ok (.ireturn, 1) := by decide +kernel
theorem dX7_fail_0 : decode cX7_fail 0 = .ok (.aload_n 0, 1) := by decide +kernel
theorem dX7_fail_1 : decode cX7_fail 1 = .ok (.getfield 162, 3) := by decide +kernel
theorem dX7_fail_4 : decode cX7_fail 4 = .ok (.ifCond .ne 8, 3) := by decide +kernel
theorem dX7_fail_7 : decode cX7_fail 7 = .ok (.aload_n 0, 1) := by decide +kernel
theorem dX7_fail_8 : decode cX7_fail 8 = .ok (.iload_n 1, 1) := by decide +kernel
theorem dX7_fail_9 : decode cX7_fail 9 = .ok (.putfield 162, 3) := by decide +kernel
theorem dX7_fail_12 : decode cX7_fail 12 = .ok (.return_, 1) := by decide +kernel
theorem dX7_next_0 : decode cX7_next 0 = .ok (.aload_n 0, 1) := by decide +kernel
theorem dX7_next_1 : decode cX7_next 1 = .ok (.getfield 162, 3) := by decide +kernel
theorem dX7_next_4 : decode cX7_next 4 = .ok (.ifCond .le 5, 3) := by decide +kernel
theorem dX7_next_7 : decode cX7_next 7 = .ok (.iconst 0, 1) := by decide +kernel
theorem dX7_next_8 : decode cX7_next 8 = .ok (.ireturn, 1) := by decide +kernel
theorem dX7_next_9 : decode cX7_next 9 = .ok (.aload_n 0, 1) := by decide +kernel
theorem dX7_next_10 : decode cX7_next 10 = .ok (.getfield 165, 3) := by decide +kernel
theorem dX7_next_13 : decode cX7_next 13 = .ok (.aload_n 0, 1) := by decide +kernel
theorem dX7_next_14 : decode cX7_next 14 = .ok (.getfield 96, 3) := by decide +kernel
theorem dX7_next_17 : decode cX7_next 17 = .ok (.if_icmp .lt 10, 3) := by decide +kernel
theorem dX7_next_20 : decode cX7_next 20 = .ok (.aload_n 0, 1) := by decide +kernel
theorem dX7_next_21 : decode cX7_next 21 = .ok (.iconst 1, 1) := by decide +kernel
theorem dX7_next_22 : decode cX7_next 22 = .ok (.invokevirtual 168, 3) := by decide +kernel
theorem dX7_next_25 : decode cX7_next 25 = .ok (.iconst 0, 1) := by decide +kernel
theorem dX7_next_26 : decode cX7_next 26 = .ok (.ireturn, 1) := by decide +kernel
theorem dX7_next_27 : decode cX7_next 27 = .ok (.aload_n 0, 1) := by decide +kernel
theorem dX7_next_28 : decode cX7_next 28 = .ok (.dup, 1) := by decide +kernel
theorem dX7_next_29 : decode cX7_next 29 = .ok (.getfield 165, 3) := by decide +kernel
theorem dX7_next_32 : decode cX7_next 32 = .ok (.iconst 1, 1) := by decide +kernel
theorem dX7_next_33 : decode cX7_next 33 = .ok (.iadd, 1) := by decide +kernel
theorem dX7_next_34 : decode cX7_next 34 = .ok (.putfield 165, 3) := by decide +kernel
theorem dX7_next_37 : decode cX7_next 37 = .ok (.aload_n 0, 1) := by decide +kernel
theorem dX7_next_38 : decode cX7_next 38 = .ok (.getfield 38, 3) := by decide +kernel
theorem dX7_next_41 : decode cX7_next 41 = .ok (.aload_n 0, 1) := by decide +kernel
theorem dX7_next_42 : decode cX7_next 42 = .ok (.getfield 165, 3) := by decide +kernel
theorem dX7_next_45 : decode cX7_next 45 = .ok (.iconst 1, 1) := by decide +kernel
theorem dX7_next_46 : decode cX7_next 46 = .ok (.isub, 1) := by decide +kernel
theorem dX7_next_47 : decode cX7_next 47 = .ok (.iaload, 1) := by decide +kernel
theorem dX7_next_48 : decode cX7_next 48 = .ok (.ireturn, 1) := by decide +kernel
theorem dX7_nextWide_0 : decode cX7_nextWide 0 = .ok (.lconst 0, 1) := by decide +kernel
theorem dX7_nextWide_1 : decode cX7_nextWide 1 = .ok (.lstore_n 2, 1) := by decide +kernel
theorem dX7_nextWide_2 : decode cX7_nextWide 2 = .ok (.iconst 0, 1) := by decide +kernel
theorem dX7_nextWide_3 : decode cX7_nextWide 3 = .ok (.istore 4, 2) := by decide +kernel
theorem dX7_nextWide_5 : decode cX7_nextWide 5 = .ok (.iload 4, 2) := by decide +kernel
theorem dX7_nextWide_7 : decode cX7_nextWide 7 = .ok (.iload_n 1, 1) := by decide +kernel
theorem dX7_nextWide_8 : decode cX7_nextWide 8 = .ok (.if_icmp .ge 20, 3) := by decide +kernel
theorem dX7_nextWide_11 : decode cX7_nextWide 11 = .ok (.lload_n 2, 1) := by decide +kernel
theorem dX7_nextWide_12 : decode cX7_nextWide 12 = .ok (.bipush 8, 2) := by decide +kernel
theorem dX7_nextWide_14 : decode cX7_nextWide 14 = .ok (.lshl, 1) := by decide +kernel
theorem dX7_nextWide_15 : decode cX7_nextWide 15 = .ok (.aload_n 0, 1) := by decide +kernel
theorem dX7_nextWide_16 : decode cX7_nextWide 16 = .ok (.invokevirtual 171, 3) := by decide +kernel
theorem dX7_nextWide_19 : decode cX7_nextWide 19 = .ok (.i2l, 1) := by decide +kernel
theorem dX7_nextWide_20 : decode cX7_nextWide 20 = .ok (.lor, 1) := by decide +kernel
theorem dX7_nextWide_21 : decode cX7_nextWide 21 = .ok (.lstore_n 2, 1) := by decide +kernel
theorem dX7_nextWide_22 : decode cX7_nextWide 22 = .ok (.iinc 4 1, 3) := by decide +kernel
theorem dX7_nextWide_25 : decode cX7_nextWide 25 = .ok (.goto (-20), 3) := by decide +kernel
theorem dX7_nextWide_28 : decode cX7_nextWide 28 = .ok (.lload_n 2, 1) := by decide +kernel
theorem dX7_nextWide_29 : decode cX7_nextWide 29 = .ok (.lreturn, 1) := by decide +kernel
theorem dX7_nextBit_0 : decode cX7_nextBit 0 = .ok (.aload_n 0, 1) := by decide +kernel
theorem dX7_nextBit_1 : decode cX7_nextBit 1 = .ok (.getfield 174, 3) := by decide +kernel
theorem dX7_nextBit_4 : decode cX7_nextBit 4 = .ok (.ifCond .ne 23, 3) := by decide +kernel
theorem dX7_nextBit_7 : decode cX7_nextBit 7 = .ok (.aload_n 0, 1) := by decide +kernel
theorem dX7_nextBit_8 : decode cX7_nextBit 8 = .ok (.invokevirtual 171, 3) := by decide +kernel
theorem dX7_nextBit_11 : decode cX7_nextBit 11 = .ok (.istore_n 1, 1) := by decide +kernel
theorem dX7_nextBit_12 : decode cX7_nextBit 12 = .ok (.aload_n 0, 1) := by decide +kernel
theorem dX7_nextBit_13 : decode cX7_nextBit 13 = .ok (.getfield 162, 3) := by decide +kernel
theorem dX7_nextBit_16 : decode cX7_nextBit 16 = .ok (.ifCond .le 5, 3) := by decide +kernel
theorem dX7_nextBit_19 : decode cX7_nextBit 19 = .ok (.iconst 0, 1) := by decide +kernel
theorem dX7_nextBit_20 : decode cX7_nextBit 20 = .ok (.ireturn, 1) := by decide +kernel
theorem dX7_nextBit_21 : decode cX7_nextBit 21 = .ok (.aload_n 0, 1) := by decide +kernel
theorem dX7_nextBit_22 : decode cX7_nextBit 22 = .ok (.bipush 8, 2) := by decide +kernel
theorem dX7_nextBit_24 : decode cX7_nextBit 24 = .ok (.putfield 174, 3) := by decide +kernel
theorem dX7_nextBit_27 : decode cX7_nextBit 27 = .ok (.aload_n 0, 1) := by decide +kernel
theorem dX7_nextBit_28 : decode cX7_nextBit 28 = .ok (.dup, 1) := by decide +kernel
theorem dX7_nextBit_29 : decode cX7_nextBit 29 = .ok (.getfield 174, 3) := by decide +kernel
theorem dX7_nextBit_32 : decode cX7_nextBit 32 = .ok (.iconst 1, 1) := by decide +kernel
theorem dX7_nextBit_33 : decode cX7_nextBit 33 = .ok (.isub, 1) := by decide +kernel
theorem dX7_nextBit_34 : decode cX7_nextBit 34 = .ok (.putfield 174, 3) := by decide +kernel
theorem dX7_nextBit_37 : decode cX7_nextBit 37 = .ok (.aload_n 0, 1) := by decide +kernel
theorem dX7_nextBit_38 : decode cX7_nextBit 38 = .ok (.getfield 38, 3) := by decide +kernel
theorem dX7_nextBit_41 : decode cX7_nextBit 41 = .ok (.aload_n 0, 1) := by decide +kernel
theorem dX7_nextBit_42 : decode cX7_nextBit 42 = .ok (.getfield 165, 3) := by decide +kernel
theorem dX7_nextBit_45 : decode cX7_nextBit 45 = .ok (.iconst 1, 1) := by decide +kernel
theorem dX7_nextBit_46 : decode cX7_nextBit 46 = .ok (.isub, 1) := by decide +kernel
theorem dX7_nextBit_47 : decode cX7_nextBit 47 = .ok (.iaload, 1) := by decide +kernel
theorem dX7_nextBit_48 : decode cX7_nextBit 48 = .ok (.aload_n 0, 1) := by decide +kernel
theorem dX7_nextBit_49 : decode cX7_nextBit 49 = .ok (.getfield 174, 3) := by decide +kernel
theorem dX7_nextBit_52 : decode cX7_nextBit 52 = .ok (.ishr, 1) := by decide +kernel
theorem dX7_nextBit_53 : decode cX7_nextBit 53 = .ok (.iconst 1, 1) := by decide +kernel
theorem dX7_nextBit_54 : decode cX7_nextBit 54 = .ok (.iand, 1) := by decide +kernel
theorem dX7_nextBit_55 : decode cX7_nextBit 55 = .ok (.ireturn, 1) := by decide +kernel
theorem dX7_readTable_0 : decode cX7_readTable 0 = .ok (.iconst 1, 1) := by decide +kernel
theorem dX7_readTable_1 : decode cX7_readTable 1 = .ok (.aload_n 0, 1) := by decide +kernel
theorem dX7_readTable_2 : decode cX7_readTable 2 = .ok (.getfield 26, 3) := by decide +kernel
theorem dX7_readTable_5 : decode cX7_readTable 5 = .ok (.iconst 1, 1) := by decide +kernel
theorem dX7_readTable_6 : decode cX7_readTable 6 = .ok (.iaload, 1) := by decide +kernel
theorem dX7_readTable_7 : decode cX7_readTable 7 = .ok (.ishl, 1) := by decide +kernel
theorem dX7_readTable_8 : decode cX7_readTable 8 = .ok (.istore_n 1, 1) := by decide +kernel
theorem dX7_readTable_9 : decode cX7_readTable 9 = .ok (.aload_n 0, 1) := by decide +kernel
theorem dX7_readTable_10 : decode cX7_readTable 10 = .ok (.iconst 0, 1) := by decide +kernel
theorem dX7_readTable_11 : decode cX7_readTable 11 = .ok (.putfield 174, 3) := by decide +kernel
theorem dX7_readTable_14 : decode cX7_readTable 14 = .ok (.iconst 0, 1) := by decide +kernel
theorem dX7_readTable_15 : decode cX7_readTable 15 = .ok (.istore_n 2, 1) := by decide +kernel
theorem dX7_readTable_16 : decode cX7_readTable 16 = .ok (.iload_n 2, 1) := by decide +kernel
theorem dX7_readTable_17 : decode cX7_readTable 17 = .ok (.bipush 32, 2) := by decide +kernel
theorem dX7_readTable_19 : decode cX7_readTable 19 = .ok (.if_icmp .ge 76, 3) := by decide +kernel
theorem dX7_readTable_22 : decode cX7_readTable 22 = .ok (.iconst 0, 1) := by decide +kernel
theorem dX7_readTable_23 : decode cX7_readTable 23 = .ok (.istore_n 3, 1) := by decide +kernel
theorem dX7_readTable_24 : decode cX7_readTable 24 = .ok (.iload_n 1, 1) := by decide +kernel
theorem dX7_readTable_25 : decode cX7_readTable 25 = .ok (.invokestatic 105, 3) := by decide +kernel
theorem dX7_readTable_28 : decode cX7_readTable 28 = .ok (.istore 4, 2) := by decide +kernel
theorem dX7_readTable_30 : decode cX7_readTable 30 = .ok (.iload 4, 2) := by decide +kernel
theorem dX7_readTable_32 : decode cX7_readTable 32 = .ok (.ifCond .le 18, 3) := by decide +kernel
theorem dX7_readTable_35 : decode cX7_readTable 35 = .ok (.iconst 2, 1) := by decide +kernel
theorem dX7_readTable_36 : decode cX7_readTable 36 = .ok (.iload_n 3, 1) := by decide +kernel
theorem dX7_readTable_37 : decode cX7_readTable 37 = .ok (.imul, 1) := by decide +kernel
theorem dX7_readTable_38 : decode cX7_readTable 38 = .ok (.aload_n 0, 1) := by decide +kernel
theorem dX7_readTable_39 : decode cX7_readTable 39 = .ok (.invokevirtual 177, 3) := by decide +kernel
theorem dX7_readTable_42 : decode cX7_readTable 42 = .ok (.iadd, 1) := by decide +kernel
theorem dX7_readTable_43 : decode cX7_readTable 43 = .ok (.istore_n 3, 1) := by decide +kernel
theorem dX7_readTable_44 : decode cX7_readTable 44 = .ok (.iinc 4 (-1), 3) := by decide +kernel
theorem dX7_readTable_47 : decode cX7_readTable 47 = .ok (.goto (-17), 3) := by decide +kernel
theorem dX7_readTable_50 : decode cX7_readTable 50 = .ok (.aload_n 0, 1) := by decide +kernel
theorem dX7_readTable_51 : decode cX7_readTable 51 = .ok (.getfield 162, 3) := by decide +kernel
theorem dX7_readTable_54 : decode cX7_readTable 54 = .ok (.ifCond .ne 13, 3) := by decide +kernel
theorem dX7_readTable_57 : decode cX7_readTable 57 = .ok (.iload_n 3, 1) := by decide +kernel
theorem dX7_readTable_58 : decode cX7_readTable 58 = .ok (.iload_n 1, 1) := by decide +kernel
theorem dX7_readTable_59 : decode cX7_readTable 59 = .ok (.if_icmp .le 8, 3) := by decide +kernel
theorem dX7_readTable_62 : decode cX7_readTable 62 = .ok (.aload_n 0, 1) := by decide +kernel
theorem dX7_readTable_63 : decode cX7_readTable 63 = .ok (.iconst 3, 1) := by decide +kernel
theorem dX7_readTable_64 : decode cX7_readTable 64 = .ok (.invokevirtual 168, 3) := by decide +kernel
theorem dX7_readTable_67 : decode cX7_readTable 67 = .ok (.aload_n 0, 1) := by decide +kernel
theorem dX7_readTable_68 : decode cX7_readTable 68 = .ok (.getfield 20, 3) := by decide +kernel
theorem dX7_readTable_71 : decode cX7_readTable 71 = .ok (.bipush 32, 2) := by decide +kernel
theorem dX7_readTable_73 : decode cX7_readTable 73 = .ok (.iload_n 2, 1) := by decide +kernel
theorem dX7_readTable_74 : decode cX7_readTable 74 = .ok (.iadd, 1) := by decide +kernel
theorem dX7_readTable_75 : decode cX7_readTable 75 = .ok (.iload_n 3, 1) := by decide +kernel
theorem dX7_readTable_76 : decode cX7_readTable 76 = .ok (.iastore, 1) := by decide +kernel
theorem dX7_readTable_77 : decode cX7_readTable 77 = .ok (.iload_n 1, 1) := by decide +kernel
theorem dX7_readTable_78 : decode cX7_readTable 78 = .ok (.iload_n 3, 1) := by decide +kernel
theorem dX7_readTable_79 : decode cX7_readTable 79 = .ok (.isub, 1) := by decide +kernel
theorem dX7_readTable_80 : decode cX7_readTable 80 = .ok (.istore_n 1, 1) := by decide +kernel
theorem dX7_readTable_81 : decode cX7_readTable 81 = .ok (.aload_n 0, 1) := by decide +kernel
theorem dX7_readTable_82 : decode cX7_readTable 82 = .ok (.getfield 162, 3) := by decide +kernel
theorem dX7_readTable_85 : decode cX7_readTable 85 = .ok (.ifCond .le 4, 3) := by decide +kernel
theorem dX7_readTable_88 : decode cX7_readTable 88 = .ok (.return_, 1) := by decide +kernel
theorem dX7_readTable_89 : decode cX7_readTable 89 = .ok (.iinc 2 1, 3) := by decide +kernel
theorem dX7_readTable_92 : decode cX7_readTable 92 = .ok (.goto (-76), 3) := by decide +kernel
theorem dX7_readTable_95 : decode cX7_readTable 95 = .ok (.iconst 1, 1) := by decide +kernel
theorem dX7_readTable_96 : decode cX7_readTable 96 = .ok (.istore_n 2, 1) := by decide +kernel
theorem dX7_readTable_97 : decode cX7_readTable 97 = .ok (.aload_n 0, 1) := by decide +kernel
theorem dX7_readTable_98 : decode cX7_readTable 98 = .ok (.getfield 174, 3) := by decide +kernel
theorem dX7_readTable_101 : decode cX7_readTable 101 = .ok (.ifCond .le 23, 3) := by decide +kernel
theorem dX7_readTable_104 : decode cX7_readTable 104 = .ok (.aload_n 0, 1) := by decide +kernel
theorem dX7_readTable_105 : decode cX7_readTable 105 = .ok (.invokevirtual 177, 3) := by decide +kernel
theorem dX7_readTable_108 : decode cX7_readTable 108 = .ok (.ifCond .ne 11, 3) := by decide +kernel
theorem dX7_readTable_111 : decode cX7_readTable 111 = .ok (.iload_n 2, 1) := by decide +kernel
theorem dX7_readTable_112 : decode cX7_readTable 112 = .ok (.ifCond .eq 7, 3) := by decide +kernel
theorem dX7_readTable_115 : decode cX7_readTable 115 = .ok (.iconst 1, 1) := by decide +kernel
theorem dX7_readTable_116 : decode cX7_readTable 116 = .ok (.goto 4, 3) := by decide +kernel
theorem dX7_readTable_119 : decode cX7_readTable 119 = .ok (.iconst 0, 1) := by decide +kernel
theorem dX7_readTable_120 : decode cX7_readTable 120 = .ok (.istore_n 2, 1) := by decide +kernel
theorem dX7_readTable_121 : decode cX7_readTable 121 = .ok (.goto (-24), 3) := by decide +kernel
theorem dX7_readTable_124 : decode cX7_readTable 124 = .ok (.iload_n 1, 1) := by decide +kernel
theorem dX7_readTable_125 : decode cX7_readTable 125 = .ok (.ifCond .gt 7, 3) := by decide +kernel
theorem dX7_readTable_128 : decode cX7_readTable 128 = .ok (.iload_n 2, 1) := by decide +kernel
theorem dX7_readTable_129 : decode cX7_readTable 129 = .ok (.ifCond .ne 8, 3) := by decide +kernel
theorem dX7_readTable_132 : decode cX7_readTable 132 = .ok (.aload_n 0, 1) := by decide +kernel
theorem dX7_readTable_133 : decode cX7_readTable 133 = .ok (.iconst 3, 1) := by decide +kernel
theorem dX7_readTable_134 : decode cX7_readTable 134 = .ok (.invokevirtual 168, 3) := by decide +kernel
theorem dX7_readTable_137 : decode cX7_readTable 137 = .ok (.return_, 1) := by decide +kernel

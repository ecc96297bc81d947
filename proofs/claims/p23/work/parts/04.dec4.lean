theorem dX5_putTable_0 : decode cX5_putTable 0 = .ok (.aload_n 1, 1) := by decide +kernel
theorem dX5_putTable_1 : decode cX5_putTable 1 = .ok (.getfield 35, 3) := by decide +kernel
theorem dX5_putTable_4 : decode cX5_putTable 4 = .ok (.istore_n 3, 1) := by decide +kernel
theorem dX5_putTable_5 : decode cX5_putTable 5 = .ok (.iconst 0, 1) := by decide +kernel
theorem dX5_putTable_6 : decode cX5_putTable 6 = .ok (.istore 4, 2) := by decide +kernel
theorem dX5_putTable_8 : decode cX5_putTable 8 = .ok (.iload 4, 2) := by decide +kernel
theorem dX5_putTable_10 : decode cX5_putTable 10 = .ok (.bipush 32, 2) := by decide +kernel
theorem dX5_putTable_12 : decode cX5_putTable 12 = .ok (.if_icmp .ge 36, 3) := by decide +kernel
theorem dX5_putTable_15 : decode cX5_putTable 15 = .ok (.iload_n 3, 1) := by decide +kernel
theorem dX5_putTable_16 : decode cX5_putTable 16 = .ok (.ifCond .le 32, 3) := by decide +kernel
theorem dX5_putTable_19 : decode cX5_putTable 19 = .ok (.aload_n 2, 1) := by decide +kernel
theorem dX5_putTable_20 : decode cX5_putTable 20 = .ok (.aload_n 1, 1) := by decide +kernel
theorem dX5_putTable_21 : decode cX5_putTable 21 = .ok (.iload 4, 2) := by decide +kernel
theorem dX5_putTable_23 : decode cX5_putTable 23 = .ok (.invokevirtual 96, 3) := by decide +kernel
theorem dX5_putTable_26 : decode cX5_putTable 26 = .ok (.iload_n 3, 1) := by decide +kernel
theorem dX5_putTable_27 : decode cX5_putTable 27 = .ok (.invokestatic 99, 3) := by decide +kernel
theorem dX5_putTable_30 : decode cX5_putTable 30 = .ok (.invokevirtual 102, 3) := by decide +kernel
theorem dX5_putTable_33 : decode cX5_putTable 33 = .ok (.iload_n 3, 1) := by decide +kernel
theorem dX5_putTable_34 : decode cX5_putTable 34 = .ok (.aload_n 1, 1) := by decide +kernel
theorem dX5_putTable_35 : decode cX5_putTable 35 = .ok (.iload 4, 2) := by decide +kernel
theorem dX5_putTable_37 : decode cX5_putTable 37 = .ok (.invokevirtual 96, 3) := by decide +kernel
theorem dX5_putTable_40 : decode cX5_putTable 40 = .ok (.isub, 1) := by decide +kernel
theorem dX5_putTable_41 : decode cX5_putTable 41 = .ok (.istore_n 3, 1) := by decide +kernel
theorem dX5_putTable_42 : decode cX5_putTable 42 = .ok (.iinc 4 1, 3) := by decide +kernel
theorem dX5_putTable_45 : decode cX5_putTable 45 = .ok (.goto (-37), 3) := by decide +kernel
theorem dX5_putTable_48 : decode cX5_putTable 48 = .ok (.return_, 1) := by decide +kernel
theorem dX5_writeRow_0 : decode cX5_writeRow 0 = .ok (.aload_n 0, 1) := by decide +kernel
theorem dX5_writeRow_1 : decode cX5_writeRow 1 = .ok (.iload 5, 2) := by decide +kernel
theorem dX5_writeRow_3 : decode cX5_writeRow 3 = .ok (.iconst 4, 1) := by decide +kernel
theorem dX5_writeRow_4 : decode cX5_writeRow 4 = .ok (.invokestatic 22, 3) := by decide +kernel
theorem dX5_writeRow_7 : decode cX5_writeRow 7 = .ok (.putfield 28, 3) := by decide +kernel
theorem dX5_writeRow_10 : decode cX5_writeRow 10 = .ok (.aload_n 0, 1) := by decide +kernel
theorem dX5_writeRow_11 : decode cX5_writeRow 11 = .ok (.getfield 18, 3) := by decide +kernel
theorem dX5_writeRow_14 : decode cX5_writeRow 14 = .ok (.invokevirtual 32, 3) := by decide +kernel
theorem dX5_writeRow_17 : decode cX5_writeRow 17 = .ok (.aload_n 0, 1) := by decide +kernel
theorem dX5_writeRow_18 : decode cX5_writeRow 18 = .ok (.getfield 9, 3) := by decide +kernel
theorem dX5_writeRow_21 : decode cX5_writeRow 21 = .ok (.iload 4, 2) := by decide +kernel
theorem dX5_writeRow_23 : decode cX5_writeRow 23 = .ok (.aload_n 3, 1) := by decide +kernel
theorem dX5_writeRow_24 : decode cX5_writeRow 24 = .ok (.getfield 35, 3) := by decide +kernel
theorem dX5_writeRow_27 : decode cX5_writeRow 27 = .ok (.invokestatic 40, 3) := by decide +kernel
theorem dX5_writeRow_30 : decode cX5_writeRow 30 = .ok (.invokestatic 44, 3) := by decide +kernel
theorem dX5_writeRow_33 : decode cX5_writeRow 33 = .ok (.iload 4, 2) := by decide +kernel
theorem dX5_writeRow_35 : decode cX5_writeRow 35 = .ok (.iconst 2, 1) := by decide +kernel
theorem dX5_writeRow_36 : decode cX5_writeRow 36 = .ok (.if_icmp .ne 7, 3) := by decide +kernel
theorem dX5_writeRow_39 : decode cX5_writeRow 39 = .ok (.aload_n 3, 1) := by decide +kernel
theorem dX5_writeRow_40 : decode cX5_writeRow 40 = .ok (.invokevirtual 50, 3) := by decide +kernel
theorem dX5_writeRow_43 : decode cX5_writeRow 43 = .ok (.iload_n 2, 1) := by decide +kernel
theorem dX5_writeRow_44 : decode cX5_writeRow 44 = .ok (.aload_n 1, 1) := by decide +kernel
theorem dX5_writeRow_45 : decode cX5_writeRow 45 = .ok (.arraylength, 1) := by decide +kernel
theorem dX5_writeRow_46 : decode cX5_writeRow 46 = .ok (.invokestatic 22, 3) := by decide +kernel
theorem dX5_writeRow_49 : decode cX5_writeRow 49 = .ok (.iconst 1, 1) := by decide +kernel
theorem dX5_writeRow_50 : decode cX5_writeRow 50 = .ok (.isub, 1) := by decide +kernel
theorem dX5_writeRow_51 : decode cX5_writeRow 51 = .ok (.istore 7, 2) := by decide +kernel
theorem dX5_writeRow_53 : decode cX5_writeRow 53 = .ok (.iload 7, 2) := by decide +kernel
theorem dX5_writeRow_55 : decode cX5_writeRow 55 = .ok (.ifCond .lt 36, 3) := by decide +kernel
theorem dX5_writeRow_58 : decode cX5_writeRow 58 = .ok (.aload_n 0, 1) := by decide +kernel
theorem dX5_writeRow_59 : decode cX5_writeRow 59 = .ok (.getfield 18, 3) := by decide +kernel
theorem dX5_writeRow_62 : decode cX5_writeRow 62 = .ok (.invokevirtual 53, 3) := by decide +kernel
theorem dX5_writeRow_65 : decode cX5_writeRow 65 = .ok (.aload_n 0, 1) := by decide +kernel
theorem dX5_writeRow_66 : decode cX5_writeRow 66 = .ok (.iload 4, 2) := by decide +kernel
theorem dX5_writeRow_68 : decode cX5_writeRow 68 = .ok (.iload 7, 2) := by decide +kernel
theorem dX5_writeRow_70 : decode cX5_writeRow 70 = .ok (.aload_n 0, 1) := by decide +kernel
theorem dX5_writeRow_71 : decode cX5_writeRow 71 = .ok (.getfield 28, 3) := by decide +kernel
theorem dX5_writeRow_74 : decode cX5_writeRow 74 = .ok (.iconst 1, 1) := by decide +kernel
theorem dX5_writeRow_75 : decode cX5_writeRow 75 = .ok (.isub, 1) := by decide +kernel
theorem dX5_writeRow_76 : decode cX5_writeRow 76 = .ok (.iand, 1) := by decide +kernel
theorem dX5_writeRow_77 : decode cX5_writeRow 77 = .ok (.aload_n 1, 1) := by decide +kernel
theorem dX5_writeRow_78 : decode cX5_writeRow 78 = .ok (.iload 7, 2) := by decide +kernel
theorem dX5_writeRow_80 : decode cX5_writeRow 80 = .ok (.iaload, 1) := by decide +kernel
theorem dX5_writeRow_81 : decode cX5_writeRow 81 = .ok (.aload_n 3, 1) := by decide +kernel
theorem dX5_writeRow_82 : decode cX5_writeRow 82 = .ok (.invokevirtual 56, 3) := by decide +kernel
theorem dX5_writeRow_85 : decode cX5_writeRow 85 = .ok (.iinc 7 (-1), 3) := by decide +kernel
theorem dX5_writeRow_88 : decode cX5_writeRow 88 = .ok (.goto (-35), 3) := by decide +kernel
theorem dX5_writeRow_91 : decode cX5_writeRow 91 = .ok (.aload 6, 2) := by decide +kernel
theorem dX5_writeRow_93 : decode cX5_writeRow 93 = .ok (.invokevirtual 60, 3) := by decide +kernel
theorem dX5_writeRow_96 : decode cX5_writeRow 96 = .ok (.aload_n 0, 1) := by decide +kernel
theorem dX5_writeRow_97 : decode cX5_writeRow 97 = .ok (.iload 4, 2) := by decide +kernel
theorem dX5_writeRow_99 : decode cX5_writeRow 99 = .ok (.iload_n 2, 1) := by decide +kernel
theorem dX5_writeRow_100 : decode cX5_writeRow 100 = .ok (.aload_n 3, 1) := by decide +kernel
theorem dX5_writeRow_101 : decode cX5_writeRow 101 = .ok (.aload 6, 2) := by decide +kernel
theorem dX5_writeRow_103 : decode cX5_writeRow 103 = .ok (.invokevirtual 65, 3) := by decide +kernel
theorem dX5_writeRow_106 : decode cX5_writeRow 106 = .ok (.aload_n 0, 1) := by decide +kernel
theorem dX5_writeRow_107 : decode cX5_writeRow 107 = .ok (.aload_n 3, 1) := by decide +kernel
theorem dX5_writeRow_108 : decode cX5_writeRow 108 = .ok (.aload 6, 2) := by decide +kernel
theorem dX5_writeRow_110 : decode cX5_writeRow 110 = .ok (.invokevirtual 69, 3) := by decide +kernel
theorem dX5_writeRow_113 : decode cX5_writeRow 113 = .ok (.iconst 0, 1) := by decide +kernel
theorem dX5_writeRow_114 : decode cX5_writeRow 114 = .ok (.istore 7, 2) := by decide +kernel
theorem dX5_writeRow_116 : decode cX5_writeRow 116 = .ok (.iload 7, 2) := by decide +kernel
theorem dX5_writeRow_118 : decode cX5_writeRow 118 = .ok (.aload_n 0, 1) := by decide +kernel
theorem dX5_writeRow_119 : decode cX5_writeRow 119 = .ok (.getfield 28, 3) := by decide +kernel
theorem dX5_writeRow_122 : decode cX5_writeRow 122 = .ok (.if_icmp .ge 26, 3) := by decide +kernel
theorem dX5_writeRow_125 : decode cX5_writeRow 125 = .ok (.aload 6, 2) := by decide +kernel
theorem dX5_writeRow_127 : decode cX5_writeRow 127 = .ok (.aload_n 0, 1) := by decide +kernel
theorem dX5_writeRow_128 : decode cX5_writeRow 128 = .ok (.getfield 9, 3) := by decide +kernel
theorem dX5_writeRow_131 : decode cX5_writeRow 131 = .ok (.iload 7, 2) := by decide +kernel
theorem dX5_writeRow_133 : decode cX5_writeRow 133 = .ok (.laload, 1) := by decide +kernel
theorem dX5_writeRow_134 : decode cX5_writeRow 134 = .ok (.iload 4, 2) := by decide +kernel
theorem dX5_writeRow_136 : decode cX5_writeRow 136 = .ok (.invokestatic 73, 3) := by decide +kernel
theorem dX5_writeRow_139 : decode cX5_writeRow 139 = .ok (.invokevirtual 77, 3) := by decide +kernel
theorem dX5_writeRow_142 : decode cX5_writeRow 142 = .ok (.iinc 7 1, 3) := by decide +kernel
theorem dX5_writeRow_145 : decode cX5_writeRow 145 = .ok (.goto (-29), 3) := by decide +kernel
theorem dX5_writeRow_148 : decode cX5_writeRow 148 = .ok (.aload_n 0, 1) := by decide +kernel
theorem dX5_writeRow_149 : decode cX5_writeRow 149 = .ok (.getfield 18, 3) := by decide +kernel
theorem dX5_writeRow_152 : decode cX5_writeRow 152 = .ok (.aload 6, 2) := by decide +kernel
theorem dX5_writeRow_154 : decode cX5_writeRow 154 = .ok (.invokevirtual 81, 3) := by decide +kernel
theorem dX5_writeRow_157 : decode cX5_writeRow 157 = .ok (.aload_n 0, 1) := by decide +kernel
theorem dX5_writeRow_158 : decode cX5_writeRow 158 = .ok (.iconst 1, 1) := by decide +kernel
theorem dX5_writeRow_159 : decode cX5_writeRow 159 = .ok (.putfield 85, 3) := by decide +kernel
theorem dX5_writeRow_162 : decode cX5_writeRow 162 = .ok (.return_, 1) := by decide +kernel
theorem dX6_add_0 : decode cX6_add 0 = .ok (.iload_n 1, 1) := by decide +kernel
theorem dX6_add_1 : decode cX6_add 1 = .ok (.invokestatic 69, 3) := by decide +kernel
theorem dX6_add_4 : decode cX6_add 4 = .ok (.ifCond .ne 5, 3) := by decide +kernel
theorem dX6_add_7 : decode cX6_add 7 = .ok (.iconst (-1), 1) := by decide +kernel
theorem dX6_add_8 : decode cX6_add 8 = .ok (.ireturn, 1) := by decide +kernel
theorem dX6_add_9 : decode cX6_add 9 = .ok (.aload_n 0, 1) := by decide +kernel
theorem dX6_add_10 : decode cX6_add 10 = .ok (.aload_n 0, 1) := by decide +kernel
theorem dX6_add_11 : decode cX6_add 11 = .ok (.getfield 59, 3) := by decide +kernel
theorem dX6_add_14 : decode cX6_add 14 = .ok (.aload_n 0, 1) := by decide +kernel
theorem dX6_add_15 : decode cX6_add 15 = .ok (.getfield 73, 3) := by decide +kernel
theorem dX6_add_18 : decode cX6_add 18 = .ok (.sipush 1000, 3) := by decide +kernel
theorem dX6_add_21 : decode cX6_add 21 = .ok (.invokestatic 76, 3) := by decide +kernel
theorem dX6_add_24 : decode cX6_add 24 = .ok (.putfield 59, 3) := by decide +kernel
theorem dX6_add_27 : decode cX6_add 27 = .ok (.aload_n 0, 1) := by decide +kernel
theorem dX6_add_28 : decode cX6_add 28 = .ok (.getfield 73, 3) := by decide +kernel
theorem dX6_add_31 : decode cX6_add 31 = .ok (.aload_n 0, 1) := by decide +kernel
theorem dX6_add_32 : decode cX6_add 32 = .ok (.getfield 59, 3) := by decide +kernel
theorem dX6_add_35 : decode cX6_add 35 = .ok (.arraylength, 1) := by decide +kernel
theorem dX6_add_36 : decode cX6_add 36 = .ok (.if_icmp .lt 6, 3) := by decide +kernel
theorem dX6_add_39 : decode cX6_add 39 = .ok (.bipush (-3), 2) := by decide +kernel
theorem dX6_add_41 : decode cX6_add 41 = .ok (.ireturn, 1) := by decide +kernel
theorem dX6_add_42 : decode cX6_add 42 = .ok (.aload_n 0, 1) := by decide +kernel
theorem dX6_add_43 : decode cX6_add 43 = .ok (.getfield 59, 3) := by decide +kernel
theorem dX6_add_46 : decode cX6_add 46 = .ok (.aload_n 0, 1) := by decide +kernel
theorem dX6_add_47 : decode cX6_add 47 = .ok (.getfield 73, 3) := by decide +kernel
theorem dX6_add_50 : decode cX6_add 50 = .ok (.iload_n 1, 1) := by decide +kernel
theorem dX6_add_51 : decode cX6_add 51 = .ok (.iastore, 1) := by decide +kernel
theorem dX6_add_52 : decode cX6_add 52 = .ok (.aload_n 0, 1) := by decide +kernel
theorem dX6_add_53 : decode cX6_add 53 = .ok (.dup, 1) := by decide +kernel
theorem dX6_add_54 : decode cX6_add 54 = .ok (.getfield 73, 3) := by decide +kernel
theorem dX6_add_57 : decode cX6_add 57 = .ok (.iconst 1, 1) := by decide +kernel
theorem dX6_add_58 : decode cX6_add 58 = .ok (.iadd, 1) := by decide +kernel
theorem dX6_add_59 : decode cX6_add 59 = .ok (.putfield 73, 3) := by decide +kernel
theorem dX6_add_62 : decode cX6_add 62 = .ok (.aload_n 0, 1) := by decide +kernel
theorem dX6_add_63 : decode cX6_add 63 = .ok (.getfield 73, 3) := by decide +kernel
theorem dX6_add_66 : decode cX6_add 66 = .ok (.ireturn, 1) := by decide +kernel
theorem dX6_clear_0 : decode cX6_clear 0 = .ok (.aload_n 0, 1) := by decide +kernel
theorem dX6_clear_1 : decode cX6_clear 1 = .ok (.getfield 73, 3) := by decide +kernel
theorem dX6_clear_4 : decode cX6_clear 4 = .ok (.istore_n 1, 1) := by decide +kernel
theorem dX6_clear_5 : decode cX6_clear 5 = .ok (.aload_n 0, 1) := by decide +kernel
theorem dX6_clear_6 : decode cX6_clear 6 = .ok (.iconst 0, 1) := by decide +kernel
theorem dX6_clear_7 : decode cX6_clear 7 = .ok (.putfield 73, 3) := by decide +kernel
theorem dX6_clear_10 : decode cX6_clear 10 = .ok (.iload_n 1, 1) := by decide +kernel
theorem dX6_clear_11 : decode cX6_clear 11 = .ok (.ireturn, 1) := by decide +kernel
theorem dX6_count_0 : decode cX6_count 0 = .ok (.iload_n 1, 1) := by decide +kernel
theorem dX6_count_1 : decode cX6_count 1 = .ok (.invokestatic 69, 3) := by decide +kernel
theorem dX6_count_4 : decode cX6_count 4 = .ok (.ifCond .eq 13, 3) := by decide +kernel
theorem dX6_count_7 : decode cX6_count 7 = .ok (.iload_n 2, 1) := by decide +kernel
theorem dX6_count_8 : decode cX6_count 8 = .ok (.ifCond .lt 9, 3) := by decide +kernel
theorem dX6_count_11 : decode cX6_count 11 = .ok (.iload_n 2, 1) := by decide +kernel
theorem dX6_count_12 : decode cX6_count 12 = .ok (.ldc 80, 2) := by decide +kernel
theorem dX6_count_14 : decode cX6_count 14 = .ok (.if_icmp .le 5, 3) := by decide +kernel
theorem dX6_count_17 : decode cX6_count 17 = .ok (.iconst (-1), 1) := by decide +kernel
theorem dX6_count_18 : decode cX6_count 18 = .ok (.ireturn, 1) := by decide +kernel
theorem dX6_count_19 : decode cX6_count 19 = .ok (.aload_n 0, 1) := by decide +kernel
theorem dX6_count_20 : decode cX6_count 20 = .ok (.getfield 55, 3) := by decide +kernel
theorem dX6_count_23 : decode cX6_count 23 = .ok (.iload_n 1, 1) := by decide +kernel
theorem dX6_count_24 : decode cX6_count 24 = .ok (.iaload, 1) := by decide +kernel
theorem dX6_count_25 : decode cX6_count 25 = .ok (.istore_n 3, 1) := by decide +kernel
theorem dX6_count_26 : decode cX6_count 26 = .ok (.aload_n 0, 1) := by decide +kernel
theorem dX6_count_27 : decode cX6_count 27 = .ok (.getfield 55, 3) := by decide +kernel
theorem dX6_count_30 : decode cX6_count 30 = .ok (.iload_n 1, 1) := by decide +kernel
theorem dX6_count_31 : decode cX6_count 31 = .ok (.iload_n 2, 1) := by decide +kernel
theorem dX6_count_32 : decode cX6_count 32 = .ok (.iastore, 1) := by decide +kernel
theorem dX6_count_33 : decode cX6_count 33 = .ok (.aload_n 0, 1) := by decide +kernel
theorem dX6_count_34 : decode cX6_count 34 = .ok (.getfield 30, 3) := by decide +kernel
theorem dX6_count_37 : decode cX6_count 37 = .ok (.invokevirtual 81, 3) := by decide +kernel
theorem dX6_count_40 : decode cX6_count 40 = .ok (.iload_n 3, 1) := by decide +kernel
theorem dX6_count_41 : decode cX6_count 41 = .ok (.ireturn, 1) := by decide +kernel
theorem dX6_counts_0 : decode cX6_counts 0 = .ok (.aload_n 0, 1) := by decide +kernel
theorem dX6_counts_1 : decode cX6_counts 1 = .ok (.getfield 55, 3) := by decide +kernel
theorem dX6_counts_4 : decode cX6_counts 4 = .ok (.iconst 0, 1) := by decide +kernel
theorem dX6_counts_5 : decode cX6_counts 5 = .ok (.invokestatic 84, 3) := by decide +kernel
theorem dX6_counts_8 : decode cX6_counts 8 = .ok (.iconst 0, 1) := by decide +kernel
theorem dX6_counts_9 : decode cX6_counts 9 = .ok (.istore_n 1, 1) := by decide +kernel
theorem dX6_counts_10 : decode cX6_counts 10 = .ok (.iload_n 1, 1) := by decide +kernel
theorem dX6_counts_11 : decode cX6_counts 11 = .ok (.aload_n 0, 1) := by decide +kernel
theorem dX6_counts_12 : decode cX6_counts 12 = .ok (.getfield 73, 3) := by decide +kernel
theorem dX6_counts_15 : decode cX6_counts 15 = .ok (.if_icmp .ge 45, 3) := by decide +kernel
theorem dX6_counts_18 : decode cX6_counts 18 = .ok (.iload_n 1, 1) := by decide +kernel
theorem dX6_counts_19 : decode cX6_counts 19 = .ok (.aload_n 0, 1) := by decide +kernel
theorem dX6_counts_20 : decode cX6_counts 20 = .ok (.getfield 59, 3) := by decide +kernel
theorem dX6_counts_23 : decode cX6_counts 23 = .ok (.arraylength, 1) := by decide +kernel
theorem dX6_counts_24 : decode cX6_counts 24 = .ok (.if_icmp .ge 36, 3) := by decide +kernel
theorem dX6_counts_27 : decode cX6_counts 27 = .ok (.aload_n 0, 1) := by decide +kernel
theorem dX6_counts_28 : decode cX6_counts 28 = .ok (.getfield 59, 3) := by decide +kernel
theorem dX6_counts_31 : decode cX6_counts 31 = .ok (.iload_n 1, 1) := by decide +kernel
theorem dX6_counts_32 : decode cX6_counts 32 = .ok (.iaload, 1) := by decide +kernel
theorem dX6_counts_33 : decode cX6_counts 33 = .ok (.invokestatic 69, 3) := by decide +kernel
theorem dX6_counts_36 : decode cX6_counts 36 = .ok (.ifCond .eq 18, 3) := by decide +kernel
theorem dX6_counts_39 : decode cX6_counts 39 = .ok (.aload_n 0, 1) := by decide +kernel
theorem dX6_counts_40 : decode cX6_counts 40 = .ok (.getfield 55, 3) := by decide +kernel
theorem dX6_counts_43 : decode cX6_counts 43 = .ok (.aload_n 0, 1) := by decide +kernel
theorem dX6_counts_44 : decode cX6_counts 44 = .ok (.getfield 59, 3) := by decide +kernel
theorem dX6_counts_47 : decode cX6_counts 47 = .ok (.iload_n 1, 1) := by decide +kernel
theorem dX6_counts_48 : decode cX6_counts 48 = .ok (.iaload, 1) := by decide +kernel
theorem dX6_counts_49 : decode cX6_counts 49 = .ok (.dup2, 1) := by decide +kernel
theorem dX6_counts_50 : decode cX6_counts 50 = .ok (.iaload, 1) := by decide +kernel
theorem dX6_counts_51 : decode cX6_counts 51 = .ok (.iconst 1, 1) := by decide +kernel
theorem dX6_counts_52 : decode cX6_counts 52 = .ok (.iadd, 1) := by decide +kernel
theorem dX6_counts_53 : decode cX6_counts 53 = .ok (.iastore, 1) := by decide +kernel
theorem dX6_counts_54 : decode cX6_counts 54 = .ok (.iinc 1 1, 3) := by decide +kernel
theorem dX6_counts_57 : decode cX6_counts 57 = .ok (.goto (-47), 3) := by decide +kernel
theorem dX6_counts_60 : decode cX6_counts 60 = .ok (.aload_n 0, 1) := by decide +kernel
theorem dX6_counts_61 : decode cX6_counts 61 = .ok (.getfield 30, 3) := by decide +kernel
theorem dX6_counts_64 : decode cX6_counts 64 = .ok (.invokevirtual 81, 3) := by decide +kernel
theorem dX6_counts_67 : decode cX6_counts 67 = .ok (.iconst 0, 1) := by decide +kernel
theorem dX6_counts_68 : decode cX6_counts 68 = .ok (.istore_n 1, 1) := by decide +kernel
theorem dX6_counts_69 : decode cX6_counts 69 = .ok (.iconst 0, 1) := by decide +kernel
theorem dX6_counts_70 : decode cX6_counts 70 = .ok (.istore_n 2, 1) := by decide +kernel
theorem dX6_counts_71 : decode cX6_counts 71 = .ok (.iload_n 2, 1) := by decide +kernel
theorem dX6_counts_72 : decode cX6_counts 72 = .ok (.bipush 32, 2) := by decide +kernel
theorem dX6_counts_74 : decode cX6_counts 74 = .ok (.if_icmp .ge 26, 3) := by decide +kernel
theorem dX6_counts_77 : decode cX6_counts 77 = .ok (.iload_n 1, 1) := by decide +kernel
theorem dX6_counts_78 : decode cX6_counts 78 = .ok (.aload_n 0, 1) := by decide +kernel
theorem dX6_counts_79 : decode cX6_counts 79 = .ok (.getfield 55, 3) := by decide +kernel
theorem dX6_counts_82 : decode cX6_counts 82 = .ok (.iload_n 2, 1) := by decide +kernel
theorem dX6_counts_83 : decode cX6_counts 83 = .ok (.iaload, 1) := by decide +kernel
theorem dX6_counts_84 : decode cX6_counts 84 = .ok (.ifCond .le 7, 3) := by decide +kernel
theorem dX6_counts_87 : decode cX6_counts 87 = .ok (.iconst 1, 1) := by decide +kernel
theorem dX6_counts_88 : decode cX6_counts 88 = .ok (.goto 4, 3) := by decide +kernel
theorem dX6_counts_91 : decode cX6_counts 91 = .ok (.iconst 0, 1) := by decide +kernel
theorem dX6_counts_92 : decode cX6_counts 92 = .ok (.iadd, 1) := by decide +kernel
theorem dX6_counts_93 : decode cX6_counts 93 = .ok (.istore_n 1, 1) := by decide +kernel
theorem dX6_counts_94 : decode cX6_counts 94 = .ok (.iinc 2 1, 3) := by decide +kernel
theorem dX6_counts_97 : decode cX6_counts 97 = .ok (.goto (-26), 3) := by decide +kernel
theorem dX6_counts_100 : decode cX6_counts 100 = .ok (.iload_n 1, 1) := by decide +kernel
theorem dX6_counts_101 : decode cX6_counts 101 = .ok (.ireturn, 1) := by decide +kernel
theorem dX6_normal_0 : decode cX6_normal 0 = .ok (.aload_n 0, 1) := by decide +kernel
theorem dX6_normal_1 : decode cX6_normal 1 = .ok (.getfield 30, 3) := by decide +kernel
theorem dX6_normal_4 : decode cX6_normal 4 = .ok (.getfield 90, 3) := by decide +kernel
theorem dX6_normal_7 : decode cX6_normal 7 = .ok (.ifCond .ne 18, 3) := by decide +kernel
theorem dX6_normal_10 : decode cX6_normal 10 = .ok (.aload_n 0, 1) := by decide +kernel
theorem dX6_normal_11 : decode cX6_normal 11 = .ok (.getfield 30, 3) := by decide +kernel
theorem dX6_normal_14 : decode cX6_normal 14 = .ok (.aload_n 0, 1) := by decide +kernel
theorem dX6_normal_15 : decode cX6_normal 15 = .ok (.getfield 55, 3) := by decide +kernel
theorem dX6_normal_18 : decode cX6_normal 18 = .ok (.aload_n 0, 1) := by decide +kernel
theorem dX6_normal_19 : decode cX6_normal 19 = .ok (.getfield 23, 3) := by decide +kernel
theorem dX6_normal_22 : decode cX6_normal 22 = .ok (.invokevirtual 94, 3) := by decide +kernel
theorem dX6_normal_25 : decode cX6_normal 25 = .ok (.aload_n 0, 1) := by decide +kernel
theorem dX6_normal_26 : decode cX6_normal 26 = .ok (.getfield 30, 3) := by decide +kernel
theorem dX6_normal_29 : decode cX6_normal 29 = .ok (.getfield 90, 3) := by decide +kernel
theorem dX6_normal_32 : decode cX6_normal 32 = .ok (.ifCond .eq 13, 3) := by decide +kernel
theorem dX6_normal_35 : decode cX6_normal 35 = .ok (.aload_n 0, 1) := by decide +kernel
theorem dX6_normal_36 : decode cX6_normal 36 = .ok (.getfield 30, 3) := by decide +kernel
theorem dX6_normal_39 : decode cX6_normal 39 = .ok (.invokevirtual 98, 3) := by decide +kernel
theorem dX6_normal_42 : decode cX6_normal 42 = .ok (.goto 5, 3) := by decide +kernel
theorem dX6_normal_45 : decode cX6_normal 45 = .ok (.bipush (-2), 2) := by decide +kernel
theorem dX6_normal_47 : decode cX6_normal 47 = .ok (.ireturn, 1) := by decide +kernel
theorem dX6_share_0 : decode cX6_share 0 = .ok (.iload_n 1, 1) := by decide +kernel
theorem dX6_share_1 : decode cX6_share 1 = .ok (.invokestatic 69, 3) := by decide +kernel
theorem dX6_share_4 : decode cX6_share 4 = .ok (.ifCond .eq 14, 3) := by decide +kernel
theorem dX6_share_7 : decode cX6_share 7 = .ok (.aload_n 0, 1) := by decide +kernel
theorem dX6_share_8 : decode cX6_share 8 = .ok (.getfield 30, 3) := by decide +kernel
theorem dX6_share_11 : decode cX6_share 11 = .ok (.iload_n 1, 1) := by decide +kernel
theorem dX6_share_12 : decode cX6_share 12 = .ok (.invokevirtual 102, 3) := by decide +kernel
theorem dX6_share_15 : decode cX6_share 15 = .ok (.goto 4, 3) := by decide +kernel
theorem dX6_share_18 : decode cX6_share 18 = .ok (.iconst (-1), 1) := by decide +kernel
theorem dX6_share_19 : decode cX6_share 19 = .ok (.ireturn, 1) := by decide +kernel
theorem dX6_loss_0 : decode cX6_loss 0 = .ok (.aload_n 0, 1) := by decide +kernel
theorem dX6_loss_1 : decode cX6_loss 1 = .ok (.getfield 30, 3) := by decide +kernel
theorem dX6_loss_4 : decode cX6_loss 4 = .ok (.getfield 90, 3) := by decide +kernel
theorem dX6_loss_7 : decode cX6_loss 7 = .ok (.ifCond .ne 7, 3) := by decide +kernel
theorem dX6_loss_10 : decode cX6_loss 10 = .ok (.ldc2_w 106, 3) := by decide +kernel
theorem dX6_loss_13 : decode cX6_loss 13 = .ok (.lreturn, 1) := by decide +kernel
theorem dX6_loss_14 : decode cX6_loss 14 = .ok (.lconst 0, 1) := by decide +kernel
theorem dX6_loss_15 : decode cX6_loss 15 = .ok (.lstore_n 1, 1) := by decide +kernel
theorem dX6_loss_16 : decode cX6_loss 16 = .ok (.iconst 0, 1) := by decide +kernel
theorem dX6_loss_17 : decode cX6_loss 17 = .ok (.istore_n 3, 1) := by decide +kernel
theorem dX6_loss_18 : decode cX6_loss 18 = .ok (.iload_n 3, 1) := by decide +kernel
theorem dX6_loss_19 : decode cX6_loss 19 = .ok (.bipush 32, 2) := by decide +kernel
theorem dX6_loss_21 : decode cX6_loss 21 = .ok (.if_icmp .ge 59, 3) := by decide +kernel
theorem dX6_loss_24 : decode cX6_loss 24 = .ok (.aload_n 0, 1) := by decide +kernel
theorem dX6_loss_25 : decode cX6_loss 25 = .ok (.getfield 55, 3) := by decide +kernel
theorem dX6_loss_28 : decode cX6_loss 28 = .ok (.iload_n 3, 1) := by decide +kernel
theorem dX6_loss_29 : decode cX6_loss 29 = .ok (.iaload, 1) := by decide +kernel
theorem dX6_loss_30 : decode cX6_loss 30 = .ok (.ifCond .le 44, 3) := by decide +kernel
theorem dX6_loss_33 : decode cX6_loss 33 = .ok (.lload_n 1, 1) := by decide +kernel
theorem dX6_loss_34 : decode cX6_loss 34 = .ok (.aload_n 0, 1) := by decide +kernel
theorem dX6_loss_35 : decode cX6_loss 35 = .ok (.getfield 55, 3) := by decide +kernel
theorem dX6_loss_38 : decode cX6_loss 38 = .ok (.iload_n 3, 1) := by decide +kernel
theorem dX6_loss_39 : decode cX6_loss 39 = .ok (.iaload, 1) := by decide +kernel
theorem dX6_loss_40 : decode cX6_loss 40 = .ok (.i2l, 1) := by decide +kernel
theorem dX6_loss_41 : decode cX6_loss 41 = .ok (.aload_n 0, 1) := by decide +kernel
theorem dX6_loss_42 : decode cX6_loss 42 = .ok (.getfield 23, 3) := by decide +kernel
theorem dX6_loss_45 : decode cX6_loss 45 = .ok (.aload_n 0, 1) := by decide +kernel
theorem dX6_loss_46 : decode cX6_loss 46 = .ok (.getfield 30, 3) := by decide +kernel
theorem dX6_loss_49 : decode cX6_loss 49 = .ok (.getfield 108, 3) := by decide +kernel
theorem dX6_loss_52 : decode cX6_loss 52 = .ok (.invokevirtual 111, 3) := by decide +kernel
theorem dX6_loss_55 : decode cX6_loss 55 = .ok (.aload_n 0, 1) := by decide +kernel
theorem dX6_loss_56 : decode cX6_loss 56 = .ok (.getfield 23, 3) := by decide +kernel
theorem dX6_loss_59 : decode cX6_loss 59 = .ok (.aload_n 0, 1) := by decide +kernel
theorem dX6_loss_60 : decode cX6_loss 60 = .ok (.getfield 30, 3) := by decide +kernel
theorem dX6_loss_63 : decode cX6_loss 63 = .ok (.iload_n 3, 1) := by decide +kernel
theorem dX6_loss_64 : decode cX6_loss 64 = .ok (.invokevirtual 102, 3) := by decide +kernel
theorem dX6_loss_67 : decode cX6_loss 67 = .ok (.invokevirtual 111, 3) := by decide +kernel
theorem dX6_loss_70 : decode cX6_loss 70 = .ok (.lsub, 1) := by decide +kernel
theorem dX6_loss_71 : decode cX6_loss 71 = .ok (.lmul, 1) := by decide +kernel
theorem dX6_loss_72 : decode cX6_loss 72 = .ok (.ladd, 1) := by decide +kernel
theorem dX6_loss_73 : decode cX6_loss 73 = .ok (.lstore_n 1, 1) := by decide +kernel
theorem dX6_loss_74 : decode cX6_loss 74 = .ok (.iinc 3 1, 3) := by decide +kernel
theorem dX6_loss_77 : decode cX6_loss 77 = .ok (.goto (-59), 3) := by decide +kernel
theorem dX6_loss_80 : decode cX6_loss 80 = .ok (.lload_n 1, 1) := by decide +kernel
theorem dX6_loss_81 : decode cX6_loss 81 = .ok (.lreturn, 1) := by decide +kernel
theorem dX6_lg_0 : decode cX6_lg 0 = .ok (.aload_n 0, 1) := by decide +kernel
theorem dX6_lg_1 : decode cX6_lg 1 = .ok (.getfield 23, 3) := by decide +kernel
theorem dX6_lg_4 : decode cX6_lg 4 = .ok (.iload_n 1, 1) := by decide +kernel
theorem dX6_lg_5 : decode cX6_lg 5 = .ok (.invokevirtual 111, 3) := by decide +kernel
theorem dX6_lg_8 : decode cX6_lg 8 = .ok (.lreturn, 1) := by decide +kernel
theorem dX6_form_0 : decode cX6_form 0 = .ok (.iload_n 1, 1) := by decide +kernel
theorem dX6_form_1 : decode cX6_form 1 = .ok (.ifCond .lt 8, 3) := by decide +kernel
theorem dX6_form_4 : decode cX6_form 4 = .ok (.iload_n 1, 1) := by decide +kernel
theorem dX6_form_5 : decode cX6_form 5 = .ok (.iconst 3, 1) := by decide +kernel
theorem dX6_form_6 : decode cX6_form 6 = .ok (.if_icmp .le 5, 3) := by decide +kernel
theorem dX6_form_9 : decode cX6_form 9 = .ok (.iconst (-1), 1) := by decide +kernel
theorem dX6_form_10 : decode cX6_form 10 = .ok (.ireturn, 1) := by decide +kernel
theorem dX6_form_11 : decode cX6_form 11 = .ok (.aload_n 0, 1) := by decide +kernel
theorem dX6_form_12 : decode cX6_form 12 = .ok (.getfield 62, 3) := by decide +kernel
theorem dX6_form_15 : decode cX6_form 15 = .ok (.istore_n 2, 1) := by decide +kernel
theorem dX6_form_16 : decode cX6_form 16 = .ok (.aload_n 0, 1) := by decide +kernel
theorem dX6_form_17 : decode cX6_form 17 = .ok (.iload_n 1, 1) := by decide +kernel
theorem dX6_form_18 : decode cX6_form 18 = .ok (.putfield 62, 3) := by decide +kernel
theorem dX6_form_21 : decode cX6_form 21 = .ok (.iload_n 2, 1) := by decide +kernel
theorem dX6_form_22 : decode cX6_form 22 = .ok (.ireturn, 1) := by decide +kernel
theorem dX6_lanes_0 : decode cX6_lanes 0 = .ok (.iload_n 1, 1) := by decide +kernel
theorem dX6_lanes_1 : decode cX6_lanes 1 = .ok (.iconst 1, 1) := by decide +kernel
theorem dX6_lanes_2 : decode cX6_lanes 2 = .ok (.if_icmp .eq 15, 3) := by decide +kernel
theorem dX6_lanes_5 : decode cX6_lanes 5 = .ok (.iload_n 1, 1) := by decide +kernel
theorem dX6_lanes_6 : decode cX6_lanes 6 = .ok (.iconst 2, 1) := by decide +kernel
theorem dX6_lanes_7 : decode cX6_lanes 7 = .ok (.if_icmp .eq 10, 3) := by decide +kernel
theorem dX6_lanes_10 : decode cX6_lanes 10 = .ok (.iload_n 1, 1) := by decide +kernel
theorem dX6_lanes_11 : decode cX6_lanes 11 = .ok (.iconst 4, 1) := by decide +kernel
theorem dX6_lanes_12 : decode cX6_lanes 12 = .ok (.if_icmp .eq 5, 3) := by decide +kernel
theorem dX6_lanes_15 : decode cX6_lanes 15 = .ok (.iconst (-1), 1) := by decide +kernel
theorem dX6_lanes_16 : decode cX6_lanes 16 = .ok (.ireturn, 1) := by decide +kernel
theorem dX6_lanes_17 : decode cX6_lanes 17 = .ok (.aload_n 0, 1) := by decide +kernel
theorem dX6_lanes_18 : decode cX6_lanes 18 = .ok (.getfield 66, 3) := by decide +kernel
theorem dX6_lanes_21 : decode cX6_lanes 21 = .ok (.istore_n 2, 1) := by decide +kernel
theorem dX6_lanes_22 : decode cX6_lanes 22 = .ok (.aload_n 0, 1) := by decide +kernel
theorem dX6_lanes_23 : decode cX6_lanes 23 = .ok (.iload_n 1, 1) := by decide +kernel
theorem dX6_lanes_24 : decode cX6_lanes 24 = .ok (.putfield 66, 3) := by decide +kernel
theorem dX6_lanes_27 : decode cX6_lanes 27 = .ok (.iload_n 2, 1) := by decide +kernel
theorem dX6_lanes_28 : decode cX6_lanes 28 = .ok (.ireturn, 1) := by decide +kernel
theorem dX6_isWritable_0 : decode cX6_isWritable 0 = .ok (.aload_n 0, 1) := by decide +kernel
theorem dX6_isWritable_1 : decode cX6_isWritable 1 = .ok (.getfield 30, 3) := by decide +kernel
theorem dX6_isWritable_4 : decode cX6_isWritable 4 = .ok (.getfield 90, 3) := by decide +kernel
theorem dX6_isWritable_7 : decode cX6_isWritable 7 = .ok (.ifCond .ne 5, 3) := by decide +kernel
theorem dX6_isWritable_10 : decode cX6_isWritable 10 = .ok (.iconst 0, 1) := by decide +kernel
theorem dX6_isWritable_11 : decode cX6_isWritable 11 = .ok (.ireturn, 1) := by decide +kernel
theorem dX6_isWritable_12 : decode cX6_isWritable 12 = .ok (.iconst 0, 1) := by decide +kernel
theorem dX6_isWritable_13 : decode cX6_isWritable 13 = .ok (.istore_n 1, 1) := by decide +kernel
theorem dX6_isWritable_14 : decode cX6_isWritable 14 = .ok (.iload_n 1, 1) := by decide +kernel
theorem dX6_isWritable_15 : decode cX6_isWritable 15 = .ok (.aload_n 0, 1) := by decide +kernel
theorem dX6_isWritable_16 : decode cX6_isWritable 16 = .ok (.getfield 73, 3) := by decide +kernel
theorem dX6_isWritable_19 : decode cX6_isWritable 19 = .ok (.if_icmp .ge 36, 3) := by decide +kernel
theorem dX6_isWritable_22 : decode cX6_isWritable 22 = .ok (.iload_n 1, 1) := by decide +kernel
theorem dX6_isWritable_23 : decode cX6_isWritable 23 = .ok (.aload_n 0, 1) := by decide +kernel
theorem dX6_isWritable_24 : decode cX6_isWritable 24 = .ok (.getfield 59, 3) := by decide +kernel
theorem dX6_isWritable_27 : decode cX6_isWritable 27 = .ok (.arraylength, 1) := by decide +kernel
theorem dX6_isWritable_28 : decode cX6_isWritable 28 = .ok (.if_icmp .ge 27, 3) := by decide +kernel
theorem dX6_isWritable_31 : decode cX6_isWritable 31 = .ok (.aload_n 0, 1) := by decide +kernel
theorem dX6_isWritable_32 : decode cX6_isWritable 32 = .ok (.getfield 30, 3) := by decide +kernel
theorem dX6_isWritable_35 : decode cX6_isWritable 35 = .ok (.aload_n 0, 1) := by decide +kernel
theorem dX6_isWritable_36 : decode cX6_isWritable 36 = .ok (.getfield 59, 3) := by decide +kernel
theorem dX6_isWritable_39 : decode cX6_isWritable 39 = .ok (.iload_n 1, 1) := by decide +kernel
theorem dX6_isWritable_40 : decode cX6_isWritable 40 = .ok (.iaload, 1) := by decide +kernel
theorem dX6_isWritable_41 : decode cX6_isWritable 41 = .ok (.invokevirtual 102, 3) := by decide +kernel
theorem dX6_isWritable_44 : decode cX6_isWritable 44 = .ok (.ifCond .ne 5, 3) := by decide +kernel
theorem dX6_isWritable_47 : decode cX6_isWritable 47 = .ok (.iconst 0, 1) := by decide +kernel
theorem dX6_isWritable_48 : decode cX6_isWritable 48 = .ok (.ireturn, 1) := by decide +kernel
theorem dX6_isWritable_49 : decode cX6_isWritable 49 = .ok (.iinc 1 1, 3) := by decide +kernel
theorem dX6_isWritable_52 : decode cX6_isWritable 52 = .ok (.goto (-38), 3) := by decide +kernel
theorem dX6_isWritable_55 : decode cX6_isWritable 55 = .ok (.iconst 1, 1) := by decide +kernel
theorem dX6_isWritable_56 : decode cX6_isWritable 56 = .ok (.ireturn, 1) := by decide +kernel
theorem dX6_write_0 : decode cX6_write 0 = .ok (.aload_n 0, 1) := by decide +kernel
theorem dX6_write_1 : decode cX6_write 1 = .ok (.invokevirtual 115, 3) := by decide +kernel
theorem dX6_write_4 : decode cX6_write 4 = .ok (.ifCond .ne 6, 3) := by decide +kernel
theorem dX6_write_7 : decode cX6_write 7 = .ok (.bipush (-2), 2) := by decide +kernel
theorem dX6_write_9 : decode cX6_write 9 = .ok (.ireturn, 1) := by decide +kernel
theorem dX6_write_10 : decode cX6_write 10 = .ok (.aload_n 0, 1) := by decide +kernel
theorem dX6_write_11 : decode cX6_write 11 = .ok (.getfield 37, 3) := by decide +kernel
theorem dX6_write_14 : decode cX6_write 14 = .ok (.aload_n 0, 1) := by decide +kernel
theorem dX6_write_15 : decode cX6_write 15 = .ok (.getfield 59, 3) := by decide +kernel
theorem dX6_write_18 : decode cX6_write 18 = .ok (.aload_n 0, 1) := by decide +kernel
theorem dX6_write_19 : decode cX6_write 19 = .ok (.getfield 73, 3) := by decide +kernel
theorem dX6_write_22 : decode cX6_write 22 = .ok (.aload_n 0, 1) := by decide +kernel
theorem dX6_write_23 : decode cX6_write 23 = .ok (.getfield 30, 3) := by decide +kernel
theorem dX6_write_26 : decode cX6_write 26 = .ok (.aload_n 0, 1) := by decide +kernel
theorem dX6_write_27 : decode cX6_write 27 = .ok (.getfield 62, 3) := by decide +kernel
theorem dX6_write_30 : decode cX6_write 30 = .ok (.aload_n 0, 1) := by decide +kernel
theorem dX6_write_31 : decode cX6_write 31 = .ok (.getfield 66, 3) := by decide +kernel
theorem dX6_write_34 : decode cX6_write 34 = .ok (.aload_n 0, 1) := by decide +kernel
theorem dX6_write_35 : decode cX6_write 35 = .ok (.getfield 51, 3) := by decide +kernel
theorem dX6_write_38 : decode cX6_write 38 = .ok (.invokevirtual 119, 3) := by decide +kernel
theorem dX6_write_41 : decode cX6_write 41 = .ok (.aload_n 0, 1) := by decide +kernel
theorem dX6_write_42 : decode cX6_write 42 = .ok (.getfield 51, 3) := by decide +kernel
theorem dX6_write_45 : decode cX6_write 45 = .ok (.getfield 123, 3) := by decide +kernel
theorem dX6_write_48 : decode cX6_write 48 = .ok (.ireturn, 1) := by decide +kernel
theorem dX6_read_0 : decode cX6_read 0 = .ok (.aload_n 0, 1) := by decide +kernel
theorem dX6_read_1 : decode cX6_read 1 = .ok (.getfield 44, 3) := by decide +kernel
theorem dX6_read_4 : decode cX6_read 4 = .ok (.aload_n 0, 1) := by decide +kernel
theorem dX6_read_5 : decode cX6_read 5 = .ok (.getfield 51, 3) := by decide +kernel
theorem dX6_read_8 : decode cX6_read 8 = .ok (.invokevirtual 126, 3) := by decide +kernel
theorem dX6_read_11 : decode cX6_read 11 = .ok (.ireturn, 1) := by decide +kernel
theorem dX6_rule_0 : decode cX6_rule 0 = .ok (.aload_n 0, 1) := by decide +kernel
theorem dX6_rule_1 : decode cX6_rule 1 = .ok (.getfield 44, 3) := by decide +kernel
theorem dX6_rule_4 : decode cX6_rule 4 = .ok (.getfield 130, 3) := by decide +kernel
theorem dX6_rule_7 : decode cX6_rule 7 = .ok (.ireturn, 1) := by decide +kernel
theorem dX6_sign_0 : decode cX6_sign 0 = .ok (.aload_n 0, 1) := by decide +kernel
theorem dX6_sign_1 : decode cX6_sign 1 = .ok (.getfield 44, 3) := by decide +kernel
theorem dX6_sign_4 : decode cX6_sign 4 = .ok (.iload_n 1, 1) := by decide +kernel
theorem dX6_sign_5 : decode cX6_sign 5 = .ok (.invokevirtual 133, 3) := by decide +kernel
theorem dX6_sign_8 : decode cX6_sign 8 = .ok (.ireturn, 1) := by decide +kernel
theorem dX6_spread_0 : decode cX6_spread 0 = .ok (.iload_n 1, 1) := by decide +kernel
theorem dX6_spread_1 : decode cX6_spread 1 = .ok (.ifCond .lt 14, 3) := by decide +kernel
theorem dX6_spread_4 : decode cX6_spread 4 = .ok (.iload_n 1, 1) := by decide +kernel
theorem dX6_spread_5 : decode cX6_spread 5 = .ok (.aload_n 0, 1) := by decide +kernel
theorem dX6_spread_6 : decode cX6_spread 6 = .ok (.getfield 30, 3) := by decide +kernel
theorem dX6_spread_9 : decode cX6_spread 9 = .ok (.getfield 108, 3) := by decide +kernel
theorem dX6_spread_12 : decode cX6_spread 12 = .ok (.if_icmp .lt 13, 3) := by decide +kernel
theorem dX6_spread_15 : decode cX6_spread 15 = .ok (.new 136, 3) := by decide +kernel
theorem dX6_spread_18 : decode cX6_spread 18 = .ok (.dup, 1) := by decide +kernel
theorem dX6_spread_19 : decode cX6_spread 19 = .ok (.ldc 138, 2) := by decide +kernel
theorem dX6_spread_21 : decode cX6_spread 21 = .ok (.invokespecial 140, 3) := by decide +kernel
theorem dX6_spread_24 : decode cX6_spread 24 = .ok (.athrow, 1) := by decide +kernel
theorem dX6_spread_25 : decode cX6_spread 25 = .ok (.aload_n 0, 1) := by decide +kernel
theorem dX6_spread_26 : decode cX6_spread 26 = .ok (.getfield 30, 3) := by decide +kernel
theorem dX6_spread_29 : decode cX6_spread 29 = .ok (.getfield 90, 3) := by decide +kernel
theorem dX6_spread_32 : decode cX6_spread 32 = .ok (.ifCond .ne 6, 3) := by decide +kernel
theorem dX6_spread_35 : decode cX6_spread 35 = .ok (.bipush (-2), 2) := by decide +kernel
theorem dX6_spread_37 : decode cX6_spread 37 = .ok (.ireturn, 1) := by decide +kernel
theorem dX6_spread_38 : decode cX6_spread 38 = .ok (.aload_n 0, 1) := by decide +kernel
theorem dX6_spread_39 : decode cX6_spread 39 = .ok (.getfield 30, 3) := by decide +kernel
theorem dX6_spread_42 : decode cX6_spread 42 = .ok (.invokevirtual 143, 3) := by decide +kernel
theorem dX6_spread_45 : decode cX6_spread 45 = .ok (.aload_n 0, 1) := by decide +kernel
theorem dX6_spread_46 : decode cX6_spread 46 = .ok (.getfield 30, 3) := by decide +kernel
theorem dX6_spread_49 : decode cX6_spread 49 = .ok (.iload_n 1, 1) := by decide +kernel
theorem dX6_spread_50 : decode cX6_spread 50 = .ok (.invokevirtual 146, 3) := by decide +kernel
theorem dX6_spread_53 : decode cX6_spread 53 = .ok (.ireturn, 1) := by decide +kernel
theorem dX6_state_0 : decode cX6_state 0 = .ok (.iload_n 2, 1) := by decide +kernel
theorem dX6_state_1 : decode cX6_state 1 = .ok (.ifCond .ge 7, 3) := by decide +kernel
theorem dX6_state_4 : decode cX6_state 4 = .ok (.ldc2_w 106, 3) := by decide +kernel
theorem dX6_state_7 : decode cX6_state 7 = .ok (.lreturn, 1) := by decide +kernel
theorem dX6_state_8 : decode cX6_state 8 = .ok (.iload_n 1, 1) := by decide +kernel
theorem dX6_state_9 : decode cX6_state 9 = .ok (.ifCond .ne 40, 3) := by decide +kernel
theorem dX6_state_12 : decode cX6_state 12 = .ok (.aload_n 0, 1) := by decide +kernel
theorem dX6_state_13 : decode cX6_state 13 = .ok (.getfield 37, 3) := by decide +kernel
theorem dX6_state_16 : decode cX6_state 16 = .ok (.getfield 147, 3) := by decide +kernel
theorem dX6_state_19 : decode cX6_state 19 = .ok (.ifCond .eq 26, 3) := by decide +kernel
theorem dX6_state_22 : decode cX6_state 22 = .ok (.iload_n 2, 1) := by decide +kernel
theorem dX6_state_23 : decode cX6_state 23 = .ok (.aload_n 0, 1) := by decide +kernel
theorem dX6_state_24 : decode cX6_state 24 = .ok (.getfield 37, 3) := by decide +kernel
theorem dX6_state_27 : decode cX6_state 27 = .ok (.getfield 150, 3) := by decide +kernel
theorem dX6_state_30 : decode cX6_state 30 = .ok (.if_icmp .ge 15, 3) := by decide +kernel
theorem dX6_state_33 : decode cX6_state 33 = .ok (.aload_n 0, 1) := by decide +kernel
theorem dX6_state_34 : decode cX6_state 34 = .ok (.getfield 37, 3) := by decide +kernel
theorem dX6_state_37 : decode cX6_state 37 = .ok (.getfield 151, 3) := by decide +kernel
theorem dX6_state_40 : decode cX6_state 40 = .ok (.iload_n 2, 1) := by decide +kernel
theorem dX6_state_41 : decode cX6_state 41 = .ok (.laload, 1) := by decide +kernel
theorem dX6_state_42 : decode cX6_state 42 = .ok (.goto 6, 3) := by decide +kernel
theorem dX6_state_45 : decode cX6_state 45 = .ok (.ldc2_w 106, 3) := by decide +kernel
theorem dX6_state_48 : decode cX6_state 48 = .ok (.lreturn, 1) := by decide +kernel
theorem dX6_state_49 : decode cX6_state 49 = .ok (.iload_n 1, 1) := by decide +kernel
theorem dX6_state_50 : decode cX6_state 50 = .ok (.iconst 1, 1) := by decide +kernel
theorem dX6_state_51 : decode cX6_state 51 = .ok (.if_icmp .ne 40, 3) := by decide +kernel
theorem dX6_state_54 : decode cX6_state 54 = .ok (.aload_n 0, 1) := by decide +kernel
theorem dX6_state_55 : decode cX6_state 55 = .ok (.getfield 44, 3) := by decide +kernel
theorem dX6_state_58 : decode cX6_state 58 = .ok (.getfield 155, 3) := by decide +kernel
theorem dX6_state_61 : decode cX6_state 61 = .ok (.ifCond .eq 26, 3) := by decide +kernel
theorem dX6_state_64 : decode cX6_state 64 = .ok (.iload_n 2, 1) := by decide +kernel
theorem dX6_state_65 : decode cX6_state 65 = .ok (.aload_n 0, 1) := by decide +kernel
theorem dX6_state_66 : decode cX6_state 66 = .ok (.getfield 44, 3) := by decide +kernel
theorem dX6_state_69 : decode cX6_state 69 = .ok (.getfield 158, 3) := by decide +kernel
theorem dX6_state_72 : decode cX6_state 72 = .ok (.if_icmp .ge 15, 3) := by decide +kernel
theorem dX6_state_75 : decode cX6_state 75 = .ok (.aload_n 0, 1) := by decide +kernel
theorem dX6_state_76 : decode cX6_state 76 = .ok (.getfield 44, 3) := by decide +kernel
theorem dX6_state_79 : decode cX6_state 79 = .ok (.getfield 159, 3) := by decide +kernel
theorem dX6_state_82 : decode cX6_state 82 = .ok (.iload_n 2, 1) := by decide +kernel
theorem dX6_state_83 : decode cX6_state 83 = .ok (.laload, 1) := by decide +kernel
theorem dX6_state_84 : decode cX6_state 84 = .ok (.goto 6, 3) := by decide +kernel
theorem dX6_state_87 : decode cX6_state 87 = .ok (.ldc2_w 106, 3) := by decide +kernel
theorem dX6_state_90 : decode cX6_state 90 = .ok (.lreturn, 1) := by decide +kernel
theorem dX6_state_91 : decode cX6_state 91 = .ok (.ldc2_w 106, 3) := by decide +kernel
theorem dX6_state_94 : decode cX6_state 94 = .ok (.lreturn, 1) := by decide +kernel
theorem dX6_out_0 : decode cX6_out 0 = .ok (.aload_n 0, 1) := by decide +kernel
theorem dX6_out_1 : decode cX6_out 1 = .ok (.getfield 51, 3) := by decide +kernel
theorem dX6_out_4 : decode cX6_out 4 = .ok (.iload_n 1, 1) := by decide +kernel
theorem dX6_out_5 : decode cX6_out 5 = .ok (.invokevirtual 160, 3) := by decide +kernel
theorem dX6_out_8 : decode cX6_out 8 = .ok (.ireturn, 1) := by decide +kernel

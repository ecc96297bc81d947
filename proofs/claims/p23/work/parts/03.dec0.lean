theorem dX7_add_0 : decode cX7_add 0 = .ok (.aload_n 0, 1) := by decide +kernel
theorem dX7_add_1 : decode cX7_add 1 = .ok (.iconst 0, 1) := by decide +kernel
theorem dX7_add_2 : decode cX7_add 2 = .ok (.putfield 62, 3) := by decide +kernel
theorem dX7_add_5 : decode cX7_add 5 = .ok (.iload_n 1, 1) := by decide +kernel
theorem dX7_add_6 : decode cX7_add 6 = .ok (.ifCond .lt 9, 3) := by decide +kernel
theorem dX7_add_9 : decode cX7_add 9 = .ok (.iload_n 1, 1) := by decide +kernel
theorem dX7_add_10 : decode cX7_add 10 = .ok (.bipush 32, 2) := by decide +kernel
theorem dX7_add_12 : decode cX7_add 12 = .ok (.if_icmp .lt 5, 3) := by decide +kernel
theorem dX7_add_15 : decode cX7_add 15 = .ok (.iconst (-1), 1) := by decide +kernel
theorem dX7_add_16 : decode cX7_add 16 = .ok (.ireturn, 1) := by decide +kernel
theorem dX7_add_17 : decode cX7_add 17 = .ok (.aload_n 0, 1) := by decide +kernel
theorem dX7_add_18 : decode cX7_add 18 = .ok (.getfield 65, 3) := by decide +kernel
theorem dX7_add_21 : decode cX7_add 21 = .ok (.sipush 1000, 3) := by decide +kernel
theorem dX7_add_24 : decode cX7_add 24 = .ok (.if_icmp .ne 6, 3) := by decide +kernel
theorem dX7_add_27 : decode cX7_add 27 = .ok (.bipush (-3), 2) := by decide +kernel
theorem dX7_add_29 : decode cX7_add 29 = .ok (.ireturn, 1) := by decide +kernel
theorem dX7_add_30 : decode cX7_add 30 = .ok (.aload_n 0, 1) := by decide +kernel
theorem dX7_add_31 : decode cX7_add 31 = .ok (.getfield 13, 3) := by decide +kernel
theorem dX7_add_34 : decode cX7_add 34 = .ok (.aload_n 0, 1) := by decide +kernel
theorem dX7_add_35 : decode cX7_add 35 = .ok (.getfield 65, 3) := by decide +kernel
theorem dX7_add_38 : decode cX7_add 38 = .ok (.iload_n 1, 1) := by decide +kernel
theorem dX7_add_39 : decode cX7_add 39 = .ok (.iastore, 1) := by decide +kernel
theorem dX7_add_40 : decode cX7_add 40 = .ok (.aload_n 0, 1) := by decide +kernel
theorem dX7_add_41 : decode cX7_add 41 = .ok (.dup, 1) := by decide +kernel
theorem dX7_add_42 : decode cX7_add 42 = .ok (.getfield 65, 3) := by decide +kernel
theorem dX7_add_45 : decode cX7_add 45 = .ok (.iconst 1, 1) := by decide +kernel
theorem dX7_add_46 : decode cX7_add 46 = .ok (.iadd, 1) := by decide +kernel
theorem dX7_add_47 : decode cX7_add 47 = .ok (.putfield 65, 3) := by decide +kernel
theorem dX7_add_50 : decode cX7_add 50 = .ok (.aload_n 0, 1) := by decide +kernel
theorem dX7_add_51 : decode cX7_add 51 = .ok (.getfield 65, 3) := by decide +kernel
theorem dX7_add_54 : decode cX7_add 54 = .ok (.ireturn, 1) := by decide +kernel
theorem dX7_clear_0 : decode cX7_clear 0 = .ok (.aload_n 0, 1) := by decide +kernel
theorem dX7_clear_1 : decode cX7_clear 1 = .ok (.iconst 0, 1) := by decide +kernel
theorem dX7_clear_2 : decode cX7_clear 2 = .ok (.putfield 62, 3) := by decide +kernel
theorem dX7_clear_5 : decode cX7_clear 5 = .ok (.aload_n 0, 1) := by decide +kernel
theorem dX7_clear_6 : decode cX7_clear 6 = .ok (.getfield 65, 3) := by decide +kernel
theorem dX7_clear_9 : decode cX7_clear 9 = .ok (.istore_n 1, 1) := by decide +kernel
theorem dX7_clear_10 : decode cX7_clear 10 = .ok (.aload_n 0, 1) := by decide +kernel
theorem dX7_clear_11 : decode cX7_clear 11 = .ok (.iconst 0, 1) := by decide +kernel
theorem dX7_clear_12 : decode cX7_clear 12 = .ok (.putfield 65, 3) := by decide +kernel
theorem dX7_clear_15 : decode cX7_clear 15 = .ok (.iload_n 1, 1) := by decide +kernel
theorem dX7_clear_16 : decode cX7_clear 16 = .ok (.ireturn, 1) := by decide +kernel
theorem dX7_count_0 : decode cX7_count 0 = .ok (.aload_n 0, 1) := by decide +kernel
theorem dX7_count_1 : decode cX7_count 1 = .ok (.iconst 0, 1) := by decide +kernel
theorem dX7_count_2 : decode cX7_count 2 = .ok (.putfield 62, 3) := by decide +kernel
theorem dX7_count_5 : decode cX7_count 5 = .ok (.iload_n 1, 1) := by decide +kernel
theorem dX7_count_6 : decode cX7_count 6 = .ok (.ifCond .lt 19, 3) := by decide +kernel
theorem dX7_count_9 : decode cX7_count 9 = .ok (.iload_n 1, 1) := by decide +kernel
theorem dX7_count_10 : decode cX7_count 10 = .ok (.bipush 32, 2) := by decide +kernel
theorem dX7_count_12 : decode cX7_count 12 = .ok (.if_icmp .ge 13, 3) := by decide +kernel
theorem dX7_count_15 : decode cX7_count 15 = .ok (.iload_n 2, 1) := by decide +kernel
theorem dX7_count_16 : decode cX7_count 16 = .ok (.ifCond .lt 9, 3) := by decide +kernel
theorem dX7_count_19 : decode cX7_count 19 = .ok (.iload_n 2, 1) := by decide +kernel
theorem dX7_count_20 : decode cX7_count 20 = .ok (.ldc 68, 2) := by decide +kernel
theorem dX7_count_22 : decode cX7_count 22 = .ok (.if_icmp .le 5, 3) := by decide +kernel
theorem dX7_count_25 : decode cX7_count 25 = .ok (.iconst (-1), 1) := by decide +kernel
theorem dX7_count_26 : decode cX7_count 26 = .ok (.ireturn, 1) := by decide +kernel
theorem dX7_count_27 : decode cX7_count 27 = .ok (.aload_n 0, 1) := by decide +kernel
theorem dX7_count_28 : decode cX7_count 28 = .ok (.getfield 17, 3) := by decide +kernel
theorem dX7_count_31 : decode cX7_count 31 = .ok (.iload_n 1, 1) := by decide +kernel
theorem dX7_count_32 : decode cX7_count 32 = .ok (.iaload, 1) := by decide +kernel
theorem dX7_count_33 : decode cX7_count 33 = .ok (.istore_n 3, 1) := by decide +kernel
theorem dX7_count_34 : decode cX7_count 34 = .ok (.aload_n 0, 1) := by decide +kernel
theorem dX7_count_35 : decode cX7_count 35 = .ok (.getfield 17, 3) := by decide +kernel
theorem dX7_count_38 : decode cX7_count 38 = .ok (.iload_n 1, 1) := by decide +kernel
theorem dX7_count_39 : decode cX7_count 39 = .ok (.iload_n 2, 1) := by decide +kernel
theorem dX7_count_40 : decode cX7_count 40 = .ok (.iastore, 1) := by decide +kernel
theorem dX7_count_41 : decode cX7_count 41 = .ok (.aload_n 0, 1) := by decide +kernel
theorem dX7_count_42 : decode cX7_count 42 = .ok (.iconst 0, 1) := by decide +kernel
theorem dX7_count_43 : decode cX7_count 43 = .ok (.putfield 69, 3) := by decide +kernel
theorem dX7_count_46 : decode cX7_count 46 = .ok (.iload_n 3, 1) := by decide +kernel
theorem dX7_count_47 : decode cX7_count 47 = .ok (.ireturn, 1) := by decide +kernel
theorem dX7_signsCounted_0 : decode cX7_signsCounted 0 = .ok (.iconst 0, 1) := by decide +kernel
theorem dX7_signsCounted_1 : decode cX7_signsCounted 1 = .ok (.istore_n 1, 1) := by decide +kernel
theorem dX7_signsCounted_2 : decode cX7_signsCounted 2 = .ok (.iconst 0, 1) := by decide +kernel
theorem dX7_signsCounted_3 : decode cX7_signsCounted 3 = .ok (.istore_n 2, 1) := by decide +kernel
theorem dX7_signsCounted_4 : decode cX7_signsCounted 4 = .ok (.iload_n 2, 1) := by decide +kernel
theorem dX7_signsCounted_5 : decode cX7_signsCounted 5 = .ok (.bipush 32, 2) := by decide +kernel
theorem dX7_signsCounted_7 : decode cX7_signsCounted 7 = .ok (.if_icmp .ge 26, 3) := by decide +kernel
theorem dX7_signsCounted_10 : decode cX7_signsCounted 10 = .ok (.iload_n 1, 1) := by decide +kernel
theorem dX7_signsCounted_11 : decode cX7_signsCounted 11 = .ok (.aload_n 0, 1) := by decide +kernel
theorem dX7_signsCounted_12 : decode cX7_signsCounted 12 = .ok (.getfield 17, 3) := by decide +kernel
theorem dX7_signsCounted_15 : decode cX7_signsCounted 15 = .ok (.iload_n 2, 1) := by decide +kernel
theorem dX7_signsCounted_16 : decode cX7_signsCounted 16 = .ok (.iaload, 1) := by decide +kernel
theorem dX7_signsCounted_17 : decode cX7_signsCounted 17 = .ok (.ifCond .le 7, 3) := by decide +kernel
theorem dX7_signsCounted_20 : decode cX7_signsCounted 20 = .ok (.iconst 1, 1) := by decide +kernel
theorem dX7_signsCounted_21 : decode cX7_signsCounted 21 = .ok (.goto 4, 3) := by decide +kernel
theorem dX7_signsCounted_24 : decode cX7_signsCounted 24 = .ok (.iconst 0, 1) := by decide +kernel
theorem dX7_signsCounted_25 : decode cX7_signsCounted 25 = .ok (.iadd, 1) := by decide +kernel
theorem dX7_signsCounted_26 : decode cX7_signsCounted 26 = .ok (.istore_n 1, 1) := by decide +kernel
theorem dX7_signsCounted_27 : decode cX7_signsCounted 27 = .ok (.iinc 2 1, 3) := by decide +kernel
theorem dX7_signsCounted_30 : decode cX7_signsCounted 30 = .ok (.goto (-26), 3) := by decide +kernel
theorem dX7_signsCounted_33 : decode cX7_signsCounted 33 = .ok (.iload_n 1, 1) := by decide +kernel
theorem dX7_signsCounted_34 : decode cX7_signsCounted 34 = .ok (.ireturn, 1) := by decide +kernel
theorem dX7_counts_0 : decode cX7_counts 0 = .ok (.aload_n 0, 1) := by decide +kernel
theorem dX7_counts_1 : decode cX7_counts 1 = .ok (.iconst 0, 1) := by decide +kernel
theorem dX7_counts_2 : decode cX7_counts 2 = .ok (.putfield 62, 3) := by decide +kernel
theorem dX7_counts_5 : decode cX7_counts 5 = .ok (.iconst 0, 1) := by decide +kernel
theorem dX7_counts_6 : decode cX7_counts 6 = .ok (.istore_n 1, 1) := by decide +kernel
theorem dX7_counts_7 : decode cX7_counts 7 = .ok (.iload_n 1, 1) := by decide +kernel
theorem dX7_counts_8 : decode cX7_counts 8 = .ok (.bipush 32, 2) := by decide +kernel
theorem dX7_counts_10 : decode cX7_counts 10 = .ok (.if_icmp .ge 16, 3) := by decide +kernel
theorem dX7_counts_13 : decode cX7_counts 13 = .ok (.aload_n 0, 1) := by decide +kernel
theorem dX7_counts_14 : decode cX7_counts 14 = .ok (.getfield 17, 3) := by decide +kernel
theorem dX7_counts_17 : decode cX7_counts 17 = .ok (.iload_n 1, 1) := by decide +kernel
theorem dX7_counts_18 : decode cX7_counts 18 = .ok (.iconst 0, 1) := by decide +kernel
theorem dX7_counts_19 : decode cX7_counts 19 = .ok (.iastore, 1) := by decide +kernel
theorem dX7_counts_20 : decode cX7_counts 20 = .ok (.iinc 1 1, 3) := by decide +kernel
theorem dX7_counts_23 : decode cX7_counts 23 = .ok (.goto (-16), 3) := by decide +kernel
theorem dX7_counts_26 : decode cX7_counts 26 = .ok (.iconst 0, 1) := by decide +kernel
theorem dX7_counts_27 : decode cX7_counts 27 = .ok (.istore_n 1, 1) := by decide +kernel
theorem dX7_counts_28 : decode cX7_counts 28 = .ok (.iload_n 1, 1) := by decide +kernel
theorem dX7_counts_29 : decode cX7_counts 29 = .ok (.aload_n 0, 1) := by decide +kernel
theorem dX7_counts_30 : decode cX7_counts 30 = .ok (.getfield 65, 3) := by decide +kernel
theorem dX7_counts_33 : decode cX7_counts 33 = .ok (.if_icmp .ge 24, 3) := by decide +kernel
theorem dX7_counts_36 : decode cX7_counts 36 = .ok (.aload_n 0, 1) := by decide +kernel
theorem dX7_counts_37 : decode cX7_counts 37 = .ok (.getfield 17, 3) := by decide +kernel
theorem dX7_counts_40 : decode cX7_counts 40 = .ok (.aload_n 0, 1) := by decide +kernel
theorem dX7_counts_41 : decode cX7_counts 41 = .ok (.getfield 13, 3) := by decide +kernel
theorem dX7_counts_44 : decode cX7_counts 44 = .ok (.iload_n 1, 1) := by decide +kernel
theorem dX7_counts_45 : decode cX7_counts 45 = .ok (.iaload, 1) := by decide +kernel
theorem dX7_counts_46 : decode cX7_counts 46 = .ok (.dup2, 1) := by decide +kernel
theorem dX7_counts_47 : decode cX7_counts 47 = .ok (.iaload, 1) := by decide +kernel
theorem dX7_counts_48 : decode cX7_counts 48 = .ok (.iconst 1, 1) := by decide +kernel
theorem dX7_counts_49 : decode cX7_counts 49 = .ok (.iadd, 1) := by decide +kernel
theorem dX7_counts_50 : decode cX7_counts 50 = .ok (.iastore, 1) := by decide +kernel
theorem dX7_counts_51 : decode cX7_counts 51 = .ok (.iinc 1 1, 3) := by decide +kernel
theorem dX7_counts_54 : decode cX7_counts 54 = .ok (.goto (-26), 3) := by decide +kernel
theorem dX7_counts_57 : decode cX7_counts 57 = .ok (.aload_n 0, 1) := by decide +kernel
theorem dX7_counts_58 : decode cX7_counts 58 = .ok (.iconst 0, 1) := by decide +kernel
theorem dX7_counts_59 : decode cX7_counts 59 = .ok (.putfield 69, 3) := by decide +kernel
theorem dX7_counts_62 : decode cX7_counts 62 = .ok (.aload_n 0, 1) := by decide +kernel
theorem dX7_counts_63 : decode cX7_counts 63 = .ok (.invokevirtual 73, 3) := by decide +kernel
theorem dX7_counts_66 : decode cX7_counts 66 = .ok (.ireturn, 1) := by decide +kernel
theorem dX7_logarithm_0 : decode cX7_logarithm 0 = .ok (.iconst 0, 1) := by decide +kernel
theorem dX7_logarithm_1 : decode cX7_logarithm 1 = .ok (.istore_n 1, 1) := by decide +kernel
theorem dX7_logarithm_2 : decode cX7_logarithm 2 = .ok (.iload_n 0, 1) := by decide +kernel
theorem dX7_logarithm_3 : decode cX7_logarithm 3 = .ok (.iload_n 1, 1) := by decide +kernel
theorem dX7_logarithm_4 : decode cX7_logarithm 4 = .ok (.ishr, 1) := by decide +kernel
theorem dX7_logarithm_5 : decode cX7_logarithm 5 = .ok (.iconst 1, 1) := by decide +kernel
theorem dX7_logarithm_6 : decode cX7_logarithm 6 = .ok (.if_icmp .le 9, 3) := by decide +kernel
theorem dX7_logarithm_9 : decode cX7_logarithm 9 = .ok (.iinc 1 1, 3) := by decide +kernel
theorem dX7_logarithm_12 : decode cX7_logarithm 12 = .ok (.goto (-10), 3) := by decide +kernel
theorem dX7_logarithm_15 : decode cX7_logarithm 15 = .ok (.iload_n 0, 1) := by decide +kernel
theorem dX7_logarithm_16 : decode cX7_logarithm 16 = .ok (.i2l, 1) := by decide +kernel
theorem dX7_logarithm_17 : decode cX7_logarithm 17 = .ok (.bipush 30, 2) := by decide +kernel
theorem dX7_logarithm_19 : decode cX7_logarithm 19 = .ok (.iload_n 1, 1) := by decide +kernel
theorem dX7_logarithm_20 : decode cX7_logarithm 20 = .ok (.isub, 1) := by decide +kernel
theorem dX7_logarithm_21 : decode cX7_logarithm 21 = .ok (.lshl, 1) := by decide +kernel
theorem dX7_logarithm_22 : decode cX7_logarithm 22 = .ok (.lstore_n 2, 1) := by decide +kernel
theorem dX7_logarithm_23 : decode cX7_logarithm 23 = .ok (.iload_n 1, 1) := by decide +kernel
theorem dX7_logarithm_24 : decode cX7_logarithm 24 = .ok (.i2l, 1) := by decide +kernel
theorem dX7_logarithm_25 : decode cX7_logarithm 25 = .ok (.lstore 4, 2) := by decide +kernel
theorem dX7_logarithm_27 : decode cX7_logarithm 27 = .ok (.iconst 0, 1) := by decide +kernel
theorem dX7_logarithm_28 : decode cX7_logarithm 28 = .ok (.istore 6, 2) := by decide +kernel
theorem dX7_logarithm_30 : decode cX7_logarithm 30 = .ok (.iload 6, 2) := by decide +kernel
theorem dX7_logarithm_32 : decode cX7_logarithm 32 = .ok (.bipush 30, 2) := by decide +kernel
theorem dX7_logarithm_34 : decode cX7_logarithm 34 = .ok (.if_icmp .ge 48, 3) := by decide +kernel
theorem dX7_logarithm_37 : decode cX7_logarithm 37 = .ok (.lload_n 2, 1) := by decide +kernel
theorem dX7_logarithm_38 : decode cX7_logarithm 38 = .ok (.lload_n 2, 1) := by decide +kernel
theorem dX7_logarithm_39 : decode cX7_logarithm 39 = .ok (.lmul, 1) := by decide +kernel
theorem dX7_logarithm_40 : decode cX7_logarithm 40 = .ok (.bipush 30, 2) := by decide +kernel
theorem dX7_logarithm_42 : decode cX7_logarithm 42 = .ok (.lshr, 1) := by decide +kernel
theorem dX7_logarithm_43 : decode cX7_logarithm 43 = .ok (.lstore_n 2, 1) := by decide +kernel
theorem dX7_logarithm_44 : decode cX7_logarithm 44 = .ok (.lload_n 2, 1) := by decide +kernel
theorem dX7_logarithm_45 : decode cX7_logarithm 45 = .ok (.ldc2_w 77, 3) := by decide +kernel
theorem dX7_logarithm_48 : decode cX7_logarithm 48 = .ok (.lcmp, 1) := by decide +kernel
theorem dX7_logarithm_49 : decode cX7_logarithm 49 = .ok (.ifCond .lt 7, 3) := by decide +kernel
theorem dX7_logarithm_52 : decode cX7_logarithm 52 = .ok (.iconst 1, 1) := by decide +kernel
theorem dX7_logarithm_53 : decode cX7_logarithm 53 = .ok (.goto 4, 3) := by decide +kernel
theorem dX7_logarithm_56 : decode cX7_logarithm 56 = .ok (.iconst 0, 1) := by decide +kernel
theorem dX7_logarithm_57 : decode cX7_logarithm 57 = .ok (.istore 7, 2) := by decide +kernel
theorem dX7_logarithm_59 : decode cX7_logarithm 59 = .ok (.lload_n 2, 1) := by decide +kernel
theorem dX7_logarithm_60 : decode cX7_logarithm 60 = .ok (.iload 7, 2) := by decide +kernel
theorem dX7_logarithm_62 : decode cX7_logarithm 62 = .ok (.lshr, 1) := by decide +kernel
theorem dX7_logarithm_63 : decode cX7_logarithm 63 = .ok (.lstore_n 2, 1) := by decide +kernel
theorem dX7_logarithm_64 : decode cX7_logarithm 64 = .ok (.ldc2_w 79, 3) := by decide +kernel
theorem dX7_logarithm_67 : decode cX7_logarithm 67 = .ok (.lload 4, 2) := by decide +kernel
theorem dX7_logarithm_69 : decode cX7_logarithm 69 = .ok (.lmul, 1) := by decide +kernel
theorem dX7_logarithm_70 : decode cX7_logarithm 70 = .ok (.iload 7, 2) := by decide +kernel
theorem dX7_logarithm_72 : decode cX7_logarithm 72 = .ok (.i2l, 1) := by decide +kernel
theorem dX7_logarithm_73 : decode cX7_logarithm 73 = .ok (.ladd, 1) := by decide +kernel
theorem dX7_logarithm_74 : decode cX7_logarithm 74 = .ok (.lstore 4, 2) := by decide +kernel
theorem dX7_logarithm_76 : decode cX7_logarithm 76 = .ok (.iinc 6 1, 3) := by decide +kernel
theorem dX7_logarithm_79 : decode cX7_logarithm 79 = .ok (.goto (-49), 3) := by decide +kernel
theorem dX7_logarithm_82 : decode cX7_logarithm 82 = .ok (.lload 4, 2) := by decide +kernel
theorem dX7_logarithm_84 : decode cX7_logarithm 84 = .ok (.lreturn, 1) := by decide +kernel
theorem dX7_lg_0 : decode cX7_lg 0 = .ok (.aload_n 0, 1) := by decide +kernel
theorem dX7_lg_1 : decode cX7_lg 1 = .ok (.iconst 0, 1) := by decide +kernel
theorem dX7_lg_2 : decode cX7_lg 2 = .ok (.putfield 62, 3) := by decide +kernel
theorem dX7_lg_5 : decode cX7_lg 5 = .ok (.iload_n 1, 1) := by decide +kernel
theorem dX7_lg_6 : decode cX7_lg 6 = .ok (.iconst 1, 1) := by decide +kernel
theorem dX7_lg_7 : decode cX7_lg 7 = .ok (.if_icmp .lt 13, 3) := by decide +kernel
theorem dX7_lg_10 : decode cX7_lg 10 = .ok (.iload_n 1, 1) := by decide +kernel
theorem dX7_lg_11 : decode cX7_lg 11 = .ok (.iconst 1, 1) := by decide +kernel
theorem dX7_lg_12 : decode cX7_lg 12 = .ok (.aload_n 0, 1) := by decide +kernel
theorem dX7_lg_13 : decode cX7_lg 13 = .ok (.getfield 59, 3) := by decide +kernel
theorem dX7_lg_16 : decode cX7_lg 16 = .ok (.ishl, 1) := by decide +kernel
theorem dX7_lg_17 : decode cX7_lg 17 = .ok (.if_icmp .le 9, 3) := by decide +kernel
theorem dX7_lg_20 : decode cX7_lg 20 = .ok (.ldc2_w 81, 3) := by decide +kernel
theorem dX7_lg_23 : decode cX7_lg 23 = .ok (.goto 7, 3) := by decide +kernel
theorem dX7_lg_26 : decode cX7_lg 26 = .ok (.iload_n 1, 1) := by decide +kernel
theorem dX7_lg_27 : decode cX7_lg 27 = .ok (.invokestatic 83, 3) := by decide +kernel
theorem dX7_lg_30 : decode cX7_lg 30 = .ok (.lreturn, 1) := by decide +kernel
theorem dX7_lay_0 : decode cX7_lay 0 = .ok (.iconst 1, 1) := by decide +kernel
theorem dX7_lay_1 : decode cX7_lay 1 = .ok (.aload_n 0, 1) := by decide +kernel
theorem dX7_lay_2 : decode cX7_lay 2 = .ok (.getfield 26, 3) := by decide +kernel
theorem dX7_lay_5 : decode cX7_lay 5 = .ok (.iload_n 1, 1) := by decide +kernel
theorem dX7_lay_6 : decode cX7_lay 6 = .ok (.iaload, 1) := by decide +kernel
theorem dX7_lay_7 : decode cX7_lay 7 = .ok (.ishl, 1) := by decide +kernel
theorem dX7_lay_8 : decode cX7_lay 8 = .ok (.istore_n 2, 1) := by decide +kernel
theorem dX7_lay_9 : decode cX7_lay 9 = .ok (.iconst 0, 1) := by decide +kernel
theorem dX7_lay_10 : decode cX7_lay 10 = .ok (.istore_n 3, 1) := by decide +kernel
theorem dX7_lay_11 : decode cX7_lay 11 = .ok (.iconst 0, 1) := by decide +kernel
theorem dX7_lay_12 : decode cX7_lay 12 = .ok (.istore 4, 2) := by decide +kernel
theorem dX7_lay_14 : decode cX7_lay 14 = .ok (.iconst 0, 1) := by decide +kernel
theorem dX7_lay_15 : decode cX7_lay 15 = .ok (.istore 5, 2) := by decide +kernel
theorem dX7_lay_17 : decode cX7_lay 17 = .ok (.iload 5, 2) := by decide +kernel
theorem dX7_lay_19 : decode cX7_lay 19 = .ok (.bipush 32, 2) := by decide +kernel
theorem dX7_lay_21 : decode cX7_lay 21 = .ok (.if_icmp .ge 95, 3) := by decide +kernel
theorem dX7_lay_24 : decode cX7_lay 24 = .ok (.aload_n 0, 1) := by decide +kernel
theorem dX7_lay_25 : decode cX7_lay 25 = .ok (.getfield 23, 3) := by decide +kernel
theorem dX7_lay_28 : decode cX7_lay 28 = .ok (.bipush 32, 2) := by decide +kernel
theorem dX7_lay_30 : decode cX7_lay 30 = .ok (.iload_n 1, 1) := by decide +kernel
theorem dX7_lay_31 : decode cX7_lay 31 = .ok (.imul, 1) := by decide +kernel
theorem dX7_lay_32 : decode cX7_lay 32 = .ok (.iload 5, 2) := by decide +kernel
theorem dX7_lay_34 : decode cX7_lay 34 = .ok (.iadd, 1) := by decide +kernel
theorem dX7_lay_35 : decode cX7_lay 35 = .ok (.iload_n 3, 1) := by decide +kernel
theorem dX7_lay_36 : decode cX7_lay 36 = .ok (.iastore, 1) := by decide +kernel
theorem dX7_lay_37 : decode cX7_lay 37 = .ok (.iload_n 3, 1) := by decide +kernel
theorem dX7_lay_38 : decode cX7_lay 38 = .ok (.aload_n 0, 1) := by decide +kernel
theorem dX7_lay_39 : decode cX7_lay 39 = .ok (.getfield 20, 3) := by decide +kernel
theorem dX7_lay_42 : decode cX7_lay 42 = .ok (.bipush 32, 2) := by decide +kernel
theorem dX7_lay_44 : decode cX7_lay 44 = .ok (.iload_n 1, 1) := by decide +kernel
theorem dX7_lay_45 : decode cX7_lay 45 = .ok (.imul, 1) := by decide +kernel
theorem dX7_lay_46 : decode cX7_lay 46 = .ok (.iload 5, 2) := by decide +kernel
theorem dX7_lay_48 : decode cX7_lay 48 = .ok (.iadd, 1) := by decide +kernel
theorem dX7_lay_49 : decode cX7_lay 49 = .ok (.iaload, 1) := by decide +kernel
theorem dX7_lay_50 : decode cX7_lay 50 = .ok (.iadd, 1) := by decide +kernel
theorem dX7_lay_51 : decode cX7_lay 51 = .ok (.istore_n 3, 1) := by decide +kernel
theorem dX7_lay_52 : decode cX7_lay 52 = .ok (.iconst 0, 1) := by decide +kernel
theorem dX7_lay_53 : decode cX7_lay 53 = .ok (.istore 6, 2) := by decide +kernel
theorem dX7_lay_55 : decode cX7_lay 55 = .ok (.iload 6, 2) := by decide +kernel
theorem dX7_lay_57 : decode cX7_lay 57 = .ok (.aload_n 0, 1) := by decide +kernel
theorem dX7_lay_58 : decode cX7_lay 58 = .ok (.getfield 20, 3) := by decide +kernel
theorem dX7_lay_61 : decode cX7_lay 61 = .ok (.bipush 32, 2) := by decide +kernel
theorem dX7_lay_63 : decode cX7_lay 63 = .ok (.iload_n 1, 1) := by decide +kernel
theorem dX7_lay_64 : decode cX7_lay 64 = .ok (.imul, 1) := by decide +kernel
theorem dX7_lay_65 : decode cX7_lay 65 = .ok (.iload 5, 2) := by decide +kernel
theorem dX7_lay_67 : decode cX7_lay 67 = .ok (.iadd, 1) := by decide +kernel
theorem dX7_lay_68 : decode cX7_lay 68 = .ok (.iaload, 1) := by decide +kernel
theorem dX7_lay_69 : decode cX7_lay 69 = .ok (.if_icmp .ge 41, 3) := by decide +kernel
theorem dX7_lay_72 : decode cX7_lay 72 = .ok (.aload_n 0, 1) := by decide +kernel
theorem dX7_lay_73 : decode cX7_lay 73 = .ok (.getfield 29, 3) := by decide +kernel
theorem dX7_lay_76 : decode cX7_lay 76 = .ok (.sipush 4096, 3) := by decide +kernel
theorem dX7_lay_79 : decode cX7_lay 79 = .ok (.iload_n 1, 1) := by decide +kernel
theorem dX7_lay_80 : decode cX7_lay 80 = .ok (.imul, 1) := by decide +kernel
theorem dX7_lay_81 : decode cX7_lay 81 = .ok (.iload 4, 2) := by decide +kernel
theorem dX7_lay_83 : decode cX7_lay 83 = .ok (.iadd, 1) := by decide +kernel
theorem dX7_lay_84 : decode cX7_lay 84 = .ok (.iload 5, 2) := by decide +kernel
theorem dX7_lay_86 : decode cX7_lay 86 = .ok (.iastore, 1) := by decide +kernel
theorem dX7_lay_87 : decode cX7_lay 87 = .ok (.iload 4, 2) := by decide +kernel
theorem dX7_lay_89 : decode cX7_lay 89 = .ok (.iload_n 2, 1) := by decide +kernel
theorem dX7_lay_90 : decode cX7_lay 90 = .ok (.iconst 2, 1) := by decide +kernel
theorem dX7_lay_91 : decode cX7_lay 91 = .ok (.idiv, 1) := by decide +kernel
theorem dX7_lay_92 : decode cX7_lay 92 = .ok (.iadd, 1) := by decide +kernel
theorem dX7_lay_93 : decode cX7_lay 93 = .ok (.iload_n 2, 1) := by decide +kernel
theorem dX7_lay_94 : decode cX7_lay 94 = .ok (.bipush 8, 2) := by decide +kernel
theorem dX7_lay_96 : decode cX7_lay 96 = .ok (.idiv, 1) := by decide +kernel
theorem dX7_lay_97 : decode cX7_lay 97 = .ok (.iadd, 1) := by decide +kernel
theorem dX7_lay_98 : decode cX7_lay 98 = .ok (.iconst 3, 1) := by decide +kernel
theorem dX7_lay_99 : decode cX7_lay 99 = .ok (.iadd, 1) := by decide +kernel
theorem dX7_lay_100 : decode cX7_lay 100 = .ok (.iload_n 2, 1) := by decide +kernel
theorem dX7_lay_101 : decode cX7_lay 101 = .ok (.irem, 1) := by decide +kernel
theorem dX7_lay_102 : decode cX7_lay 102 = .ok (.istore 4, 2) := by decide +kernel
theorem dX7_lay_104 : decode cX7_lay 104 = .ok (.iinc 6 1, 3) := by decide +kernel
theorem dX7_lay_107 : decode cX7_lay 107 = .ok (.goto (-52), 3) := by decide +kernel
theorem dX7_lay_110 : decode cX7_lay 110 = .ok (.iinc 5 1, 3) := by decide +kernel
theorem dX7_lay_113 : decode cX7_lay 113 = .ok (.goto (-96), 3) := by decide +kernel
theorem dX7_lay_116 : decode cX7_lay 116 = .ok (.iconst 0, 1) := by decide +kernel
theorem dX7_lay_117 : decode cX7_lay 117 = .ok (.istore 5, 2) := by decide +kernel
theorem dX7_lay_119 : decode cX7_lay 119 = .ok (.iload 5, 2) := by decide +kernel
theorem dX7_lay_121 : decode cX7_lay 121 = .ok (.bipush 32, 2) := by decide +kernel
theorem dX7_lay_123 : decode cX7_lay 123 = .ok (.if_icmp .ge 119, 3) := by decide +kernel
theorem dX7_lay_126 : decode cX7_lay 126 = .ok (.iconst 0, 1) := by decide +kernel
theorem dX7_lay_127 : decode cX7_lay 127 = .ok (.istore 6, 2) := by decide +kernel
theorem dX7_lay_129 : decode cX7_lay 129 = .ok (.iconst 0, 1) := by decide +kernel
theorem dX7_lay_130 : decode cX7_lay 130 = .ok (.istore 7, 2) := by decide +kernel
theorem dX7_lay_132 : decode cX7_lay 132 = .ok (.iload 7, 2) := by decide +kernel
theorem dX7_lay_134 : decode cX7_lay 134 = .ok (.iload_n 2, 1) := by decide +kernel
theorem dX7_lay_135 : decode cX7_lay 135 = .ok (.if_icmp .ge 101, 3) := by decide +kernel
theorem dX7_lay_138 : decode cX7_lay 138 = .ok (.aload_n 0, 1) := by decide +kernel
theorem dX7_lay_139 : decode cX7_lay 139 = .ok (.getfield 20, 3) := by decide +kernel
theorem dX7_lay_142 : decode cX7_lay 142 = .ok (.bipush 32, 2) := by decide +kernel
theorem dX7_lay_144 : decode cX7_lay 144 = .ok (.iload_n 1, 1) := by decide +kernel
theorem dX7_lay_145 : decode cX7_lay 145 = .ok (.imul, 1) := by decide +kernel
theorem dX7_lay_146 : decode cX7_lay 146 = .ok (.iload 5, 2) := by decide +kernel
theorem dX7_lay_148 : decode cX7_lay 148 = .ok (.iadd, 1) := by decide +kernel
theorem dX7_lay_149 : decode cX7_lay 149 = .ok (.iaload, 1) := by decide +kernel
theorem dX7_lay_150 : decode cX7_lay 150 = .ok (.ifCond .le 80, 3) := by decide +kernel
theorem dX7_lay_153 : decode cX7_lay 153 = .ok (.aload_n 0, 1) := by decide +kernel
theorem dX7_lay_154 : decode cX7_lay 154 = .ok (.getfield 29, 3) := by decide +kernel
theorem dX7_lay_157 : decode cX7_lay 157 = .ok (.sipush 4096, 3) := by decide +kernel
theorem dX7_lay_160 : decode cX7_lay 160 = .ok (.iload_n 1, 1) := by decide +kernel
theorem dX7_lay_161 : decode cX7_lay 161 = .ok (.imul, 1) := by decide +kernel
theorem dX7_lay_162 : decode cX7_lay 162 = .ok (.iload 7, 2) := by decide +kernel
theorem dX7_lay_164 : decode cX7_lay 164 = .ok (.iadd, 1) := by decide +kernel
theorem dX7_lay_165 : decode cX7_lay 165 = .ok (.iaload, 1) := by decide +kernel
theorem dX7_lay_166 : decode cX7_lay 166 = .ok (.iload 5, 2) := by decide +kernel
theorem dX7_lay_168 : decode cX7_lay 168 = .ok (.if_icmp .ne 62, 3) := by decide +kernel
theorem dX7_lay_171 : decode cX7_lay 171 = .ok (.aload_n 0, 1) := by decide +kernel
theorem dX7_lay_172 : decode cX7_lay 172 = .ok (.getfield 32, 3) := by decide +kernel
theorem dX7_lay_175 : decode cX7_lay 175 = .ok (.sipush 4096, 3) := by decide +kernel
theorem dX7_lay_178 : decode cX7_lay 178 = .ok (.iload_n 1, 1) := by decide +kernel
theorem dX7_lay_179 : decode cX7_lay 179 = .ok (.imul, 1) := by decide +kernel
theorem dX7_lay_180 : decode cX7_lay 180 = .ok (.iload 7, 2) := by decide +kernel
theorem dX7_lay_182 : decode cX7_lay 182 = .ok (.iadd, 1) := by decide +kernel
theorem dX7_lay_183 : decode cX7_lay 183 = .ok (.aload_n 0, 1) := by decide +kernel
theorem dX7_lay_184 : decode cX7_lay 184 = .ok (.getfield 20, 3) := by decide +kernel
theorem dX7_lay_187 : decode cX7_lay 187 = .ok (.bipush 32, 2) := by decide +kernel
theorem dX7_lay_189 : decode cX7_lay 189 = .ok (.iload_n 1, 1) := by decide +kernel
theorem dX7_lay_190 : decode cX7_lay 190 = .ok (.imul, 1) := by decide +kernel
theorem dX7_lay_191 : decode cX7_lay 191 = .ok (.iload 5, 2) := by decide +kernel
theorem dX7_lay_193 : decode cX7_lay 193 = .ok (.iadd, 1) := by decide +kernel
theorem dX7_lay_194 : decode cX7_lay 194 = .ok (.iaload, 1) := by decide +kernel
theorem dX7_lay_195 : decode cX7_lay 195 = .ok (.iload 6, 2) := by decide +kernel
theorem dX7_lay_197 : decode cX7_lay 197 = .ok (.iadd, 1) := by decide +kernel
theorem dX7_lay_198 : decode cX7_lay 198 = .ok (.iastore, 1) := by decide +kernel
theorem dX7_lay_199 : decode cX7_lay 199 = .ok (.aload_n 0, 1) := by decide +kernel
theorem dX7_lay_200 : decode cX7_lay 200 = .ok (.getfield 35, 3) := by decide +kernel
theorem dX7_lay_203 : decode cX7_lay 203 = .ok (.sipush 4096, 3) := by decide +kernel
theorem dX7_lay_206 : decode cX7_lay 206 = .ok (.iload_n 1, 1) := by decide +kernel
theorem dX7_lay_207 : decode cX7_lay 207 = .ok (.imul, 1) := by decide +kernel
theorem dX7_lay_208 : decode cX7_lay 208 = .ok (.aload_n 0, 1) := by decide +kernel
theorem dX7_lay_209 : decode cX7_lay 209 = .ok (.getfield 23, 3) := by decide +kernel
theorem dX7_lay_212 : decode cX7_lay 212 = .ok (.bipush 32, 2) := by decide +kernel
theorem dX7_lay_214 : decode cX7_lay 214 = .ok (.iload_n 1, 1) := by decide +kernel
theorem dX7_lay_215 : decode cX7_lay 215 = .ok (.imul, 1) := by decide +kernel
theorem dX7_lay_216 : decode cX7_lay 216 = .ok (.iload 5, 2) := by decide +kernel
theorem dX7_lay_218 : decode cX7_lay 218 = .ok (.iadd, 1) := by decide +kernel
theorem dX7_lay_219 : decode cX7_lay 219 = .ok (.iaload, 1) := by decide +kernel
theorem dX7_lay_220 : decode cX7_lay 220 = .ok (.iadd, 1) := by decide +kernel
theorem dX7_lay_221 : decode cX7_lay 221 = .ok (.iload 6, 2) := by decide +kernel
theorem dX7_lay_223 : decode cX7_lay 223 = .ok (.iadd, 1) := by decide +kernel
theorem dX7_lay_224 : decode cX7_lay 224 = .ok (.iload 7, 2) := by decide +kernel
theorem dX7_lay_226 : decode cX7_lay 226 = .ok (.iastore, 1) := by decide +kernel
theorem dX7_lay_227 : decode cX7_lay 227 = .ok (.iinc 6 1, 3) := by decide +kernel
theorem dX7_lay_230 : decode cX7_lay 230 = .ok (.iinc 7 1, 3) := by decide +kernel
theorem dX7_lay_233 : decode cX7_lay 233 = .ok (.goto (-101), 3) := by decide +kernel
theorem dX7_lay_236 : decode cX7_lay 236 = .ok (.iinc 5 1, 3) := by decide +kernel
theorem dX7_lay_239 : decode cX7_lay 239 = .ok (.goto (-120), 3) := by decide +kernel
theorem dX7_lay_242 : decode cX7_lay 242 = .ok (.return_, 1) := by decide +kernel
theorem dX7_normal_0 : decode cX7_normal 0 = .ok (.aload_n 0, 1) := by decide +kernel
theorem dX7_normal_1 : decode cX7_normal 1 = .ok (.iconst 0, 1) := by decide +kernel
theorem dX7_normal_2 : decode cX7_normal 2 = .ok (.putfield 62, 3) := by decide +kernel
theorem dX7_normal_5 : decode cX7_normal 5 = .ok (.aload_n 0, 1) := by decide +kernel
theorem dX7_normal_6 : decode cX7_normal 6 = .ok (.iconst 0, 1) := by decide +kernel
theorem dX7_normal_7 : decode cX7_normal 7 = .ok (.putfield 69, 3) := by decide +kernel
theorem dX7_normal_10 : decode cX7_normal 10 = .ok (.aload_n 0, 1) := by decide +kernel
theorem dX7_normal_11 : decode cX7_normal 11 = .ok (.invokevirtual 73, 3) := by decide +kernel
theorem dX7_normal_14 : decode cX7_normal 14 = .ok (.istore_n 1, 1) := by decide +kernel
theorem dX7_normal_15 : decode cX7_normal 15 = .ok (.iload_n 1, 1) := by decide +kernel
theorem dX7_normal_16 : decode cX7_normal 16 = .ok (.ifCond .ne 6, 3) := by decide +kernel
theorem dX7_normal_19 : decode cX7_normal 19 = .ok (.bipush (-2), 2) := by decide +kernel
theorem dX7_normal_21 : decode cX7_normal 21 = .ok (.ireturn, 1) := by decide +kernel
theorem dX7_normal_22 : decode cX7_normal 22 = .ok (.iconst 0, 1) := by decide +kernel
theorem dX7_normal_23 : decode cX7_normal 23 = .ok (.istore_n 2, 1) := by decide +kernel
theorem dX7_normal_24 : decode cX7_normal 24 = .ok (.iload_n 2, 1) := by decide +kernel
theorem dX7_normal_25 : decode cX7_normal 25 = .ok (.bipush 32, 2) := by decide +kernel
theorem dX7_normal_27 : decode cX7_normal 27 = .ok (.if_icmp .ge 29, 3) := by decide +kernel
theorem dX7_normal_30 : decode cX7_normal 30 = .ok (.aload_n 0, 1) := by decide +kernel
theorem dX7_normal_31 : decode cX7_normal 31 = .ok (.getfield 20, 3) := by decide +kernel
theorem dX7_normal_34 : decode cX7_normal 34 = .ok (.iload_n 2, 1) := by decide +kernel
theorem dX7_normal_35 : decode cX7_normal 35 = .ok (.aload_n 0, 1) := by decide +kernel
theorem dX7_normal_36 : decode cX7_normal 36 = .ok (.getfield 17, 3) := by decide +kernel
theorem dX7_normal_39 : decode cX7_normal 39 = .ok (.iload_n 2, 1) := by decide +kernel
theorem dX7_normal_40 : decode cX7_normal 40 = .ok (.iaload, 1) := by decide +kernel
theorem dX7_normal_41 : decode cX7_normal 41 = .ok (.ifCond .le 7, 3) := by decide +kernel
theorem dX7_normal_44 : decode cX7_normal 44 = .ok (.iconst 1, 1) := by decide +kernel
theorem dX7_normal_45 : decode cX7_normal 45 = .ok (.goto 4, 3) := by decide +kernel
theorem dX7_normal_48 : decode cX7_normal 48 = .ok (.iconst 0, 1) := by decide +kernel
theorem dX7_normal_49 : decode cX7_normal 49 = .ok (.iastore, 1) := by decide +kernel
theorem dX7_normal_50 : decode cX7_normal 50 = .ok (.iinc 2 1, 3) := by decide +kernel
theorem dX7_normal_53 : decode cX7_normal 53 = .ok (.goto (-29), 3) := by decide +kernel
theorem dX7_normal_56 : decode cX7_normal 56 = .ok (.iconst 1, 1) := by decide +kernel
theorem dX7_normal_57 : decode cX7_normal 57 = .ok (.aload_n 0, 1) := by decide +kernel
theorem dX7_normal_58 : decode cX7_normal 58 = .ok (.getfield 59, 3) := by decide +kernel
theorem dX7_normal_61 : decode cX7_normal 61 = .ok (.ishl, 1) := by decide +kernel
theorem dX7_normal_62 : decode cX7_normal 62 = .ok (.iload_n 1, 1) := by decide +kernel
theorem dX7_normal_63 : decode cX7_normal 63 = .ok (.isub, 1) := by decide +kernel
theorem dX7_normal_64 : decode cX7_normal 64 = .ok (.istore_n 2, 1) := by decide +kernel
theorem dX7_normal_65 : decode cX7_normal 65 = .ok (.iload_n 2, 1) := by decide +kernel
theorem dX7_normal_66 : decode cX7_normal 66 = .ok (.ifCond .le 106, 3) := by decide +kernel
theorem dX7_normal_69 : decode cX7_normal 69 = .ok (.bipush (-2), 2) := by decide +kernel
theorem dX7_normal_71 : decode cX7_normal 71 = .ok (.istore_n 3, 1) := by decide +kernel
theorem dX7_normal_72 : decode cX7_normal 72 = .ok (.lconst 0, 1) := by decide +kernel
theorem dX7_normal_73 : decode cX7_normal 73 = .ok (.lstore 4, 2) := by decide +kernel
theorem dX7_normal_75 : decode cX7_normal 75 = .ok (.iconst 0, 1) := by decide +kernel
theorem dX7_normal_76 : decode cX7_normal 76 = .ok (.istore 6, 2) := by decide +kernel
theorem dX7_normal_78 : decode cX7_normal 78 = .ok (.iload 6, 2) := by decide +kernel
theorem dX7_normal_80 : decode cX7_normal 80 = .ok (.bipush 32, 2) := by decide +kernel
theorem dX7_normal_82 : decode cX7_normal 82 = .ok (.if_icmp .ge 74, 3) := by decide +kernel
theorem dX7_normal_85 : decode cX7_normal 85 = .ok (.aload_n 0, 1) := by decide +kernel
theorem dX7_normal_86 : decode cX7_normal 86 = .ok (.getfield 20, 3) := by decide +kernel
theorem dX7_normal_89 : decode cX7_normal 89 = .ok (.iload 6, 2) := by decide +kernel
theorem dX7_normal_91 : decode cX7_normal 91 = .ok (.iaload, 1) := by decide +kernel
theorem dX7_normal_92 : decode cX7_normal 92 = .ok (.ifCond .le 58, 3) := by decide +kernel
theorem dX7_normal_95 : decode cX7_normal 95 = .ok (.aload_n 0, 1) := by decide +kernel
theorem dX7_normal_96 : decode cX7_normal 96 = .ok (.getfield 17, 3) := by decide +kernel
theorem dX7_normal_99 : decode cX7_normal 99 = .ok (.iload 6, 2) := by decide +kernel
theorem dX7_normal_101 : decode cX7_normal 101 = .ok (.iaload, 1) := by decide +kernel
theorem dX7_normal_102 : decode cX7_normal 102 = .ok (.i2l, 1) := by decide +kernel
theorem dX7_normal_103 : decode cX7_normal 103 = .ok (.aload_n 0, 1) := by decide +kernel
theorem dX7_normal_104 : decode cX7_normal 104 = .ok (.getfield 20, 3) := by decide +kernel
theorem dX7_normal_107 : decode cX7_normal 107 = .ok (.iload 6, 2) := by decide +kernel
theorem dX7_normal_109 : decode cX7_normal 109 = .ok (.iaload, 1) := by decide +kernel
theorem dX7_normal_110 : decode cX7_normal 110 = .ok (.iconst 1, 1) := by decide +kernel
theorem dX7_normal_111 : decode cX7_normal 111 = .ok (.iadd, 1) := by decide +kernel
theorem dX7_normal_112 : decode cX7_normal 112 = .ok (.invokestatic 83, 3) := by decide +kernel
theorem dX7_normal_115 : decode cX7_normal 115 = .ok (.aload_n 0, 1) := by decide +kernel
theorem dX7_normal_116 : decode cX7_normal 116 = .ok (.getfield 20, 3) := by decide +kernel
theorem dX7_normal_119 : decode cX7_normal 119 = .ok (.iload 6, 2) := by decide +kernel
theorem dX7_normal_121 : decode cX7_normal 121 = .ok (.iaload, 1) := by decide +kernel
theorem dX7_normal_122 : decode cX7_normal 122 = .ok (.invokestatic 83, 3) := by decide +kernel
theorem dX7_normal_125 : decode cX7_normal 125 = .ok (.lsub, 1) := by decide +kernel
theorem dX7_normal_126 : decode cX7_normal 126 = .ok (.lmul, 1) := by decide +kernel
theorem dX7_normal_127 : decode cX7_normal 127 = .ok (.lstore 7, 2) := by decide +kernel
theorem dX7_normal_129 : decode cX7_normal 129 = .ok (.iload_n 3, 1) := by decide +kernel
theorem dX7_normal_130 : decode cX7_normal 130 = .ok (.bipush (-2), 2) := by decide +kernel
theorem dX7_normal_132 : decode cX7_normal 132 = .ok (.if_icmp .eq 11, 3) := by decide +kernel
theorem dX7_normal_135 : decode cX7_normal 135 = .ok (.lload 7, 2) := by decide +kernel
theorem dX7_normal_137 : decode cX7_normal 137 = .ok (.lload 4, 2) := by decide +kernel
theorem dX7_normal_139 : decode cX7_normal 139 = .ok (.lcmp, 1) := by decide +kernel
theorem dX7_normal_140 : decode cX7_normal 140 = .ok (.ifCond .le 10, 3) := by decide +kernel
theorem dX7_normal_143 : decode cX7_normal 143 = .ok (.iload 6, 2) := by decide +kernel
theorem dX7_normal_145 : decode cX7_normal 145 = .ok (.istore_n 3, 1) := by decide +kernel
theorem dX7_normal_146 : decode cX7_normal 146 = .ok (.lload 7, 2) := by decide +kernel
theorem dX7_normal_148 : decode cX7_normal 148 = .ok (.lstore 4, 2) := by decide +kernel
theorem dX7_normal_150 : decode cX7_normal 150 = .ok (.iinc 6 1, 3) := by decide +kernel
theorem dX7_normal_153 : decode cX7_normal 153 = .ok (.goto (-75), 3) := by decide +kernel
theorem dX7_normal_156 : decode cX7_normal 156 = .ok (.aload_n 0, 1) := by decide +kernel
theorem dX7_normal_157 : decode cX7_normal 157 = .ok (.getfield 20, 3) := by decide +kernel
theorem dX7_normal_160 : decode cX7_normal 160 = .ok (.iload_n 3, 1) := by decide +kernel
theorem dX7_normal_161 : decode cX7_normal 161 = .ok (.dup2, 1) := by decide +kernel
theorem dX7_normal_162 : decode cX7_normal 162 = .ok (.iaload, 1) := by decide +kernel
theorem dX7_normal_163 : decode cX7_normal 163 = .ok (.iconst 1, 1) := by decide +kernel
theorem dX7_normal_164 : decode cX7_normal 164 = .ok (.iadd, 1) := by decide +kernel
theorem dX7_normal_165 : decode cX7_normal 165 = .ok (.iastore, 1) := by decide +kernel
theorem dX7_normal_166 : decode cX7_normal 166 = .ok (.iinc 2 (-1), 3) := by decide +kernel
theorem dX7_normal_169 : decode cX7_normal 169 = .ok (.goto (-104), 3) := by decide +kernel
theorem dX7_normal_172 : decode cX7_normal 172 = .ok (.aload_n 0, 1) := by decide +kernel
theorem dX7_normal_173 : decode cX7_normal 173 = .ok (.iconst 1, 1) := by decide +kernel
theorem dX7_normal_174 : decode cX7_normal 174 = .ok (.putfield 69, 3) := by decide +kernel
theorem dX7_normal_177 : decode cX7_normal 177 = .ok (.aload_n 0, 1) := by decide +kernel
theorem dX7_normal_178 : decode cX7_normal 178 = .ok (.iconst 0, 1) := by decide +kernel
theorem dX7_normal_179 : decode cX7_normal 179 = .ok (.invokevirtual 87, 3) := by decide +kernel
theorem dX7_normal_182 : decode cX7_normal 182 = .ok (.iload_n 1, 1) := by decide +kernel
theorem dX7_normal_183 : decode cX7_normal 183 = .ok (.ireturn, 1) := by decide +kernel
theorem dX7_share_0 : decode cX7_share 0 = .ok (.aload_n 0, 1) := by decide +kernel
theorem dX7_share_1 : decode cX7_share 1 = .ok (.iconst 0, 1) := by decide +kernel
theorem dX7_share_2 : decode cX7_share 2 = .ok (.putfield 62, 3) := by decide +kernel
theorem dX7_share_5 : decode cX7_share 5 = .ok (.iload_n 1, 1) := by decide +kernel
theorem dX7_share_6 : decode cX7_share 6 = .ok (.ifCond .lt 9, 3) := by decide +kernel
theorem dX7_share_9 : decode cX7_share 9 = .ok (.iload_n 1, 1) := by decide +kernel
theorem dX7_share_10 : decode cX7_share 10 = .ok (.bipush 32, 2) := by decide +kernel
theorem dX7_share_12 : decode cX7_share 12 = .ok (.if_icmp .lt 7, 3) := by decide +kernel
theorem dX7_share_15 : decode cX7_share 15 = .ok (.iconst (-1), 1) := by decide +kernel
theorem dX7_share_16 : decode cX7_share 16 = .ok (.goto 20, 3) := by decide +kernel
theorem dX7_share_19 : decode cX7_share 19 = .ok (.aload_n 0, 1) := by decide +kernel
theorem dX7_share_20 : decode cX7_share 20 = .ok (.getfield 69, 3) := by decide +kernel
theorem dX7_share_23 : decode cX7_share 23 = .ok (.ifCond .eq 12, 3) := by decide +kernel
theorem dX7_share_26 : decode cX7_share 26 = .ok (.aload_n 0, 1) := by decide +kernel
theorem dX7_share_27 : decode cX7_share 27 = .ok (.getfield 20, 3) := by decide +kernel
theorem dX7_share_30 : decode cX7_share 30 = .ok (.iload_n 1, 1) := by decide +kernel
theorem dX7_share_31 : decode cX7_share 31 = .ok (.iaload, 1) := by decide +kernel
theorem dX7_share_32 : decode cX7_share 32 = .ok (.goto 4, 3) := by decide +kernel
theorem dX7_share_35 : decode cX7_share 35 = .ok (.iconst 0, 1) := by decide +kernel
theorem dX7_share_36 : decode cX7_share 36 = .ok (.ireturn, 1) := by decide +kernel

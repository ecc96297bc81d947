theorem dX4_signOver_0 : decode cX4_signOver 0 = .ok (.iconst 0, 1) := by decide +kernel
theorem dX4_signOver_1 : decode cX4_signOver 1 = .ok (.istore_n 2, 1) := by decide +kernel
theorem dX4_signOver_2 : decode cX4_signOver 2 = .ok (.bipush 16, 2) := by decide +kernel
theorem dX4_signOver_4 : decode cX4_signOver 4 = .ok (.istore_n 3, 1) := by decide +kernel
theorem dX4_signOver_5 : decode cX4_signOver 5 = .ok (.iload_n 3, 1) := by decide +kernel
theorem dX4_signOver_6 : decode cX4_signOver 6 = .ok (.ifCond .le 26, 3) := by decide +kernel
theorem dX4_signOver_9 : decode cX4_signOver 9 = .ok (.aload_n 0, 1) := by decide +kernel
theorem dX4_signOver_10 : decode cX4_signOver 10 = .ok (.getfield 15, 3) := by decide +kernel
theorem dX4_signOver_13 : decode cX4_signOver 13 = .ok (.iload_n 2, 1) := by decide +kernel
theorem dX4_signOver_14 : decode cX4_signOver 14 = .ok (.iload_n 3, 1) := by decide +kernel
theorem dX4_signOver_15 : decode cX4_signOver 15 = .ok (.iadd, 1) := by decide +kernel
theorem dX4_signOver_16 : decode cX4_signOver 16 = .ok (.iaload, 1) := by decide +kernel
theorem dX4_signOver_17 : decode cX4_signOver 17 = .ok (.iload_n 1, 1) := by decide +kernel
theorem dX4_signOver_18 : decode cX4_signOver 18 = .ok (.if_icmp .gt 7, 3) := by decide +kernel
theorem dX4_signOver_21 : decode cX4_signOver 21 = .ok (.iload_n 2, 1) := by decide +kernel
theorem dX4_signOver_22 : decode cX4_signOver 22 = .ok (.iload_n 3, 1) := by decide +kernel
theorem dX4_signOver_23 : decode cX4_signOver 23 = .ok (.iadd, 1) := by decide +kernel
theorem dX4_signOver_24 : decode cX4_signOver 24 = .ok (.istore_n 2, 1) := by decide +kernel
theorem dX4_signOver_25 : decode cX4_signOver 25 = .ok (.iload_n 3, 1) := by decide +kernel
theorem dX4_signOver_26 : decode cX4_signOver 26 = .ok (.iconst 2, 1) := by decide +kernel
theorem dX4_signOver_27 : decode cX4_signOver 27 = .ok (.idiv, 1) := by decide +kernel
theorem dX4_signOver_28 : decode cX4_signOver 28 = .ok (.istore_n 3, 1) := by decide +kernel
theorem dX4_signOver_29 : decode cX4_signOver 29 = .ok (.goto (-24), 3) := by decide +kernel
theorem dX4_signOver_32 : decode cX4_signOver 32 = .ok (.iload_n 2, 1) := by decide +kernel
theorem dX4_signOver_33 : decode cX4_signOver 33 = .ok (.ireturn, 1) := by decide +kernel
theorem dX4_shareOf_0 : decode cX4_shareOf 0 = .ok (.iload_n 1, 1) := by decide +kernel
theorem dX4_shareOf_1 : decode cX4_shareOf 1 = .ok (.invokestatic 57, 3) := by decide +kernel
theorem dX4_shareOf_4 : decode cX4_shareOf 4 = .ok (.ifCond .eq 12, 3) := by decide +kernel
theorem dX4_shareOf_7 : decode cX4_shareOf 7 = .ok (.aload_n 0, 1) := by decide +kernel
theorem dX4_shareOf_8 : decode cX4_shareOf 8 = .ok (.getfield 9, 3) := by decide +kernel
theorem dX4_shareOf_11 : decode cX4_shareOf 11 = .ok (.iload_n 1, 1) := by decide +kernel
theorem dX4_shareOf_12 : decode cX4_shareOf 12 = .ok (.iaload, 1) := by decide +kernel
theorem dX4_shareOf_13 : decode cX4_shareOf 13 = .ok (.goto 4, 3) := by decide +kernel
theorem dX4_shareOf_16 : decode cX4_shareOf 16 = .ok (.iconst 0, 1) := by decide +kernel
theorem dX4_shareOf_17 : decode cX4_shareOf 17 = .ok (.ireturn, 1) := by decide +kernel
theorem dX4_fromOf_0 : decode cX4_fromOf 0 = .ok (.iload_n 1, 1) := by decide +kernel
theorem dX4_fromOf_1 : decode cX4_fromOf 1 = .ok (.invokestatic 57, 3) := by decide +kernel
theorem dX4_fromOf_4 : decode cX4_fromOf 4 = .ok (.ifCond .eq 12, 3) := by decide +kernel
theorem dX4_fromOf_7 : decode cX4_fromOf 7 = .ok (.aload_n 0, 1) := by decide +kernel
theorem dX4_fromOf_8 : decode cX4_fromOf 8 = .ok (.getfield 15, 3) := by decide +kernel
theorem dX4_fromOf_11 : decode cX4_fromOf 11 = .ok (.iload_n 1, 1) := by decide +kernel
theorem dX4_fromOf_12 : decode cX4_fromOf 12 = .ok (.iaload, 1) := by decide +kernel
theorem dX4_fromOf_13 : decode cX4_fromOf 13 = .ok (.goto 4, 3) := by decide +kernel
theorem dX4_fromOf_16 : decode cX4_fromOf 16 = .ok (.iconst 0, 1) := by decide +kernel
theorem dX4_fromOf_17 : decode cX4_fromOf 17 = .ok (.ireturn, 1) := by decide +kernel
theorem dX3_narrow_0 : decode cX3_narrow 0 = .ok (.aload_n 0, 1) := by decide +kernel
theorem dX3_narrow_1 : decode cX3_narrow 1 = .ok (.getfield 65, 3) := by decide +kernel
theorem dX3_narrow_4 : decode cX3_narrow 4 = .ok (.aload_n 0, 1) := by decide +kernel
theorem dX3_narrow_5 : decode cX3_narrow 5 = .ok (.getfield 14, 3) := by decide +kernel
theorem dX3_narrow_8 : decode cX3_narrow 8 = .ok (.getfield 77, 3) := by decide +kernel
theorem dX3_narrow_11 : decode cX3_narrow 11 = .ok (.invokestatic 99, 3) := by decide +kernel
theorem dX3_narrow_14 : decode cX3_narrow 14 = .ok (.lstore 5, 2) := by decide +kernel
theorem dX3_narrow_16 : decode cX3_narrow 16 = .ok (.aload_n 0, 1) := by decide +kernel
theorem dX3_narrow_17 : decode cX3_narrow 17 = .ok (.getfield 65, 3) := by decide +kernel
theorem dX3_narrow_20 : decode cX3_narrow 20 = .ok (.iconst 1, 1) := by decide +kernel
theorem dX3_narrow_21 : decode cX3_narrow 21 = .ok (.if_icmp .ne 7, 3) := by decide +kernel
theorem dX3_narrow_24 : decode cX3_narrow 24 = .ok (.iconst 4, 1) := by decide +kernel
theorem dX3_narrow_25 : decode cX3_narrow 25 = .ok (.goto 4, 3) := by decide +kernel
theorem dX3_narrow_28 : decode cX3_narrow 28 = .ok (.iconst 1, 1) := by decide +kernel
theorem dX3_narrow_29 : decode cX3_narrow 29 = .ok (.istore 7, 2) := by decide +kernel
theorem dX3_narrow_31 : decode cX3_narrow 31 = .ok (.iload_n 2, 1) := by decide +kernel
theorem dX3_narrow_32 : decode cX3_narrow 32 = .ok (.i2l, 1) := by decide +kernel
theorem dX3_narrow_33 : decode cX3_narrow 33 = .ok (.aload_n 0, 1) := by decide +kernel
theorem dX3_narrow_34 : decode cX3_narrow 34 = .ok (.getfield 20, 3) := by decide +kernel
theorem dX3_narrow_37 : decode cX3_narrow 37 = .ok (.iload_n 1, 1) := by decide +kernel
theorem dX3_narrow_38 : decode cX3_narrow 38 = .ok (.laload, 1) := by decide +kernel
theorem dX3_narrow_39 : decode cX3_narrow 39 = .ok (.aload_n 0, 1) := by decide +kernel
theorem dX3_narrow_40 : decode cX3_narrow 40 = .ok (.getfield 14, 3) := by decide +kernel
theorem dX3_narrow_43 : decode cX3_narrow 43 = .ok (.getfield 146, 3) := by decide +kernel
theorem dX3_narrow_46 : decode cX3_narrow 46 = .ok (.lshr, 1) := by decide +kernel
theorem dX3_narrow_47 : decode cX3_narrow 47 = .ok (.lmul, 1) := by decide +kernel
theorem dX3_narrow_48 : decode cX3_narrow 48 = .ok (.aload_n 0, 1) := by decide +kernel
theorem dX3_narrow_49 : decode cX3_narrow 49 = .ok (.iload_n 1, 1) := by decide +kernel
theorem dX3_narrow_50 : decode cX3_narrow 50 = .ok (.invokevirtual 130, 3) := by decide +kernel
theorem dX3_narrow_53 : decode cX3_narrow 53 = .ok (.i2l, 1) := by decide +kernel
theorem dX3_narrow_54 : decode cX3_narrow 54 = .ok (.ladd, 1) := by decide +kernel
theorem dX3_narrow_55 : decode cX3_narrow 55 = .ok (.iload_n 3, 1) := by decide +kernel
theorem dX3_narrow_56 : decode cX3_narrow 56 = .ok (.i2l, 1) := by decide +kernel
theorem dX3_narrow_57 : decode cX3_narrow 57 = .ok (.lsub, 1) := by decide +kernel
theorem dX3_narrow_58 : decode cX3_narrow 58 = .ok (.lstore 8, 2) := by decide +kernel
theorem dX3_narrow_60 : decode cX3_narrow 60 = .ok (.iconst 0, 1) := by decide +kernel
theorem dX3_narrow_61 : decode cX3_narrow 61 = .ok (.istore 10, 2) := by decide +kernel
theorem dX3_narrow_63 : decode cX3_narrow 63 = .ok (.iload 10, 2) := by decide +kernel
theorem dX3_narrow_65 : decode cX3_narrow 65 = .ok (.iconst 2, 1) := by decide +kernel
theorem dX3_narrow_66 : decode cX3_narrow 66 = .ok (.if_icmp .ge 48, 3) := by decide +kernel
theorem dX3_narrow_69 : decode cX3_narrow 69 = .ok (.lload 8, 2) := by decide +kernel
theorem dX3_narrow_71 : decode cX3_narrow 71 = .ok (.lload 5, 2) := by decide +kernel
theorem dX3_narrow_73 : decode cX3_narrow 73 = .ok (.lcmp, 1) := by decide +kernel
theorem dX3_narrow_74 : decode cX3_narrow 74 = .ok (.ifCond .ge 40, 3) := by decide +kernel
theorem dX3_narrow_77 : decode cX3_narrow 77 = .ok (.aload_n 0, 1) := by decide +kernel
theorem dX3_narrow_78 : decode cX3_narrow 78 = .ok (.aload 4, 2) := by decide +kernel
theorem dX3_narrow_80 : decode cX3_narrow 80 = .ok (.iload 7, 2) := by decide +kernel
theorem dX3_narrow_82 : decode cX3_narrow 82 = .ok (.invokevirtual 61, 3) := by decide +kernel
theorem dX3_narrow_85 : decode cX3_narrow 85 = .ok (.lstore 11, 2) := by decide +kernel
theorem dX3_narrow_87 : decode cX3_narrow 87 = .ok (.aload_n 0, 1) := by decide +kernel
theorem dX3_narrow_88 : decode cX3_narrow 88 = .ok (.getfield 32, 3) := by decide +kernel
theorem dX3_narrow_91 : decode cX3_narrow 91 = .ok (.ifCond .eq 4, 3) := by decide +kernel
theorem dX3_narrow_94 : decode cX3_narrow 94 = .ok (.return_, 1) := by decide +kernel
theorem dX3_narrow_95 : decode cX3_narrow 95 = .ok (.lload 8, 2) := by decide +kernel
theorem dX3_narrow_97 : decode cX3_narrow 97 = .ok (.bipush 8, 2) := by decide +kernel
theorem dX3_narrow_99 : decode cX3_narrow 99 = .ok (.iload 7, 2) := by decide +kernel
theorem dX3_narrow_101 : decode cX3_narrow 101 = .ok (.imul, 1) := by decide +kernel
theorem dX3_narrow_102 : decode cX3_narrow 102 = .ok (.lshl, 1) := by decide +kernel
theorem dX3_narrow_103 : decode cX3_narrow 103 = .ok (.lload 11, 2) := by decide +kernel
theorem dX3_narrow_105 : decode cX3_narrow 105 = .ok (.ladd, 1) := by decide +kernel
theorem dX3_narrow_106 : decode cX3_narrow 106 = .ok (.lstore 8, 2) := by decide +kernel
theorem dX3_narrow_108 : decode cX3_narrow 108 = .ok (.iinc 10 1, 3) := by decide +kernel
theorem dX3_narrow_111 : decode cX3_narrow 111 = .ok (.goto (-48), 3) := by decide +kernel
theorem dX3_narrow_114 : decode cX3_narrow 114 = .ok (.aload_n 0, 1) := by decide +kernel
theorem dX3_narrow_115 : decode cX3_narrow 115 = .ok (.getfield 20, 3) := by decide +kernel
theorem dX3_narrow_118 : decode cX3_narrow 118 = .ok (.iload_n 1, 1) := by decide +kernel
theorem dX3_narrow_119 : decode cX3_narrow 119 = .ok (.lload 8, 2) := by decide +kernel
theorem dX3_narrow_121 : decode cX3_narrow 121 = .ok (.lastore, 1) := by decide +kernel
theorem dX3_narrow_122 : decode cX3_narrow 122 = .ok (.return_, 1) := by decide +kernel
theorem dX4_shareOfZero_0 : decode cX4_shareOfZero 0 = .ok (.iload_n 1, 1) := by decide +kernel
theorem dX4_shareOfZero_1 : decode cX4_shareOfZero 1 = .ok (.ifCond .lt 24, 3) := by decide +kernel
theorem dX4_shareOfZero_4 : decode cX4_shareOfZero 4 = .ok (.iload_n 2, 1) := by decide +kernel
theorem dX4_shareOfZero_5 : decode cX4_shareOfZero 5 = .ok (.iconst 1, 1) := by decide +kernel
theorem dX4_shareOfZero_6 : decode cX4_shareOfZero 6 = .ok (.if_icmp .lt 19, 3) := by decide +kernel
theorem dX4_shareOfZero_9 : decode cX4_shareOfZero 9 = .ok (.iload_n 2, 1) := by decide +kernel
theorem dX4_shareOfZero_10 : decode cX4_shareOfZero 10 = .ok (.bipush 16, 2) := by decide +kernel
theorem dX4_shareOfZero_12 : decode cX4_shareOfZero 12 = .ok (.if_icmp .gt 13, 3) := by decide +kernel
theorem dX4_shareOfZero_15 : decode cX4_shareOfZero 15 = .ok (.iload_n 1, 1) := by decide +kernel
theorem dX4_shareOfZero_16 : decode cX4_shareOfZero 16 = .ok (.bipush 32, 2) := by decide +kernel
theorem dX4_shareOfZero_18 : decode cX4_shareOfZero 18 = .ok (.iconst 2, 1) := by decide +kernel
theorem dX4_shareOfZero_19 : decode cX4_shareOfZero 19 = .ok (.iload_n 2, 1) := by decide +kernel
theorem dX4_shareOfZero_20 : decode cX4_shareOfZero 20 = .ok (.imul, 1) := by decide +kernel
theorem dX4_shareOfZero_21 : decode cX4_shareOfZero 21 = .ok (.isub, 1) := by decide +kernel
theorem dX4_shareOfZero_22 : decode cX4_shareOfZero 22 = .ok (.if_icmp .le 8, 3) := by decide +kernel
theorem dX4_shareOfZero_25 : decode cX4_shareOfZero 25 = .ok (.aload_n 0, 1) := by decide +kernel
theorem dX4_shareOfZero_26 : decode cX4_shareOfZero 26 = .ok (.getfield 38, 3) := by decide +kernel
theorem dX4_shareOfZero_29 : decode cX4_shareOfZero 29 = .ok (.ireturn, 1) := by decide +kernel
theorem dX4_shareOfZero_30 : decode cX4_shareOfZero 30 = .ok (.aload_n 0, 1) := by decide +kernel
theorem dX4_shareOfZero_31 : decode cX4_shareOfZero 31 = .ok (.getfield 15, 3) := by decide +kernel
theorem dX4_shareOfZero_34 : decode cX4_shareOfZero 34 = .ok (.iload_n 1, 1) := by decide +kernel
theorem dX4_shareOfZero_35 : decode cX4_shareOfZero 35 = .ok (.iconst 2, 1) := by decide +kernel
theorem dX4_shareOfZero_36 : decode cX4_shareOfZero 36 = .ok (.iload_n 2, 1) := by decide +kernel
theorem dX4_shareOfZero_37 : decode cX4_shareOfZero 37 = .ok (.imul, 1) := by decide +kernel
theorem dX4_shareOfZero_38 : decode cX4_shareOfZero 38 = .ok (.iadd, 1) := by decide +kernel
theorem dX4_shareOfZero_39 : decode cX4_shareOfZero 39 = .ok (.iaload, 1) := by decide +kernel
theorem dX4_shareOfZero_40 : decode cX4_shareOfZero 40 = .ok (.aload_n 0, 1) := by decide +kernel
theorem dX4_shareOfZero_41 : decode cX4_shareOfZero 41 = .ok (.getfield 15, 3) := by decide +kernel
theorem dX4_shareOfZero_44 : decode cX4_shareOfZero 44 = .ok (.iload_n 1, 1) := by decide +kernel
theorem dX4_shareOfZero_45 : decode cX4_shareOfZero 45 = .ok (.iaload, 1) := by decide +kernel
theorem dX4_shareOfZero_46 : decode cX4_shareOfZero 46 = .ok (.isub, 1) := by decide +kernel
theorem dX4_shareOfZero_47 : decode cX4_shareOfZero 47 = .ok (.istore_n 3, 1) := by decide +kernel
theorem dX4_shareOfZero_48 : decode cX4_shareOfZero 48 = .ok (.aload_n 0, 1) := by decide +kernel
theorem dX4_shareOfZero_49 : decode cX4_shareOfZero 49 = .ok (.getfield 15, 3) := by decide +kernel
theorem dX4_shareOfZero_52 : decode cX4_shareOfZero 52 = .ok (.iload_n 1, 1) := by decide +kernel
theorem dX4_shareOfZero_53 : decode cX4_shareOfZero 53 = .ok (.iload_n 2, 1) := by decide +kernel
theorem dX4_shareOfZero_54 : decode cX4_shareOfZero 54 = .ok (.iadd, 1) := by decide +kernel
theorem dX4_shareOfZero_55 : decode cX4_shareOfZero 55 = .ok (.iaload, 1) := by decide +kernel
theorem dX4_shareOfZero_56 : decode cX4_shareOfZero 56 = .ok (.aload_n 0, 1) := by decide +kernel
theorem dX4_shareOfZero_57 : decode cX4_shareOfZero 57 = .ok (.getfield 15, 3) := by decide +kernel
theorem dX4_shareOfZero_60 : decode cX4_shareOfZero 60 = .ok (.iload_n 1, 1) := by decide +kernel
theorem dX4_shareOfZero_61 : decode cX4_shareOfZero 61 = .ok (.iaload, 1) := by decide +kernel
theorem dX4_shareOfZero_62 : decode cX4_shareOfZero 62 = .ok (.isub, 1) := by decide +kernel
theorem dX4_shareOfZero_63 : decode cX4_shareOfZero 63 = .ok (.istore 4, 2) := by decide +kernel
theorem dX4_shareOfZero_65 : decode cX4_shareOfZero 65 = .ok (.iload_n 3, 1) := by decide +kernel
theorem dX4_shareOfZero_66 : decode cX4_shareOfZero 66 = .ok (.ifCond .le 9, 3) := by decide +kernel
theorem dX4_shareOfZero_69 : decode cX4_shareOfZero 69 = .ok (.iload 4, 2) := by decide +kernel
theorem dX4_shareOfZero_71 : decode cX4_shareOfZero 71 = .ok (.iload_n 3, 1) := by decide +kernel
theorem dX4_shareOfZero_72 : decode cX4_shareOfZero 72 = .ok (.if_icmp .ne 8, 3) := by decide +kernel
theorem dX4_shareOfZero_75 : decode cX4_shareOfZero 75 = .ok (.aload_n 0, 1) := by decide +kernel
theorem dX4_shareOfZero_76 : decode cX4_shareOfZero 76 = .ok (.getfield 38, 3) := by decide +kernel
theorem dX4_shareOfZero_79 : decode cX4_shareOfZero 79 = .ok (.ireturn, 1) := by decide +kernel
theorem dX4_shareOfZero_80 : decode cX4_shareOfZero 80 = .ok (.iload 4, 2) := by decide +kernel
theorem dX4_shareOfZero_82 : decode cX4_shareOfZero 82 = .ok (.ifCond .ne 5, 3) := by decide +kernel
theorem dX4_shareOfZero_85 : decode cX4_shareOfZero 85 = .ok (.iconst 0, 1) := by decide +kernel
theorem dX4_shareOfZero_86 : decode cX4_shareOfZero 86 = .ok (.ireturn, 1) := by decide +kernel
theorem dX4_shareOfZero_87 : decode cX4_shareOfZero 87 = .ok (.iload 4, 2) := by decide +kernel
theorem dX4_shareOfZero_89 : decode cX4_shareOfZero 89 = .ok (.aload_n 0, 1) := by decide +kernel
theorem dX4_shareOfZero_90 : decode cX4_shareOfZero 90 = .ok (.getfield 38, 3) := by decide +kernel
theorem dX4_shareOfZero_93 : decode cX4_shareOfZero 93 = .ok (.imul, 1) := by decide +kernel
theorem dX4_shareOfZero_94 : decode cX4_shareOfZero 94 = .ok (.iload_n 3, 1) := by decide +kernel
theorem dX4_shareOfZero_95 : decode cX4_shareOfZero 95 = .ok (.iconst 2, 1) := by decide +kernel
theorem dX4_shareOfZero_96 : decode cX4_shareOfZero 96 = .ok (.idiv, 1) := by decide +kernel
theorem dX4_shareOfZero_97 : decode cX4_shareOfZero 97 = .ok (.iadd, 1) := by decide +kernel
theorem dX4_shareOfZero_98 : decode cX4_shareOfZero 98 = .ok (.iload_n 3, 1) := by decide +kernel
theorem dX4_shareOfZero_99 : decode cX4_shareOfZero 99 = .ok (.idiv, 1) := by decide +kernel
theorem dX4_shareOfZero_100 : decode cX4_shareOfZero 100 = .ok (.istore 5, 2) := by decide +kernel
theorem dX4_shareOfZero_102 : decode cX4_shareOfZero 102 = .ok (.iload 5, 2) := by decide +kernel
theorem dX4_shareOfZero_104 : decode cX4_shareOfZero 104 = .ok (.iconst 1, 1) := by decide +kernel
theorem dX4_shareOfZero_105 : decode cX4_shareOfZero 105 = .ok (.invokestatic 78, 3) := by decide +kernel
theorem dX4_shareOfZero_108 : decode cX4_shareOfZero 108 = .ok (.aload_n 0, 1) := by decide +kernel
theorem dX4_shareOfZero_109 : decode cX4_shareOfZero 109 = .ok (.getfield 38, 3) := by decide +kernel
theorem dX4_shareOfZero_112 : decode cX4_shareOfZero 112 = .ok (.iconst 1, 1) := by decide +kernel
theorem dX4_shareOfZero_113 : decode cX4_shareOfZero 113 = .ok (.isub, 1) := by decide +kernel
theorem dX4_shareOfZero_114 : decode cX4_shareOfZero 114 = .ok (.invokestatic 84, 3) := by decide +kernel
theorem dX4_shareOfZero_117 : decode cX4_shareOfZero 117 = .ok (.ireturn, 1) := by decide +kernel
theorem dX3_takeTwoSided_0 : decode cX3_takeTwoSided 0 = .ok (.iconst 0, 1) := by decide +kernel
theorem dX3_takeTwoSided_1 : decode cX3_takeTwoSided 1 = .ok (.istore_n 3, 1) := by decide +kernel
theorem dX3_takeTwoSided_2 : decode cX3_takeTwoSided 2 = .ok (.bipush 16, 2) := by decide +kernel
theorem dX3_takeTwoSided_4 : decode cX3_takeTwoSided 4 = .ok (.istore 4, 2) := by decide +kernel
theorem dX3_takeTwoSided_6 : decode cX3_takeTwoSided 6 = .ok (.iload 4, 2) := by decide +kernel
theorem dX3_takeTwoSided_8 : decode cX3_takeTwoSided 8 = .ok (.ifCond .le 78, 3) := by decide +kernel
theorem dX3_takeTwoSided_11 : decode cX3_takeTwoSided 11 = .ok (.aload_n 0, 1) := by decide +kernel
theorem dX3_takeTwoSided_12 : decode cX3_takeTwoSided 12 = .ok (.getfield 14, 3) := by decide +kernel
theorem dX3_takeTwoSided_15 : decode cX3_takeTwoSided 15 = .ok (.iload_n 3, 1) := by decide +kernel
theorem dX3_takeTwoSided_16 : decode cX3_takeTwoSided 16 = .ok (.iload 4, 2) := by decide +kernel
theorem dX3_takeTwoSided_18 : decode cX3_takeTwoSided 18 = .ok (.invokevirtual 155, 3) := by decide +kernel
theorem dX3_takeTwoSided_21 : decode cX3_takeTwoSided 21 = .ok (.istore 5, 2) := by decide +kernel
theorem dX3_takeTwoSided_23 : decode cX3_takeTwoSided 23 = .ok (.aload_n 0, 1) := by decide +kernel
theorem dX3_takeTwoSided_24 : decode cX3_takeTwoSided 24 = .ok (.iload_n 1, 1) := by decide +kernel
theorem dX3_takeTwoSided_25 : decode cX3_takeTwoSided 25 = .ok (.invokevirtual 130, 3) := by decide +kernel
theorem dX3_takeTwoSided_28 : decode cX3_takeTwoSided 28 = .ok (.iload 5, 2) := by decide +kernel
theorem dX3_takeTwoSided_30 : decode cX3_takeTwoSided 30 = .ok (.if_icmp .ge 15, 3) := by decide +kernel
theorem dX3_takeTwoSided_33 : decode cX3_takeTwoSided 33 = .ok (.aload_n 0, 1) := by decide +kernel
theorem dX3_takeTwoSided_34 : decode cX3_takeTwoSided 34 = .ok (.iload_n 1, 1) := by decide +kernel
theorem dX3_takeTwoSided_35 : decode cX3_takeTwoSided 35 = .ok (.iload 5, 2) := by decide +kernel
theorem dX3_takeTwoSided_37 : decode cX3_takeTwoSided 37 = .ok (.iconst 0, 1) := by decide +kernel
theorem dX3_takeTwoSided_38 : decode cX3_takeTwoSided 38 = .ok (.aload_n 2, 1) := by decide +kernel
theorem dX3_takeTwoSided_39 : decode cX3_takeTwoSided 39 = .ok (.invokevirtual 142, 3) := by decide +kernel
theorem dX3_takeTwoSided_42 : decode cX3_takeTwoSided 42 = .ok (.goto 26, 3) := by decide +kernel
theorem dX3_takeTwoSided_45 : decode cX3_takeTwoSided 45 = .ok (.aload_n 0, 1) := by decide +kernel
theorem dX3_takeTwoSided_46 : decode cX3_takeTwoSided 46 = .ok (.iload_n 1, 1) := by decide +kernel
theorem dX3_takeTwoSided_47 : decode cX3_takeTwoSided 47 = .ok (.aload_n 0, 1) := by decide +kernel
theorem dX3_takeTwoSided_48 : decode cX3_takeTwoSided 48 = .ok (.getfield 14, 3) := by decide +kernel
theorem dX3_takeTwoSided_51 : decode cX3_takeTwoSided 51 = .ok (.getfield 77, 3) := by decide +kernel
theorem dX3_takeTwoSided_54 : decode cX3_takeTwoSided 54 = .ok (.iload 5, 2) := by decide +kernel
theorem dX3_takeTwoSided_56 : decode cX3_takeTwoSided 56 = .ok (.isub, 1) := by decide +kernel
theorem dX3_takeTwoSided_57 : decode cX3_takeTwoSided 57 = .ok (.iload 5, 2) := by decide +kernel
theorem dX3_takeTwoSided_59 : decode cX3_takeTwoSided 59 = .ok (.aload_n 2, 1) := by decide +kernel
theorem dX3_takeTwoSided_60 : decode cX3_takeTwoSided 60 = .ok (.invokevirtual 142, 3) := by decide +kernel
theorem dX3_takeTwoSided_63 : decode cX3_takeTwoSided 63 = .ok (.iload_n 3, 1) := by decide +kernel
theorem dX3_takeTwoSided_64 : decode cX3_takeTwoSided 64 = .ok (.iload 4, 2) := by decide +kernel
theorem dX3_takeTwoSided_66 : decode cX3_takeTwoSided 66 = .ok (.iadd, 1) := by decide +kernel
theorem dX3_takeTwoSided_67 : decode cX3_takeTwoSided 67 = .ok (.istore_n 3, 1) := by decide +kernel
theorem dX3_takeTwoSided_68 : decode cX3_takeTwoSided 68 = .ok (.aload_n 0, 1) := by decide +kernel
theorem dX3_takeTwoSided_69 : decode cX3_takeTwoSided 69 = .ok (.getfield 32, 3) := by decide +kernel
theorem dX3_takeTwoSided_72 : decode cX3_takeTwoSided 72 = .ok (.ifCond .eq 5, 3) := by decide +kernel
theorem dX3_takeTwoSided_75 : decode cX3_takeTwoSided 75 = .ok (.iconst (-1), 1) := by decide +kernel
theorem dX3_takeTwoSided_76 : decode cX3_takeTwoSided 76 = .ok (.ireturn, 1) := by decide +kernel
theorem dX3_takeTwoSided_77 : decode cX3_takeTwoSided 77 = .ok (.iload 4, 2) := by decide +kernel
theorem dX3_takeTwoSided_79 : decode cX3_takeTwoSided 79 = .ok (.iconst 2, 1) := by decide +kernel
theorem dX3_takeTwoSided_80 : decode cX3_takeTwoSided 80 = .ok (.idiv, 1) := by decide +kernel
theorem dX3_takeTwoSided_81 : decode cX3_takeTwoSided 81 = .ok (.istore 4, 2) := by decide +kernel
theorem dX3_takeTwoSided_83 : decode cX3_takeTwoSided 83 = .ok (.goto (-77), 3) := by decide +kernel
theorem dX3_takeTwoSided_86 : decode cX3_takeTwoSided 86 = .ok (.iload_n 3, 1) := by decide +kernel
theorem dX3_takeTwoSided_87 : decode cX3_takeTwoSided 87 = .ok (.ireturn, 1) := by decide +kernel
theorem dX4_numberAt_0 : decode cX4_numberAt 0 = .ok (.iload_n 1, 1) := by decide +kernel
theorem dX4_numberAt_1 : decode cX4_numberAt 1 = .ok (.ifCond .lt 29, 3) := by decide +kernel
theorem dX4_numberAt_4 : decode cX4_numberAt 4 = .ok (.iload_n 1, 1) := by decide +kernel
theorem dX4_numberAt_5 : decode cX4_numberAt 5 = .ok (.aload_n 0, 1) := by decide +kernel
theorem dX4_numberAt_6 : decode cX4_numberAt 6 = .ok (.getfield 38, 3) := by decide +kernel
theorem dX4_numberAt_9 : decode cX4_numberAt 9 = .ok (.if_icmp .ge 21, 3) := by decide +kernel
theorem dX4_numberAt_12 : decode cX4_numberAt 12 = .ok (.iload_n 1, 1) := by decide +kernel
theorem dX4_numberAt_13 : decode cX4_numberAt 13 = .ok (.aload_n 0, 1) := by decide +kernel
theorem dX4_numberAt_14 : decode cX4_numberAt 14 = .ok (.getfield 28, 3) := by decide +kernel
theorem dX4_numberAt_17 : decode cX4_numberAt 17 = .ok (.arraylength, 1) := by decide +kernel
theorem dX4_numberAt_18 : decode cX4_numberAt 18 = .ok (.if_icmp .ge 12, 3) := by decide +kernel
theorem dX4_numberAt_21 : decode cX4_numberAt 21 = .ok (.aload_n 0, 1) := by decide +kernel
theorem dX4_numberAt_22 : decode cX4_numberAt 22 = .ok (.getfield 28, 3) := by decide +kernel
theorem dX4_numberAt_25 : decode cX4_numberAt 25 = .ok (.iload_n 1, 1) := by decide +kernel
theorem dX4_numberAt_26 : decode cX4_numberAt 26 = .ok (.iaload, 1) := by decide +kernel
theorem dX4_numberAt_27 : decode cX4_numberAt 27 = .ok (.goto 4, 3) := by decide +kernel
theorem dX4_numberAt_30 : decode cX4_numberAt 30 = .ok (.iconst (-1), 1) := by decide +kernel
theorem dX4_numberAt_31 : decode cX4_numberAt 31 = .ok (.ireturn, 1) := by decide +kernel
theorem dX4_signAt_0 : decode cX4_signAt 0 = .ok (.iload_n 1, 1) := by decide +kernel
theorem dX4_signAt_1 : decode cX4_signAt 1 = .ok (.ifCond .lt 29, 3) := by decide +kernel
theorem dX4_signAt_4 : decode cX4_signAt 4 = .ok (.iload_n 1, 1) := by decide +kernel
theorem dX4_signAt_5 : decode cX4_signAt 5 = .ok (.aload_n 0, 1) := by decide +kernel
theorem dX4_signAt_6 : decode cX4_signAt 6 = .ok (.getfield 38, 3) := by decide +kernel
theorem dX4_signAt_9 : decode cX4_signAt 9 = .ok (.if_icmp .ge 21, 3) := by decide +kernel
theorem dX4_signAt_12 : decode cX4_signAt 12 = .ok (.iload_n 1, 1) := by decide +kernel
theorem dX4_signAt_13 : decode cX4_signAt 13 = .ok (.aload_n 0, 1) := by decide +kernel
theorem dX4_signAt_14 : decode cX4_signAt 14 = .ok (.getfield 25, 3) := by decide +kernel
theorem dX4_signAt_17 : decode cX4_signAt 17 = .ok (.arraylength, 1) := by decide +kernel
theorem dX4_signAt_18 : decode cX4_signAt 18 = .ok (.if_icmp .ge 12, 3) := by decide +kernel
theorem dX4_signAt_21 : decode cX4_signAt 21 = .ok (.aload_n 0, 1) := by decide +kernel
theorem dX4_signAt_22 : decode cX4_signAt 22 = .ok (.getfield 25, 3) := by decide +kernel
theorem dX4_signAt_25 : decode cX4_signAt 25 = .ok (.iload_n 1, 1) := by decide +kernel
theorem dX4_signAt_26 : decode cX4_signAt 26 = .ok (.iaload, 1) := by decide +kernel
theorem dX4_signAt_27 : decode cX4_signAt 27 = .ok (.goto 4, 3) := by decide +kernel
theorem dX4_signAt_30 : decode cX4_signAt 30 = .ok (.iconst (-1), 1) := by decide +kernel
theorem dX4_signAt_31 : decode cX4_signAt 31 = .ok (.ireturn, 1) := by decide +kernel
theorem dX3_takeByTable_0 : decode cX3_takeByTable 0 = .ok (.aload_n 0, 1) := by decide +kernel
theorem dX3_takeByTable_1 : decode cX3_takeByTable 1 = .ok (.getfield 20, 3) := by decide +kernel
theorem dX3_takeByTable_4 : decode cX3_takeByTable 4 = .ok (.iload_n 1, 1) := by decide +kernel
theorem dX3_takeByTable_5 : decode cX3_takeByTable 5 = .ok (.laload, 1) := by decide +kernel
theorem dX3_takeByTable_6 : decode cX3_takeByTable 6 = .ok (.l2i, 1) := by decide +kernel
theorem dX3_takeByTable_7 : decode cX3_takeByTable 7 = .ok (.aload_n 0, 1) := by decide +kernel
theorem dX3_takeByTable_8 : decode cX3_takeByTable 8 = .ok (.getfield 14, 3) := by decide +kernel
theorem dX3_takeByTable_11 : decode cX3_takeByTable 11 = .ok (.getfield 77, 3) := by decide +kernel
theorem dX3_takeByTable_14 : decode cX3_takeByTable 14 = .ok (.isub, 1) := by decide +kernel
theorem dX3_takeByTable_15 : decode cX3_takeByTable 15 = .ok (.istore_n 3, 1) := by decide +kernel
theorem dX3_takeByTable_16 : decode cX3_takeByTable 16 = .ok (.aload_n 0, 1) := by decide +kernel
theorem dX3_takeByTable_17 : decode cX3_takeByTable 17 = .ok (.getfield 14, 3) := by decide +kernel
theorem dX3_takeByTable_20 : decode cX3_takeByTable 20 = .ok (.iload_n 3, 1) := by decide +kernel
theorem dX3_takeByTable_21 : decode cX3_takeByTable 21 = .ok (.invokevirtual 149, 3) := by decide +kernel
theorem dX3_takeByTable_24 : decode cX3_takeByTable 24 = .ok (.istore 4, 2) := by decide +kernel
theorem dX3_takeByTable_26 : decode cX3_takeByTable 26 = .ok (.iconst 0, 1) := by decide +kernel
theorem dX3_takeByTable_27 : decode cX3_takeByTable 27 = .ok (.istore 5, 2) := by decide +kernel
theorem dX3_takeByTable_29 : decode cX3_takeByTable 29 = .ok (.iload 5, 2) := by decide +kernel
theorem dX3_takeByTable_31 : decode cX3_takeByTable 31 = .ok (.bipush 12, 2) := by decide +kernel
theorem dX3_takeByTable_33 : decode cX3_takeByTable 33 = .ok (.if_icmp .gt 47, 3) := by decide +kernel
theorem dX3_takeByTable_36 : decode cX3_takeByTable 36 = .ok (.iload 4, 2) := by decide +kernel
theorem dX3_takeByTable_38 : decode cX3_takeByTable 38 = .ok (.aload_n 0, 1) := by decide +kernel
theorem dX3_takeByTable_39 : decode cX3_takeByTable 39 = .ok (.getfield 14, 3) := by decide +kernel
theorem dX3_takeByTable_42 : decode cX3_takeByTable 42 = .ok (.getfield 77, 3) := by decide +kernel
theorem dX3_takeByTable_45 : decode cX3_takeByTable 45 = .ok (.if_icmp .ge 35, 3) := by decide +kernel
theorem dX3_takeByTable_48 : decode cX3_takeByTable 48 = .ok (.aload_n 0, 1) := by decide +kernel
theorem dX3_takeByTable_49 : decode cX3_takeByTable 49 = .ok (.aload_n 2, 1) := by decide +kernel
theorem dX3_takeByTable_50 : decode cX3_takeByTable 50 = .ok (.iconst 1, 1) := by decide +kernel
theorem dX3_takeByTable_51 : decode cX3_takeByTable 51 = .ok (.invokevirtual 84, 3) := by decide +kernel
theorem dX3_takeByTable_54 : decode cX3_takeByTable 54 = .ok (.istore 6, 2) := by decide +kernel
theorem dX3_takeByTable_56 : decode cX3_takeByTable 56 = .ok (.aload_n 0, 1) := by decide +kernel
theorem dX3_takeByTable_57 : decode cX3_takeByTable 57 = .ok (.getfield 32, 3) := by decide +kernel
theorem dX3_takeByTable_60 : decode cX3_takeByTable 60 = .ok (.ifCond .eq 5, 3) := by decide +kernel
theorem dX3_takeByTable_63 : decode cX3_takeByTable 63 = .ok (.iconst (-1), 1) := by decide +kernel
theorem dX3_takeByTable_64 : decode cX3_takeByTable 64 = .ok (.ireturn, 1) := by decide +kernel
theorem dX3_takeByTable_65 : decode cX3_takeByTable 65 = .ok (.iconst 2, 1) := by decide +kernel
theorem dX3_takeByTable_66 : decode cX3_takeByTable 66 = .ok (.iload 4, 2) := by decide +kernel
theorem dX3_takeByTable_68 : decode cX3_takeByTable 68 = .ok (.imul, 1) := by decide +kernel
theorem dX3_takeByTable_69 : decode cX3_takeByTable 69 = .ok (.iload 6, 2) := by decide +kernel
theorem dX3_takeByTable_71 : decode cX3_takeByTable 71 = .ok (.iadd, 1) := by decide +kernel
theorem dX3_takeByTable_72 : decode cX3_takeByTable 72 = .ok (.istore 4, 2) := by decide +kernel
theorem dX3_takeByTable_74 : decode cX3_takeByTable 74 = .ok (.iinc 5 1, 3) := by decide +kernel
theorem dX3_takeByTable_77 : decode cX3_takeByTable 77 = .ok (.goto (-48), 3) := by decide +kernel
theorem dX3_takeByTable_80 : decode cX3_takeByTable 80 = .ok (.aload_n 0, 1) := by decide +kernel
theorem dX3_takeByTable_81 : decode cX3_takeByTable 81 = .ok (.getfield 20, 3) := by decide +kernel
theorem dX3_takeByTable_84 : decode cX3_takeByTable 84 = .ok (.iload_n 1, 1) := by decide +kernel
theorem dX3_takeByTable_85 : decode cX3_takeByTable 85 = .ok (.iload 4, 2) := by decide +kernel
theorem dX3_takeByTable_87 : decode cX3_takeByTable 87 = .ok (.i2l, 1) := by decide +kernel
theorem dX3_takeByTable_88 : decode cX3_takeByTable 88 = .ok (.lastore, 1) := by decide +kernel
theorem dX3_takeByTable_89 : decode cX3_takeByTable 89 = .ok (.aload_n 0, 1) := by decide +kernel
theorem dX3_takeByTable_90 : decode cX3_takeByTable 90 = .ok (.getfield 14, 3) := by decide +kernel
theorem dX3_takeByTable_93 : decode cX3_takeByTable 93 = .ok (.iload_n 3, 1) := by decide +kernel
theorem dX3_takeByTable_94 : decode cX3_takeByTable 94 = .ok (.invokevirtual 152, 3) := by decide +kernel
theorem dX3_takeByTable_97 : decode cX3_takeByTable 97 = .ok (.ireturn, 1) := by decide +kernel
theorem dX3_takeSign_0 : decode cX3_takeSign 0 = .ok (.aload_n 0, 1) := by decide +kernel
theorem dX3_takeSign_1 : decode cX3_takeSign 1 = .ok (.getfield 65, 3) := by decide +kernel
theorem dX3_takeSign_4 : decode cX3_takeSign 4 = .ok (.iconst 2, 1) := by decide +kernel
theorem dX3_takeSign_5 : decode cX3_takeSign 5 = .ok (.if_icmp .ne 10, 3) := by decide +kernel
theorem dX3_takeSign_8 : decode cX3_takeSign 8 = .ok (.aload_n 0, 1) := by decide +kernel
theorem dX3_takeSign_9 : decode cX3_takeSign 9 = .ok (.iload_n 1, 1) := by decide +kernel
theorem dX3_takeSign_10 : decode cX3_takeSign 10 = .ok (.aload_n 2, 1) := by decide +kernel
theorem dX3_takeSign_11 : decode cX3_takeSign 11 = .ok (.invokevirtual 124, 3) := by decide +kernel
theorem dX3_takeSign_14 : decode cX3_takeSign 14 = .ok (.ireturn, 1) := by decide +kernel
theorem dX3_takeSign_15 : decode cX3_takeSign 15 = .ok (.aload_n 0, 1) := by decide +kernel
theorem dX3_takeSign_16 : decode cX3_takeSign 16 = .ok (.getfield 65, 3) := by decide +kernel
theorem dX3_takeSign_19 : decode cX3_takeSign 19 = .ok (.iconst 3, 1) := by decide +kernel
theorem dX3_takeSign_20 : decode cX3_takeSign 20 = .ok (.if_icmp .ne 10, 3) := by decide +kernel
theorem dX3_takeSign_23 : decode cX3_takeSign 23 = .ok (.aload_n 0, 1) := by decide +kernel
theorem dX3_takeSign_24 : decode cX3_takeSign 24 = .ok (.iload_n 1, 1) := by decide +kernel
theorem dX3_takeSign_25 : decode cX3_takeSign 25 = .ok (.aload_n 2, 1) := by decide +kernel
theorem dX3_takeSign_26 : decode cX3_takeSign 26 = .ok (.invokevirtual 127, 3) := by decide +kernel
theorem dX3_takeSign_29 : decode cX3_takeSign 29 = .ok (.ireturn, 1) := by decide +kernel
theorem dX3_takeSign_30 : decode cX3_takeSign 30 = .ok (.aload_n 0, 1) := by decide +kernel
theorem dX3_takeSign_31 : decode cX3_takeSign 31 = .ok (.getfield 14, 3) := by decide +kernel
theorem dX3_takeSign_34 : decode cX3_takeSign 34 = .ok (.aload_n 0, 1) := by decide +kernel
theorem dX3_takeSign_35 : decode cX3_takeSign 35 = .ok (.iload_n 1, 1) := by decide +kernel
theorem dX3_takeSign_36 : decode cX3_takeSign 36 = .ok (.invokevirtual 130, 3) := by decide +kernel
theorem dX3_takeSign_39 : decode cX3_takeSign 39 = .ok (.invokevirtual 133, 3) := by decide +kernel
theorem dX3_takeSign_42 : decode cX3_takeSign 42 = .ok (.istore_n 3, 1) := by decide +kernel
theorem dX3_takeSign_43 : decode cX3_takeSign 43 = .ok (.aload_n 0, 1) := by decide +kernel
theorem dX3_takeSign_44 : decode cX3_takeSign 44 = .ok (.iload_n 1, 1) := by decide +kernel
theorem dX3_takeSign_45 : decode cX3_takeSign 45 = .ok (.aload_n 0, 1) := by decide +kernel
theorem dX3_takeSign_46 : decode cX3_takeSign 46 = .ok (.getfield 14, 3) := by decide +kernel
theorem dX3_takeSign_49 : decode cX3_takeSign 49 = .ok (.iload_n 3, 1) := by decide +kernel
theorem dX3_takeSign_50 : decode cX3_takeSign 50 = .ok (.invokevirtual 136, 3) := by decide +kernel
theorem dX3_takeSign_53 : decode cX3_takeSign 53 = .ok (.aload_n 0, 1) := by decide +kernel
theorem dX3_takeSign_54 : decode cX3_takeSign 54 = .ok (.getfield 14, 3) := by decide +kernel
theorem dX3_takeSign_57 : decode cX3_takeSign 57 = .ok (.iload_n 3, 1) := by decide +kernel
theorem dX3_takeSign_58 : decode cX3_takeSign 58 = .ok (.invokevirtual 139, 3) := by decide +kernel
theorem dX3_takeSign_61 : decode cX3_takeSign 61 = .ok (.aload_n 2, 1) := by decide +kernel
theorem dX3_takeSign_62 : decode cX3_takeSign 62 = .ok (.invokevirtual 142, 3) := by decide +kernel
theorem dX3_takeSign_65 : decode cX3_takeSign 65 = .ok (.iload_n 3, 1) := by decide +kernel
theorem dX3_takeSign_66 : decode cX3_takeSign 66 = .ok (.ireturn, 1) := by decide +kernel
theorem dX3_keep_0 : decode cX3_keep 0 = .ok (.aload_n 0, 1) := by decide +kernel
theorem dX3_keep_1 : decode cX3_keep 1 = .ok (.aload_n 0, 1) := by decide +kernel
theorem dX3_keep_2 : decode cX3_keep 2 = .ok (.getfield 24, 3) := by decide +kernel
theorem dX3_keep_5 : decode cX3_keep 5 = .ok (.aload_n 0, 1) := by decide +kernel
theorem dX3_keep_6 : decode cX3_keep 6 = .ok (.getfield 28, 3) := by decide +kernel
theorem dX3_keep_9 : decode cX3_keep 9 = .ok (.ldc 112, 2) := by decide +kernel
theorem dX3_keep_11 : decode cX3_keep 11 = .ok (.invokestatic 120, 3) := by decide +kernel
theorem dX3_keep_14 : decode cX3_keep 14 = .ok (.putfield 24, 3) := by decide +kernel
theorem dX3_keep_17 : decode cX3_keep 17 = .ok (.aload_n 0, 1) := by decide +kernel
theorem dX3_keep_18 : decode cX3_keep 18 = .ok (.getfield 28, 3) := by decide +kernel
theorem dX3_keep_21 : decode cX3_keep 21 = .ok (.aload_n 0, 1) := by decide +kernel
theorem dX3_keep_22 : decode cX3_keep 22 = .ok (.getfield 24, 3) := by decide +kernel
theorem dX3_keep_25 : decode cX3_keep 25 = .ok (.arraylength, 1) := by decide +kernel
theorem dX3_keep_26 : decode cX3_keep 26 = .ok (.if_icmp .ge 23, 3) := by decide +kernel
theorem dX3_keep_29 : decode cX3_keep 29 = .ok (.aload_n 0, 1) := by decide +kernel
theorem dX3_keep_30 : decode cX3_keep 30 = .ok (.getfield 24, 3) := by decide +kernel
theorem dX3_keep_33 : decode cX3_keep 33 = .ok (.aload_n 0, 1) := by decide +kernel
theorem dX3_keep_34 : decode cX3_keep 34 = .ok (.getfield 28, 3) := by decide +kernel
theorem dX3_keep_37 : decode cX3_keep 37 = .ok (.iload_n 1, 1) := by decide +kernel
theorem dX3_keep_38 : decode cX3_keep 38 = .ok (.iastore, 1) := by decide +kernel
theorem dX3_keep_39 : decode cX3_keep 39 = .ok (.aload_n 0, 1) := by decide +kernel
theorem dX3_keep_40 : decode cX3_keep 40 = .ok (.dup, 1) := by decide +kernel
theorem dX3_keep_41 : decode cX3_keep 41 = .ok (.getfield 28, 3) := by decide +kernel
theorem dX3_keep_44 : decode cX3_keep 44 = .ok (.iconst 1, 1) := by decide +kernel
theorem dX3_keep_45 : decode cX3_keep 45 = .ok (.iadd, 1) := by decide +kernel
theorem dX3_keep_46 : decode cX3_keep 46 = .ok (.putfield 28, 3) := by decide +kernel
theorem dX3_keep_49 : decode cX3_keep 49 = .ok (.return_, 1) := by decide +kernel
theorem dX3_takeRow_0 : decode cX3_takeRow 0 = .ok (.aload_n 0, 1) := by decide +kernel
theorem dX3_takeRow_1 : decode cX3_takeRow 1 = .ok (.getfield 65, 3) := by decide +kernel
theorem dX3_takeRow_4 : decode cX3_takeRow 4 = .ok (.iconst 2, 1) := by decide +kernel
theorem dX3_takeRow_5 : decode cX3_takeRow 5 = .ok (.if_icmp .ne 10, 3) := by decide +kernel
theorem dX3_takeRow_8 : decode cX3_takeRow 8 = .ok (.aload_n 0, 1) := by decide +kernel
theorem dX3_takeRow_9 : decode cX3_takeRow 9 = .ok (.getfield 14, 3) := by decide +kernel
theorem dX3_takeRow_12 : decode cX3_takeRow 12 = .ok (.invokevirtual 109, 3) := by decide +kernel
theorem dX3_takeRow_15 : decode cX3_takeRow 15 = .ok (.iconst 0, 1) := by decide +kernel
theorem dX3_takeRow_16 : decode cX3_takeRow 16 = .ok (.istore_n 2, 1) := by decide +kernel
theorem dX3_takeRow_17 : decode cX3_takeRow 17 = .ok (.iload_n 2, 1) := by decide +kernel
theorem dX3_takeRow_18 : decode cX3_takeRow 18 = .ok (.aload_n 0, 1) := by decide +kernel
theorem dX3_takeRow_19 : decode cX3_takeRow 19 = .ok (.getfield 74, 3) := by decide +kernel
theorem dX3_takeRow_22 : decode cX3_takeRow 22 = .ok (.if_icmp .ge 42, 3) := by decide +kernel
theorem dX3_takeRow_25 : decode cX3_takeRow 25 = .ok (.iload_n 2, 1) := by decide +kernel
theorem dX3_takeRow_26 : decode cX3_takeRow 26 = .ok (.ldc 112, 2) := by decide +kernel
theorem dX3_takeRow_28 : decode cX3_takeRow 28 = .ok (.if_icmp .ge 36, 3) := by decide +kernel
theorem dX3_takeRow_31 : decode cX3_takeRow 31 = .ok (.aload_n 0, 1) := by decide +kernel
theorem dX3_takeRow_32 : decode cX3_takeRow 32 = .ok (.iload_n 2, 1) := by decide +kernel
theorem dX3_takeRow_33 : decode cX3_takeRow 33 = .ok (.aload_n 0, 1) := by decide +kernel
theorem dX3_takeRow_34 : decode cX3_takeRow 34 = .ok (.getfield 68, 3) := by decide +kernel
theorem dX3_takeRow_37 : decode cX3_takeRow 37 = .ok (.iconst 1, 1) := by decide +kernel
theorem dX3_takeRow_38 : decode cX3_takeRow 38 = .ok (.isub, 1) := by decide +kernel
theorem dX3_takeRow_39 : decode cX3_takeRow 39 = .ok (.iand, 1) := by decide +kernel
theorem dX3_takeRow_40 : decode cX3_takeRow 40 = .ok (.aload_n 1, 1) := by decide +kernel
theorem dX3_takeRow_41 : decode cX3_takeRow 41 = .ok (.invokevirtual 113, 3) := by decide +kernel
theorem dX3_takeRow_44 : decode cX3_takeRow 44 = .ok (.istore_n 3, 1) := by decide +kernel
theorem dX3_takeRow_45 : decode cX3_takeRow 45 = .ok (.aload_n 0, 1) := by decide +kernel
theorem dX3_takeRow_46 : decode cX3_takeRow 46 = .ok (.getfield 32, 3) := by decide +kernel
theorem dX3_takeRow_49 : decode cX3_takeRow 49 = .ok (.ifCond .eq 4, 3) := by decide +kernel
theorem dX3_takeRow_52 : decode cX3_takeRow 52 = .ok (.return_, 1) := by decide +kernel
theorem dX3_takeRow_53 : decode cX3_takeRow 53 = .ok (.aload_n 0, 1) := by decide +kernel
theorem dX3_takeRow_54 : decode cX3_takeRow 54 = .ok (.iload_n 3, 1) := by decide +kernel
theorem dX3_takeRow_55 : decode cX3_takeRow 55 = .ok (.invokevirtual 117, 3) := by decide +kernel
theorem dX3_takeRow_58 : decode cX3_takeRow 58 = .ok (.iinc 2 1, 3) := by decide +kernel
theorem dX3_takeRow_61 : decode cX3_takeRow 61 = .ok (.goto (-44), 3) := by decide +kernel
theorem dX3_takeRow_64 : decode cX3_takeRow 64 = .ok (.return_, 1) := by decide +kernel
theorem dX3_judgeEnd_0 : decode cX3_judgeEnd 0 = .ok (.aload_n 0, 1) := by decide +kernel
theorem dX3_judgeEnd_1 : decode cX3_judgeEnd 1 = .ok (.getfield 65, 3) := by decide +kernel
theorem dX3_judgeEnd_4 : decode cX3_judgeEnd 4 = .ok (.aload_n 0, 1) := by decide +kernel
theorem dX3_judgeEnd_5 : decode cX3_judgeEnd 5 = .ok (.getfield 14, 3) := by decide +kernel
theorem dX3_judgeEnd_8 : decode cX3_judgeEnd 8 = .ok (.getfield 77, 3) := by decide +kernel
theorem dX3_judgeEnd_11 : decode cX3_judgeEnd 11 = .ok (.invokestatic 99, 3) := by decide +kernel
theorem dX3_judgeEnd_14 : decode cX3_judgeEnd 14 = .ok (.lstore_n 2, 1) := by decide +kernel
theorem dX3_judgeEnd_15 : decode cX3_judgeEnd 15 = .ok (.iconst 0, 1) := by decide +kernel
theorem dX3_judgeEnd_16 : decode cX3_judgeEnd 16 = .ok (.istore 4, 2) := by decide +kernel
theorem dX3_judgeEnd_18 : decode cX3_judgeEnd 18 = .ok (.iload 4, 2) := by decide +kernel
theorem dX3_judgeEnd_20 : decode cX3_judgeEnd 20 = .ok (.aload_n 0, 1) := by decide +kernel
theorem dX3_judgeEnd_21 : decode cX3_judgeEnd 21 = .ok (.getfield 68, 3) := by decide +kernel
theorem dX3_judgeEnd_24 : decode cX3_judgeEnd 24 = .ok (.if_icmp .ge 33, 3) := by decide +kernel
theorem dX3_judgeEnd_27 : decode cX3_judgeEnd 27 = .ok (.iload 4, 2) := by decide +kernel
theorem dX3_judgeEnd_29 : decode cX3_judgeEnd 29 = .ok (.iconst 4, 1) := by decide +kernel
theorem dX3_judgeEnd_30 : decode cX3_judgeEnd 30 = .ok (.if_icmp .ge 27, 3) := by decide +kernel
theorem dX3_judgeEnd_33 : decode cX3_judgeEnd 33 = .ok (.aload_n 0, 1) := by decide +kernel
theorem dX3_judgeEnd_34 : decode cX3_judgeEnd 34 = .ok (.getfield 20, 3) := by decide +kernel
theorem dX3_judgeEnd_37 : decode cX3_judgeEnd 37 = .ok (.iload 4, 2) := by decide +kernel
theorem dX3_judgeEnd_39 : decode cX3_judgeEnd 39 = .ok (.laload, 1) := by decide +kernel
theorem dX3_judgeEnd_40 : decode cX3_judgeEnd 40 = .ok (.lload_n 2, 1) := by decide +kernel
theorem dX3_judgeEnd_41 : decode cX3_judgeEnd 41 = .ok (.lcmp, 1) := by decide +kernel
theorem dX3_judgeEnd_42 : decode cX3_judgeEnd 42 = .ok (.ifCond .eq 9, 3) := by decide +kernel
theorem dX3_judgeEnd_45 : decode cX3_judgeEnd 45 = .ok (.aload_n 0, 1) := by decide +kernel
theorem dX3_judgeEnd_46 : decode cX3_judgeEnd 46 = .ok (.iconst 5, 1) := by decide +kernel
theorem dX3_judgeEnd_47 : decode cX3_judgeEnd 47 = .ok (.putfield 32, 3) := by decide +kernel
theorem dX3_judgeEnd_50 : decode cX3_judgeEnd 50 = .ok (.return_, 1) := by decide +kernel
theorem dX3_judgeEnd_51 : decode cX3_judgeEnd 51 = .ok (.iinc 4 1, 3) := by decide +kernel
theorem dX3_judgeEnd_54 : decode cX3_judgeEnd 54 = .ok (.goto (-36), 3) := by decide +kernel
theorem dX3_judgeEnd_57 : decode cX3_judgeEnd 57 = .ok (.aload_n 0, 1) := by decide +kernel
theorem dX3_judgeEnd_58 : decode cX3_judgeEnd 58 = .ok (.getfield 35, 3) := by decide +kernel
theorem dX3_judgeEnd_61 : decode cX3_judgeEnd 61 = .ok (.aload_n 1, 1) := by decide +kernel
theorem dX3_judgeEnd_62 : decode cX3_judgeEnd 62 = .ok (.getfield 159, 3) := by decide +kernel
theorem dX3_judgeEnd_65 : decode cX3_judgeEnd 65 = .ok (.if_icmp .lt 10, 3) := by decide +kernel
theorem dX3_judgeEnd_68 : decode cX3_judgeEnd 68 = .ok (.aload_n 0, 1) := by decide +kernel
theorem dX3_judgeEnd_69 : decode cX3_judgeEnd 69 = .ok (.invokevirtual 92, 3) := by decide +kernel
theorem dX3_judgeEnd_72 : decode cX3_judgeEnd 72 = .ok (.ifCond .eq 9, 3) := by decide +kernel
theorem dX3_judgeEnd_75 : decode cX3_judgeEnd 75 = .ok (.aload_n 0, 1) := by decide +kernel
theorem dX3_judgeEnd_76 : decode cX3_judgeEnd 76 = .ok (.bipush 6, 2) := by decide +kernel
theorem dX3_judgeEnd_78 : decode cX3_judgeEnd 78 = .ok (.putfield 32, 3) := by decide +kernel
theorem dX3_judgeEnd_81 : decode cX3_judgeEnd 81 = .ok (.return_, 1) := by decide +kernel

theorem dX7_isInSpan_0 : decode cX7_isInSpan 0 = .ok (.aload_n 0, 1) := by decide +kernel
theorem dX7_isInSpan_1 : decode cX7_isInSpan 1 = .ok (.getfield 180, 3) := by decide +kernel
theorem dX7_isInSpan_4 : decode cX7_isInSpan 4 = .ok (.iconst 1, 1) := by decide +kernel
theorem dX7_isInSpan_5 : decode cX7_isInSpan 5 = .ok (.if_icmp .ne 19, 3) := by decide +kernel
theorem dX7_isInSpan_8 : decode cX7_isInSpan 8 = .ok (.lload_n 1, 1) := by decide +kernel
theorem dX7_isInSpan_9 : decode cX7_isInSpan 9 = .ok (.ldc2_w 77, 3) := by decide +kernel
theorem dX7_isInSpan_12 : decode cX7_isInSpan 12 = .ok (.lcmp, 1) := by decide +kernel
theorem dX7_isInSpan_13 : decode cX7_isInSpan 13 = .ok (.ifCond .lt 7, 3) := by decide +kernel
theorem dX7_isInSpan_16 : decode cX7_isInSpan 16 = .ok (.iconst 1, 1) := by decide +kernel
theorem dX7_isInSpan_17 : decode cX7_isInSpan 17 = .ok (.goto 72, 3) := by decide +kernel
theorem dX7_isInSpan_20 : decode cX7_isInSpan 20 = .ok (.iconst 0, 1) := by decide +kernel
theorem dX7_isInSpan_21 : decode cX7_isInSpan 21 = .ok (.goto 68, 3) := by decide +kernel
theorem dX7_isInSpan_24 : decode cX7_isInSpan 24 = .ok (.aload_n 0, 1) := by decide +kernel
theorem dX7_isInSpan_25 : decode cX7_isInSpan 25 = .ok (.getfield 180, 3) := by decide +kernel
theorem dX7_isInSpan_28 : decode cX7_isInSpan 28 = .ok (.iconst 2, 1) := by decide +kernel
theorem dX7_isInSpan_29 : decode cX7_isInSpan 29 = .ok (.if_icmp .ne 39, 3) := by decide +kernel
theorem dX7_isInSpan_32 : decode cX7_isInSpan 32 = .ok (.lload_n 1, 1) := by decide +kernel
theorem dX7_isInSpan_33 : decode cX7_isInSpan 33 = .ok (.lconst 1, 1) := by decide +kernel
theorem dX7_isInSpan_34 : decode cX7_isInSpan 34 = .ok (.aload_n 0, 1) := by decide +kernel
theorem dX7_isInSpan_35 : decode cX7_isInSpan 35 = .ok (.getfield 26, 3) := by decide +kernel
theorem dX7_isInSpan_38 : decode cX7_isInSpan 38 = .ok (.iconst 1, 1) := by decide +kernel
theorem dX7_isInSpan_39 : decode cX7_isInSpan 39 = .ok (.iaload, 1) := by decide +kernel
theorem dX7_isInSpan_40 : decode cX7_isInSpan 40 = .ok (.lshl, 1) := by decide +kernel
theorem dX7_isInSpan_41 : decode cX7_isInSpan 41 = .ok (.lcmp, 1) := by decide +kernel
theorem dX7_isInSpan_42 : decode cX7_isInSpan 42 = .ok (.ifCond .lt 22, 3) := by decide +kernel
theorem dX7_isInSpan_45 : decode cX7_isInSpan 45 = .ok (.lload_n 1, 1) := by decide +kernel
theorem dX7_isInSpan_46 : decode cX7_isInSpan 46 = .ok (.ldc2_w 79, 3) := by decide +kernel
theorem dX7_isInSpan_49 : decode cX7_isInSpan 49 = .ok (.aload_n 0, 1) := by decide +kernel
theorem dX7_isInSpan_50 : decode cX7_isInSpan 50 = .ok (.getfield 26, 3) := by decide +kernel
theorem dX7_isInSpan_53 : decode cX7_isInSpan 53 = .ok (.iconst 1, 1) := by decide +kernel
theorem dX7_isInSpan_54 : decode cX7_isInSpan 54 = .ok (.iaload, 1) := by decide +kernel
theorem dX7_isInSpan_55 : decode cX7_isInSpan 55 = .ok (.lshl, 1) := by decide +kernel
theorem dX7_isInSpan_56 : decode cX7_isInSpan 56 = .ok (.lcmp, 1) := by decide +kernel
theorem dX7_isInSpan_57 : decode cX7_isInSpan 57 = .ok (.ifCond .ge 7, 3) := by decide +kernel
theorem dX7_isInSpan_60 : decode cX7_isInSpan 60 = .ok (.iconst 1, 1) := by decide +kernel
theorem dX7_isInSpan_61 : decode cX7_isInSpan 61 = .ok (.goto 28, 3) := by decide +kernel
theorem dX7_isInSpan_64 : decode cX7_isInSpan 64 = .ok (.iconst 0, 1) := by decide +kernel
theorem dX7_isInSpan_65 : decode cX7_isInSpan 65 = .ok (.goto 24, 3) := by decide +kernel
theorem dX7_isInSpan_68 : decode cX7_isInSpan 68 = .ok (.lload_n 1, 1) := by decide +kernel
theorem dX7_isInSpan_69 : decode cX7_isInSpan 69 = .ok (.ldc2_w 94, 3) := by decide +kernel
theorem dX7_isInSpan_72 : decode cX7_isInSpan 72 = .ok (.lcmp, 1) := by decide +kernel
theorem dX7_isInSpan_73 : decode cX7_isInSpan 73 = .ok (.ifCond .lt 15, 3) := by decide +kernel
theorem dX7_isInSpan_76 : decode cX7_isInSpan 76 = .ok (.lload_n 1, 1) := by decide +kernel
theorem dX7_isInSpan_77 : decode cX7_isInSpan 77 = .ok (.ldc2_w 77, 3) := by decide +kernel
theorem dX7_isInSpan_80 : decode cX7_isInSpan 80 = .ok (.lcmp, 1) := by decide +kernel
theorem dX7_isInSpan_81 : decode cX7_isInSpan 81 = .ok (.ifCond .ge 7, 3) := by decide +kernel
theorem dX7_isInSpan_84 : decode cX7_isInSpan 84 = .ok (.iconst 1, 1) := by decide +kernel
theorem dX7_isInSpan_85 : decode cX7_isInSpan 85 = .ok (.goto 4, 3) := by decide +kernel
theorem dX7_isInSpan_88 : decode cX7_isInSpan 88 = .ok (.iconst 0, 1) := by decide +kernel
theorem dX7_isInSpan_89 : decode cX7_isInSpan 89 = .ok (.ireturn, 1) := by decide +kernel
theorem dX7_signOf_0 : decode cX7_signOf 0 = .ok (.iconst 0, 1) := by decide +kernel
theorem dX7_signOf_1 : decode cX7_signOf 1 = .ok (.istore_n 2, 1) := by decide +kernel
theorem dX7_signOf_2 : decode cX7_signOf 2 = .ok (.iload_n 1, 1) := by decide +kernel
theorem dX7_signOf_3 : decode cX7_signOf 3 = .ok (.aload_n 0, 1) := by decide +kernel
theorem dX7_signOf_4 : decode cX7_signOf 4 = .ok (.getfield 23, 3) := by decide +kernel
theorem dX7_signOf_7 : decode cX7_signOf 7 = .ok (.bipush 32, 2) := by decide +kernel
theorem dX7_signOf_9 : decode cX7_signOf 9 = .ok (.iload_n 2, 1) := by decide +kernel
theorem dX7_signOf_10 : decode cX7_signOf 10 = .ok (.iadd, 1) := by decide +kernel
theorem dX7_signOf_11 : decode cX7_signOf 11 = .ok (.iaload, 1) := by decide +kernel
theorem dX7_signOf_12 : decode cX7_signOf 12 = .ok (.aload_n 0, 1) := by decide +kernel
theorem dX7_signOf_13 : decode cX7_signOf 13 = .ok (.getfield 20, 3) := by decide +kernel
theorem dX7_signOf_16 : decode cX7_signOf 16 = .ok (.bipush 32, 2) := by decide +kernel
theorem dX7_signOf_18 : decode cX7_signOf 18 = .ok (.iload_n 2, 1) := by decide +kernel
theorem dX7_signOf_19 : decode cX7_signOf 19 = .ok (.iadd, 1) := by decide +kernel
theorem dX7_signOf_20 : decode cX7_signOf 20 = .ok (.iaload, 1) := by decide +kernel
theorem dX7_signOf_21 : decode cX7_signOf 21 = .ok (.iadd, 1) := by decide +kernel
theorem dX7_signOf_22 : decode cX7_signOf 22 = .ok (.if_icmp .lt 9, 3) := by decide +kernel
theorem dX7_signOf_25 : decode cX7_signOf 25 = .ok (.iinc 2 1, 3) := by decide +kernel
theorem dX7_signOf_28 : decode cX7_signOf 28 = .ok (.goto (-26), 3) := by decide +kernel
theorem dX7_signOf_31 : decode cX7_signOf 31 = .ok (.iload_n 2, 1) := by decide +kernel
theorem dX7_signOf_32 : decode cX7_signOf 32 = .ok (.ireturn, 1) := by decide +kernel
theorem dX7_readBytes_0 : decode cX7_readBytes 0 = .ok (.aload_n 0, 1) := by decide +kernel
theorem dX7_readBytes_1 : decode cX7_readBytes 1 = .ok (.getfield 56, 3) := by decide +kernel
theorem dX7_readBytes_4 : decode cX7_readBytes 4 = .ok (.iload_n 1, 1) := by decide +kernel
theorem dX7_readBytes_5 : decode cX7_readBytes 5 = .ok (.laload, 1) := by decide +kernel
theorem dX7_readBytes_6 : decode cX7_readBytes 6 = .ok (.lstore 4, 2) := by decide +kernel
theorem dX7_readBytes_8 : decode cX7_readBytes 8 = .ok (.aload_n 0, 1) := by decide +kernel
theorem dX7_readBytes_9 : decode cX7_readBytes 9 = .ok (.getfield 26, 3) := by decide +kernel
theorem dX7_readBytes_12 : decode cX7_readBytes 12 = .ok (.iconst 1, 1) := by decide +kernel
theorem dX7_readBytes_13 : decode cX7_readBytes 13 = .ok (.iaload, 1) := by decide +kernel
theorem dX7_readBytes_14 : decode cX7_readBytes 14 = .ok (.istore 6, 2) := by decide +kernel
theorem dX7_readBytes_16 : decode cX7_readBytes 16 = .ok (.iload_n 2, 1) := by decide +kernel
theorem dX7_readBytes_17 : decode cX7_readBytes 17 = .ok (.i2l, 1) := by decide +kernel
theorem dX7_readBytes_18 : decode cX7_readBytes 18 = .ok (.lload 4, 2) := by decide +kernel
theorem dX7_readBytes_20 : decode cX7_readBytes 20 = .ok (.iload 6, 2) := by decide +kernel
theorem dX7_readBytes_22 : decode cX7_readBytes 22 = .ok (.lshr, 1) := by decide +kernel
theorem dX7_readBytes_23 : decode cX7_readBytes 23 = .ok (.lmul, 1) := by decide +kernel
theorem dX7_readBytes_24 : decode cX7_readBytes 24 = .ok (.lload 4, 2) := by decide +kernel
theorem dX7_readBytes_26 : decode cX7_readBytes 26 = .ok (.lconst 1, 1) := by decide +kernel
theorem dX7_readBytes_27 : decode cX7_readBytes 27 = .ok (.iload 6, 2) := by decide +kernel
theorem dX7_readBytes_29 : decode cX7_readBytes 29 = .ok (.lshl, 1) := by decide +kernel
theorem dX7_readBytes_30 : decode cX7_readBytes 30 = .ok (.lconst 1, 1) := by decide +kernel
theorem dX7_readBytes_31 : decode cX7_readBytes 31 = .ok (.lsub, 1) := by decide +kernel
theorem dX7_readBytes_32 : decode cX7_readBytes 32 = .ok (.land, 1) := by decide +kernel
theorem dX7_readBytes_33 : decode cX7_readBytes 33 = .ok (.ladd, 1) := by decide +kernel
theorem dX7_readBytes_34 : decode cX7_readBytes 34 = .ok (.iload_n 3, 1) := by decide +kernel
theorem dX7_readBytes_35 : decode cX7_readBytes 35 = .ok (.i2l, 1) := by decide +kernel
theorem dX7_readBytes_36 : decode cX7_readBytes 36 = .ok (.lsub, 1) := by decide +kernel
theorem dX7_readBytes_37 : decode cX7_readBytes 37 = .ok (.lstore 4, 2) := by decide +kernel
theorem dX7_readBytes_39 : decode cX7_readBytes 39 = .ok (.lload 4, 2) := by decide +kernel
theorem dX7_readBytes_41 : decode cX7_readBytes 41 = .ok (.ldc2_w 94, 3) := by decide +kernel
theorem dX7_readBytes_44 : decode cX7_readBytes 44 = .ok (.lcmp, 1) := by decide +kernel
theorem dX7_readBytes_45 : decode cX7_readBytes 45 = .ok (.ifCond .ge 26, 3) := by decide +kernel
theorem dX7_readBytes_48 : decode cX7_readBytes 48 = .ok (.aload_n 0, 1) := by decide +kernel
theorem dX7_readBytes_49 : decode cX7_readBytes 49 = .ok (.getfield 162, 3) := by decide +kernel
theorem dX7_readBytes_52 : decode cX7_readBytes 52 = .ok (.ifCond .ne 19, 3) := by decide +kernel
theorem dX7_readBytes_55 : decode cX7_readBytes 55 = .ok (.lload 4, 2) := by decide +kernel
theorem dX7_readBytes_57 : decode cX7_readBytes 57 = .ok (.bipush 8, 2) := by decide +kernel
theorem dX7_readBytes_59 : decode cX7_readBytes 59 = .ok (.lshl, 1) := by decide +kernel
theorem dX7_readBytes_60 : decode cX7_readBytes 60 = .ok (.aload_n 0, 1) := by decide +kernel
theorem dX7_readBytes_61 : decode cX7_readBytes 61 = .ok (.invokevirtual 171, 3) := by decide +kernel
theorem dX7_readBytes_64 : decode cX7_readBytes 64 = .ok (.i2l, 1) := by decide +kernel
theorem dX7_readBytes_65 : decode cX7_readBytes 65 = .ok (.lor, 1) := by decide +kernel
theorem dX7_readBytes_66 : decode cX7_readBytes 66 = .ok (.lstore 4, 2) := by decide +kernel
theorem dX7_readBytes_68 : decode cX7_readBytes 68 = .ok (.goto (-29), 3) := by decide +kernel
theorem dX7_readBytes_71 : decode cX7_readBytes 71 = .ok (.aload_n 0, 1) := by decide +kernel
theorem dX7_readBytes_72 : decode cX7_readBytes 72 = .ok (.getfield 162, 3) := by decide +kernel
theorem dX7_readBytes_75 : decode cX7_readBytes 75 = .ok (.ifCond .ne 11, 3) := by decide +kernel
theorem dX7_readBytes_78 : decode cX7_readBytes 78 = .ok (.aload_n 0, 1) := by decide +kernel
theorem dX7_readBytes_79 : decode cX7_readBytes 79 = .ok (.getfield 56, 3) := by decide +kernel
theorem dX7_readBytes_82 : decode cX7_readBytes 82 = .ok (.iload_n 1, 1) := by decide +kernel
theorem dX7_readBytes_83 : decode cX7_readBytes 83 = .ok (.lload 4, 2) := by decide +kernel
theorem dX7_readBytes_85 : decode cX7_readBytes 85 = .ok (.lastore, 1) := by decide +kernel
theorem dX7_readBytes_86 : decode cX7_readBytes 86 = .ok (.return_, 1) := by decide +kernel
theorem dX7_readWords_0 : decode cX7_readWords 0 = .ok (.aload_n 0, 1) := by decide +kernel
theorem dX7_readWords_1 : decode cX7_readWords 1 = .ok (.getfield 56, 3) := by decide +kernel
theorem dX7_readWords_4 : decode cX7_readWords 4 = .ok (.iload_n 1, 1) := by decide +kernel
theorem dX7_readWords_5 : decode cX7_readWords 5 = .ok (.laload, 1) := by decide +kernel
theorem dX7_readWords_6 : decode cX7_readWords 6 = .ok (.lstore 4, 2) := by decide +kernel
theorem dX7_readWords_8 : decode cX7_readWords 8 = .ok (.aload_n 0, 1) := by decide +kernel
theorem dX7_readWords_9 : decode cX7_readWords 9 = .ok (.getfield 26, 3) := by decide +kernel
theorem dX7_readWords_12 : decode cX7_readWords 12 = .ok (.iconst 1, 1) := by decide +kernel
theorem dX7_readWords_13 : decode cX7_readWords 13 = .ok (.iaload, 1) := by decide +kernel
theorem dX7_readWords_14 : decode cX7_readWords 14 = .ok (.istore 6, 2) := by decide +kernel
theorem dX7_readWords_16 : decode cX7_readWords 16 = .ok (.iload_n 2, 1) := by decide +kernel
theorem dX7_readWords_17 : decode cX7_readWords 17 = .ok (.i2l, 1) := by decide +kernel
theorem dX7_readWords_18 : decode cX7_readWords 18 = .ok (.lload 4, 2) := by decide +kernel
theorem dX7_readWords_20 : decode cX7_readWords 20 = .ok (.iload 6, 2) := by decide +kernel
theorem dX7_readWords_22 : decode cX7_readWords 22 = .ok (.lshr, 1) := by decide +kernel
theorem dX7_readWords_23 : decode cX7_readWords 23 = .ok (.lmul, 1) := by decide +kernel
theorem dX7_readWords_24 : decode cX7_readWords 24 = .ok (.lload 4, 2) := by decide +kernel
theorem dX7_readWords_26 : decode cX7_readWords 26 = .ok (.lconst 1, 1) := by decide +kernel
theorem dX7_readWords_27 : decode cX7_readWords 27 = .ok (.iload 6, 2) := by decide +kernel
theorem dX7_readWords_29 : decode cX7_readWords 29 = .ok (.lshl, 1) := by decide +kernel
theorem dX7_readWords_30 : decode cX7_readWords 30 = .ok (.lconst 1, 1) := by decide +kernel
theorem dX7_readWords_31 : decode cX7_readWords 31 = .ok (.lsub, 1) := by decide +kernel
theorem dX7_readWords_32 : decode cX7_readWords 32 = .ok (.land, 1) := by decide +kernel
theorem dX7_readWords_33 : decode cX7_readWords 33 = .ok (.ladd, 1) := by decide +kernel
theorem dX7_readWords_34 : decode cX7_readWords 34 = .ok (.iload_n 3, 1) := by decide +kernel
theorem dX7_readWords_35 : decode cX7_readWords 35 = .ok (.i2l, 1) := by decide +kernel
theorem dX7_readWords_36 : decode cX7_readWords 36 = .ok (.lsub, 1) := by decide +kernel
theorem dX7_readWords_37 : decode cX7_readWords 37 = .ok (.lstore 4, 2) := by decide +kernel
theorem dX7_readWords_39 : decode cX7_readWords 39 = .ok (.lload 4, 2) := by decide +kernel
theorem dX7_readWords_41 : decode cX7_readWords 41 = .ok (.ldc2_w 77, 3) := by decide +kernel
theorem dX7_readWords_44 : decode cX7_readWords 44 = .ok (.lcmp, 1) := by decide +kernel
theorem dX7_readWords_45 : decode cX7_readWords 45 = .ok (.ifCond .ge 26, 3) := by decide +kernel
theorem dX7_readWords_48 : decode cX7_readWords 48 = .ok (.aload_n 0, 1) := by decide +kernel
theorem dX7_readWords_49 : decode cX7_readWords 49 = .ok (.getfield 162, 3) := by decide +kernel
theorem dX7_readWords_52 : decode cX7_readWords 52 = .ok (.ifCond .ne 19, 3) := by decide +kernel
theorem dX7_readWords_55 : decode cX7_readWords 55 = .ok (.lload 4, 2) := by decide +kernel
theorem dX7_readWords_57 : decode cX7_readWords 57 = .ok (.bipush 32, 2) := by decide +kernel
theorem dX7_readWords_59 : decode cX7_readWords 59 = .ok (.lshl, 1) := by decide +kernel
theorem dX7_readWords_60 : decode cX7_readWords 60 = .ok (.aload_n 0, 1) := by decide +kernel
theorem dX7_readWords_61 : decode cX7_readWords 61 = .ok (.iconst 4, 1) := by decide +kernel
theorem dX7_readWords_62 : decode cX7_readWords 62 = .ok (.invokevirtual 198, 3) := by decide +kernel
theorem dX7_readWords_65 : decode cX7_readWords 65 = .ok (.lor, 1) := by decide +kernel
theorem dX7_readWords_66 : decode cX7_readWords 66 = .ok (.lstore 4, 2) := by decide +kernel
theorem dX7_readWords_68 : decode cX7_readWords 68 = .ok (.goto (-29), 3) := by decide +kernel
theorem dX7_readWords_71 : decode cX7_readWords 71 = .ok (.aload_n 0, 1) := by decide +kernel
theorem dX7_readWords_72 : decode cX7_readWords 72 = .ok (.getfield 162, 3) := by decide +kernel
theorem dX7_readWords_75 : decode cX7_readWords 75 = .ok (.ifCond .ne 11, 3) := by decide +kernel
theorem dX7_readWords_78 : decode cX7_readWords 78 = .ok (.aload_n 0, 1) := by decide +kernel
theorem dX7_readWords_79 : decode cX7_readWords 79 = .ok (.getfield 56, 3) := by decide +kernel
theorem dX7_readWords_82 : decode cX7_readWords 82 = .ok (.iload_n 1, 1) := by decide +kernel
theorem dX7_readWords_83 : decode cX7_readWords 83 = .ok (.lload 4, 2) := by decide +kernel
theorem dX7_readWords_85 : decode cX7_readWords 85 = .ok (.lastore, 1) := by decide +kernel
theorem dX7_readWords_86 : decode cX7_readWords 86 = .ok (.return_, 1) := by decide +kernel
theorem dX7_readSides_0 : decode cX7_readSides 0 = .ok (.iconst 1, 1) := by decide +kernel
theorem dX7_readSides_1 : decode cX7_readSides 1 = .ok (.aload_n 0, 1) := by decide +kernel
theorem dX7_readSides_2 : decode cX7_readSides 2 = .ok (.getfield 26, 3) := by decide +kernel
theorem dX7_readSides_5 : decode cX7_readSides 5 = .ok (.iconst 1, 1) := by decide +kernel
theorem dX7_readSides_6 : decode cX7_readSides 6 = .ok (.iaload, 1) := by decide +kernel
theorem dX7_readSides_7 : decode cX7_readSides 7 = .ok (.ishl, 1) := by decide +kernel
theorem dX7_readSides_8 : decode cX7_readSides 8 = .ok (.istore_n 2, 1) := by decide +kernel
theorem dX7_readSides_9 : decode cX7_readSides 9 = .ok (.iconst 0, 1) := by decide +kernel
theorem dX7_readSides_10 : decode cX7_readSides 10 = .ok (.istore_n 3, 1) := by decide +kernel
theorem dX7_readSides_11 : decode cX7_readSides 11 = .ok (.iconst 0, 1) := by decide +kernel
theorem dX7_readSides_12 : decode cX7_readSides 12 = .ok (.istore 4, 2) := by decide +kernel
theorem dX7_readSides_14 : decode cX7_readSides 14 = .ok (.iload 4, 2) := by decide +kernel
theorem dX7_readSides_16 : decode cX7_readSides 16 = .ok (.iconst 5, 1) := by decide +kernel
theorem dX7_readSides_17 : decode cX7_readSides 17 = .ok (.if_icmp .ge 125, 3) := by decide +kernel
theorem dX7_readSides_20 : decode cX7_readSides 20 = .ok (.aload_n 0, 1) := by decide +kernel
theorem dX7_readSides_21 : decode cX7_readSides 21 = .ok (.getfield 162, 3) := by decide +kernel
theorem dX7_readSides_24 : decode cX7_readSides 24 = .ok (.ifCond .ne 118, 3) := by decide +kernel
theorem dX7_readSides_27 : decode cX7_readSides 27 = .ok (.aload_n 0, 1) := by decide +kernel
theorem dX7_readSides_28 : decode cX7_readSides 28 = .ok (.iconst 1, 1) := by decide +kernel
theorem dX7_readSides_29 : decode cX7_readSides 29 = .ok (.iload_n 3, 1) := by decide +kernel
theorem dX7_readSides_30 : decode cX7_readSides 30 = .ok (.iload 4, 2) := by decide +kernel
theorem dX7_readSides_32 : decode cX7_readSides 32 = .ok (.invokevirtual 122, 3) := by decide +kernel
theorem dX7_readSides_35 : decode cX7_readSides 35 = .ok (.aload_n 0, 1) := by decide +kernel
theorem dX7_readSides_36 : decode cX7_readSides 36 = .ok (.getfield 119, 3) := by decide +kernel
theorem dX7_readSides_39 : decode cX7_readSides 39 = .ok (.ifCond .le 7, 3) := by decide +kernel
theorem dX7_readSides_42 : decode cX7_readSides 42 = .ok (.iconst 0, 1) := by decide +kernel
theorem dX7_readSides_43 : decode cX7_readSides 43 = .ok (.goto 4, 3) := by decide +kernel
theorem dX7_readSides_46 : decode cX7_readSides 46 = .ok (.iconst 1, 1) := by decide +kernel
theorem dX7_readSides_47 : decode cX7_readSides 47 = .ok (.istore 5, 2) := by decide +kernel
theorem dX7_readSides_49 : decode cX7_readSides 49 = .ok (.aload_n 0, 1) := by decide +kernel
theorem dX7_readSides_50 : decode cX7_readSides 50 = .ok (.getfield 119, 3) := by decide +kernel
theorem dX7_readSides_53 : decode cX7_readSides 53 = .ok (.ifCond .le 76, 3) := by decide +kernel
theorem dX7_readSides_56 : decode cX7_readSides 56 = .ok (.aload_n 0, 1) := by decide +kernel
theorem dX7_readSides_57 : decode cX7_readSides 57 = .ok (.getfield 119, 3) := by decide +kernel
theorem dX7_readSides_60 : decode cX7_readSides 60 = .ok (.aload_n 0, 1) := by decide +kernel
theorem dX7_readSides_61 : decode cX7_readSides 61 = .ok (.getfield 116, 3) := by decide +kernel
theorem dX7_readSides_64 : decode cX7_readSides 64 = .ok (.if_icmp .ge 65, 3) := by decide +kernel
theorem dX7_readSides_67 : decode cX7_readSides 67 = .ok (.aload_n 0, 1) := by decide +kernel
theorem dX7_readSides_68 : decode cX7_readSides 68 = .ok (.iload_n 2, 1) := by decide +kernel
theorem dX7_readSides_69 : decode cX7_readSides 69 = .ok (.invokevirtual 126, 3) := by decide +kernel
theorem dX7_readSides_72 : decode cX7_readSides 72 = .ok (.istore 6, 2) := by decide +kernel
theorem dX7_readSides_74 : decode cX7_readSides 74 = .ok (.aload_n 0, 1) := by decide +kernel
theorem dX7_readSides_75 : decode cX7_readSides 75 = .ok (.getfield 56, 3) := by decide +kernel
theorem dX7_readSides_78 : decode cX7_readSides 78 = .ok (.iload_n 1, 1) := by decide +kernel
theorem dX7_readSides_79 : decode cX7_readSides 79 = .ok (.laload, 1) := by decide +kernel
theorem dX7_readSides_80 : decode cX7_readSides 80 = .ok (.iload_n 2, 1) := by decide +kernel
theorem dX7_readSides_81 : decode cX7_readSides 81 = .ok (.iconst 1, 1) := by decide +kernel
theorem dX7_readSides_82 : decode cX7_readSides 82 = .ok (.isub, 1) := by decide +kernel
theorem dX7_readSides_83 : decode cX7_readSides 83 = .ok (.i2l, 1) := by decide +kernel
theorem dX7_readSides_84 : decode cX7_readSides 84 = .ok (.land, 1) := by decide +kernel
theorem dX7_readSides_85 : decode cX7_readSides 85 = .ok (.iload 6, 2) := by decide +kernel
theorem dX7_readSides_87 : decode cX7_readSides 87 = .ok (.i2l, 1) := by decide +kernel
theorem dX7_readSides_88 : decode cX7_readSides 88 = .ok (.lcmp, 1) := by decide +kernel
theorem dX7_readSides_89 : decode cX7_readSides 89 = .ok (.ifCond .ge 7, 3) := by decide +kernel
theorem dX7_readSides_92 : decode cX7_readSides 92 = .ok (.iconst 0, 1) := by decide +kernel
theorem dX7_readSides_93 : decode cX7_readSides 93 = .ok (.goto 4, 3) := by decide +kernel
theorem dX7_readSides_96 : decode cX7_readSides 96 = .ok (.iconst 1, 1) := by decide +kernel
theorem dX7_readSides_97 : decode cX7_readSides 97 = .ok (.istore 5, 2) := by decide +kernel
theorem dX7_readSides_99 : decode cX7_readSides 99 = .ok (.aload_n 0, 1) := by decide +kernel
theorem dX7_readSides_100 : decode cX7_readSides 100 = .ok (.iload_n 1, 1) := by decide +kernel
theorem dX7_readSides_101 : decode cX7_readSides 101 = .ok (.iload 5, 2) := by decide +kernel
theorem dX7_readSides_103 : decode cX7_readSides 103 = .ok (.ifCond .ne 8, 3) := by decide +kernel
theorem dX7_readSides_106 : decode cX7_readSides 106 = .ok (.iload 6, 2) := by decide +kernel
theorem dX7_readSides_108 : decode cX7_readSides 108 = .ok (.goto 7, 3) := by decide +kernel
theorem dX7_readSides_111 : decode cX7_readSides 111 = .ok (.iload_n 2, 1) := by decide +kernel
theorem dX7_readSides_112 : decode cX7_readSides 112 = .ok (.iload 6, 2) := by decide +kernel
theorem dX7_readSides_114 : decode cX7_readSides 114 = .ok (.isub, 1) := by decide +kernel
theorem dX7_readSides_115 : decode cX7_readSides 115 = .ok (.iload 5, 2) := by decide +kernel
theorem dX7_readSides_117 : decode cX7_readSides 117 = .ok (.ifCond .ne 7, 3) := by decide +kernel
theorem dX7_readSides_120 : decode cX7_readSides 120 = .ok (.iconst 0, 1) := by decide +kernel
theorem dX7_readSides_121 : decode cX7_readSides 121 = .ok (.goto 5, 3) := by decide +kernel
theorem dX7_readSides_124 : decode cX7_readSides 124 = .ok (.iload 6, 2) := by decide +kernel
theorem dX7_readSides_126 : decode cX7_readSides 126 = .ok (.invokevirtual 189, 3) := by decide +kernel
theorem dX7_readSides_129 : decode cX7_readSides 129 = .ok (.iconst 2, 1) := by decide +kernel
theorem dX7_readSides_130 : decode cX7_readSides 130 = .ok (.iload_n 3, 1) := by decide +kernel
theorem dX7_readSides_131 : decode cX7_readSides 131 = .ok (.imul, 1) := by decide +kernel
theorem dX7_readSides_132 : decode cX7_readSides 132 = .ok (.iload 5, 2) := by decide +kernel
theorem dX7_readSides_134 : decode cX7_readSides 134 = .ok (.iadd, 1) := by decide +kernel
theorem dX7_readSides_135 : decode cX7_readSides 135 = .ok (.istore_n 3, 1) := by decide +kernel
theorem dX7_readSides_136 : decode cX7_readSides 136 = .ok (.iinc 4 1, 3) := by decide +kernel
theorem dX7_readSides_139 : decode cX7_readSides 139 = .ok (.goto (-125), 3) := by decide +kernel
theorem dX7_readSides_142 : decode cX7_readSides 142 = .ok (.iload_n 3, 1) := by decide +kernel
theorem dX7_readSides_143 : decode cX7_readSides 143 = .ok (.ireturn, 1) := by decide +kernel
theorem dX7_readSign_0 : decode cX7_readSign 0 = .ok (.aload_n 0, 1) := by decide +kernel
theorem dX7_readSign_1 : decode cX7_readSign 1 = .ok (.getfield 26, 3) := by decide +kernel
theorem dX7_readSign_4 : decode cX7_readSign 4 = .ok (.iconst 1, 1) := by decide +kernel
theorem dX7_readSign_5 : decode cX7_readSign 5 = .ok (.iaload, 1) := by decide +kernel
theorem dX7_readSign_6 : decode cX7_readSign 6 = .ok (.istore_n 2, 1) := by decide +kernel
theorem dX7_readSign_7 : decode cX7_readSign 7 = .ok (.aload_n 0, 1) := by decide +kernel
theorem dX7_readSign_8 : decode cX7_readSign 8 = .ok (.getfield 180, 3) := by decide +kernel
theorem dX7_readSign_11 : decode cX7_readSign 11 = .ok (.iconst 3, 1) := by decide +kernel
theorem dX7_readSign_12 : decode cX7_readSign 12 = .ok (.if_icmp .ne 12, 3) := by decide +kernel
theorem dX7_readSign_15 : decode cX7_readSign 15 = .ok (.aload_n 0, 1) := by decide +kernel
theorem dX7_readSign_16 : decode cX7_readSign 16 = .ok (.iload_n 1, 1) := by decide +kernel
theorem dX7_readSign_17 : decode cX7_readSign 17 = .ok (.invokevirtual 183, 3) := by decide +kernel
theorem dX7_readSign_20 : decode cX7_readSign 20 = .ok (.istore_n 3, 1) := by decide +kernel
theorem dX7_readSign_21 : decode cX7_readSign 21 = .ok (.goto 226, 3) := by decide +kernel
theorem dX7_readSign_24 : decode cX7_readSign 24 = .ok (.aload_n 0, 1) := by decide +kernel
theorem dX7_readSign_25 : decode cX7_readSign 25 = .ok (.getfield 180, 3) := by decide +kernel
theorem dX7_readSign_28 : decode cX7_readSign 28 = .ok (.iconst 2, 1) := by decide +kernel
theorem dX7_readSign_29 : decode cX7_readSign 29 = .ok (.if_icmp .ne 129, 3) := by decide +kernel
theorem dX7_readSign_32 : decode cX7_readSign 32 = .ok (.aload_n 0, 1) := by decide +kernel
theorem dX7_readSign_33 : decode cX7_readSign 33 = .ok (.getfield 56, 3) := by decide +kernel
theorem dX7_readSign_36 : decode cX7_readSign 36 = .ok (.iload_n 1, 1) := by decide +kernel
theorem dX7_readSign_37 : decode cX7_readSign 37 = .ok (.laload, 1) := by decide +kernel
theorem dX7_readSign_38 : decode cX7_readSign 38 = .ok (.l2i, 1) := by decide +kernel
theorem dX7_readSign_39 : decode cX7_readSign 39 = .ok (.iconst 1, 1) := by decide +kernel
theorem dX7_readSign_40 : decode cX7_readSign 40 = .ok (.iload_n 2, 1) := by decide +kernel
theorem dX7_readSign_41 : decode cX7_readSign 41 = .ok (.ishl, 1) := by decide +kernel
theorem dX7_readSign_42 : decode cX7_readSign 42 = .ok (.isub, 1) := by decide +kernel
theorem dX7_readSign_43 : decode cX7_readSign 43 = .ok (.istore 4, 2) := by decide +kernel
theorem dX7_readSign_45 : decode cX7_readSign 45 = .ok (.aload_n 0, 1) := by decide +kernel
theorem dX7_readSign_46 : decode cX7_readSign 46 = .ok (.getfield 29, 3) := by decide +kernel
theorem dX7_readSign_49 : decode cX7_readSign 49 = .ok (.sipush 4096, 3) := by decide +kernel
theorem dX7_readSign_52 : decode cX7_readSign 52 = .ok (.iload 4, 2) := by decide +kernel
theorem dX7_readSign_54 : decode cX7_readSign 54 = .ok (.iadd, 1) := by decide +kernel
theorem dX7_readSign_55 : decode cX7_readSign 55 = .ok (.iaload, 1) := by decide +kernel
theorem dX7_readSign_56 : decode cX7_readSign 56 = .ok (.istore_n 3, 1) := by decide +kernel
theorem dX7_readSign_57 : decode cX7_readSign 57 = .ok (.aload_n 0, 1) := by decide +kernel
theorem dX7_readSign_58 : decode cX7_readSign 58 = .ok (.getfield 32, 3) := by decide +kernel
theorem dX7_readSign_61 : decode cX7_readSign 61 = .ok (.sipush 4096, 3) := by decide +kernel
theorem dX7_readSign_64 : decode cX7_readSign 64 = .ok (.iload 4, 2) := by decide +kernel
theorem dX7_readSign_66 : decode cX7_readSign 66 = .ok (.iadd, 1) := by decide +kernel
theorem dX7_readSign_67 : decode cX7_readSign 67 = .ok (.iaload, 1) := by decide +kernel
theorem dX7_readSign_68 : decode cX7_readSign 68 = .ok (.i2l, 1) := by decide +kernel
theorem dX7_readSign_69 : decode cX7_readSign 69 = .ok (.lstore 5, 2) := by decide +kernel
theorem dX7_readSign_71 : decode cX7_readSign 71 = .ok (.aload_n 0, 1) := by decide +kernel
theorem dX7_readSign_72 : decode cX7_readSign 72 = .ok (.getfield 20, 3) := by decide +kernel
theorem dX7_readSign_75 : decode cX7_readSign 75 = .ok (.bipush 32, 2) := by decide +kernel
theorem dX7_readSign_77 : decode cX7_readSign 77 = .ok (.iload_n 3, 1) := by decide +kernel
theorem dX7_readSign_78 : decode cX7_readSign 78 = .ok (.iadd, 1) := by decide +kernel
theorem dX7_readSign_79 : decode cX7_readSign 79 = .ok (.iaload, 1) := by decide +kernel
theorem dX7_readSign_80 : decode cX7_readSign 80 = .ok (.iconst 1, 1) := by decide +kernel
theorem dX7_readSign_81 : decode cX7_readSign 81 = .ok (.iload_n 2, 1) := by decide +kernel
theorem dX7_readSign_82 : decode cX7_readSign 82 = .ok (.ishl, 1) := by decide +kernel
theorem dX7_readSign_83 : decode cX7_readSign 83 = .ok (.if_icmp .ne 7, 3) := by decide +kernel
theorem dX7_readSign_86 : decode cX7_readSign 86 = .ok (.iconst 1, 1) := by decide +kernel
theorem dX7_readSign_87 : decode cX7_readSign 87 = .ok (.goto 4, 3) := by decide +kernel
theorem dX7_readSign_90 : decode cX7_readSign 90 = .ok (.iconst 0, 1) := by decide +kernel
theorem dX7_readSign_91 : decode cX7_readSign 91 = .ok (.istore 7, 2) := by decide +kernel
theorem dX7_readSign_93 : decode cX7_readSign 93 = .ok (.lload 5, 2) := by decide +kernel
theorem dX7_readSign_95 : decode cX7_readSign 95 = .ok (.lconst 1, 1) := by decide +kernel
theorem dX7_readSign_96 : decode cX7_readSign 96 = .ok (.iload_n 2, 1) := by decide +kernel
theorem dX7_readSign_97 : decode cX7_readSign 97 = .ok (.lshl, 1) := by decide +kernel
theorem dX7_readSign_98 : decode cX7_readSign 98 = .ok (.lcmp, 1) := by decide +kernel
theorem dX7_readSign_99 : decode cX7_readSign 99 = .ok (.ifCond .ge 27, 3) := by decide +kernel
theorem dX7_readSign_102 : decode cX7_readSign 102 = .ok (.aload_n 0, 1) := by decide +kernel
theorem dX7_readSign_103 : decode cX7_readSign 103 = .ok (.getfield 162, 3) := by decide +kernel
theorem dX7_readSign_106 : decode cX7_readSign 106 = .ok (.ifCond .ne 20, 3) := by decide +kernel
theorem dX7_readSign_109 : decode cX7_readSign 109 = .ok (.ldc2_w 79, 3) := by decide +kernel
theorem dX7_readSign_112 : decode cX7_readSign 112 = .ok (.lload 5, 2) := by decide +kernel
theorem dX7_readSign_114 : decode cX7_readSign 114 = .ok (.lmul, 1) := by decide +kernel
theorem dX7_readSign_115 : decode cX7_readSign 115 = .ok (.aload_n 0, 1) := by decide +kernel
theorem dX7_readSign_116 : decode cX7_readSign 116 = .ok (.invokevirtual 177, 3) := by decide +kernel
theorem dX7_readSign_119 : decode cX7_readSign 119 = .ok (.i2l, 1) := by decide +kernel
theorem dX7_readSign_120 : decode cX7_readSign 120 = .ok (.ladd, 1) := by decide +kernel
theorem dX7_readSign_121 : decode cX7_readSign 121 = .ok (.lstore 5, 2) := by decide +kernel
theorem dX7_readSign_123 : decode cX7_readSign 123 = .ok (.goto (-30), 3) := by decide +kernel
theorem dX7_readSign_126 : decode cX7_readSign 126 = .ok (.aload_n 0, 1) := by decide +kernel
theorem dX7_readSign_127 : decode cX7_readSign 127 = .ok (.getfield 56, 3) := by decide +kernel
theorem dX7_readSign_130 : decode cX7_readSign 130 = .ok (.iload_n 1, 1) := by decide +kernel
theorem dX7_readSign_131 : decode cX7_readSign 131 = .ok (.aload_n 0, 1) := by decide +kernel
theorem dX7_readSign_132 : decode cX7_readSign 132 = .ok (.getfield 162, 3) := by decide +kernel
theorem dX7_readSign_135 : decode cX7_readSign 135 = .ok (.ifCond .ne 13, 3) := by decide +kernel
theorem dX7_readSign_138 : decode cX7_readSign 138 = .ok (.iload 7, 2) := by decide +kernel
theorem dX7_readSign_140 : decode cX7_readSign 140 = .ok (.ifCond .ne 8, 3) := by decide +kernel
theorem dX7_readSign_143 : decode cX7_readSign 143 = .ok (.lload 5, 2) := by decide +kernel
theorem dX7_readSign_145 : decode cX7_readSign 145 = .ok (.goto 9, 3) := by decide +kernel
theorem dX7_readSign_148 : decode cX7_readSign 148 = .ok (.aload_n 0, 1) := by decide +kernel
theorem dX7_readSign_149 : decode cX7_readSign 149 = .ok (.getfield 56, 3) := by decide +kernel
theorem dX7_readSign_152 : decode cX7_readSign 152 = .ok (.iload_n 1, 1) := by decide +kernel
theorem dX7_readSign_153 : decode cX7_readSign 153 = .ok (.laload, 1) := by decide +kernel
theorem dX7_readSign_154 : decode cX7_readSign 154 = .ok (.lastore, 1) := by decide +kernel
theorem dX7_readSign_155 : decode cX7_readSign 155 = .ok (.goto 92, 3) := by decide +kernel
theorem dX7_readSign_158 : decode cX7_readSign 158 = .ok (.aload_n 0, 1) := by decide +kernel
theorem dX7_readSign_159 : decode cX7_readSign 159 = .ok (.aload_n 0, 1) := by decide +kernel
theorem dX7_readSign_160 : decode cX7_readSign 160 = .ok (.getfield 56, 3) := by decide +kernel
theorem dX7_readSign_163 : decode cX7_readSign 163 = .ok (.iload_n 1, 1) := by decide +kernel
theorem dX7_readSign_164 : decode cX7_readSign 164 = .ok (.laload, 1) := by decide +kernel
theorem dX7_readSign_165 : decode cX7_readSign 165 = .ok (.lconst 1, 1) := by decide +kernel
theorem dX7_readSign_166 : decode cX7_readSign 166 = .ok (.iload_n 2, 1) := by decide +kernel
theorem dX7_readSign_167 : decode cX7_readSign 167 = .ok (.lshl, 1) := by decide +kernel
theorem dX7_readSign_168 : decode cX7_readSign 168 = .ok (.lconst 1, 1) := by decide +kernel
theorem dX7_readSign_169 : decode cX7_readSign 169 = .ok (.lsub, 1) := by decide +kernel
theorem dX7_readSign_170 : decode cX7_readSign 170 = .ok (.land, 1) := by decide +kernel
theorem dX7_readSign_171 : decode cX7_readSign 171 = .ok (.l2i, 1) := by decide +kernel
theorem dX7_readSign_172 : decode cX7_readSign 172 = .ok (.invokevirtual 186, 3) := by decide +kernel
theorem dX7_readSign_175 : decode cX7_readSign 175 = .ok (.istore_n 3, 1) := by decide +kernel
theorem dX7_readSign_176 : decode cX7_readSign 176 = .ok (.aload_n 0, 1) := by decide +kernel
theorem dX7_readSign_177 : decode cX7_readSign 177 = .ok (.getfield 20, 3) := by decide +kernel
theorem dX7_readSign_180 : decode cX7_readSign 180 = .ok (.bipush 32, 2) := by decide +kernel
theorem dX7_readSign_182 : decode cX7_readSign 182 = .ok (.iload_n 3, 1) := by decide +kernel
theorem dX7_readSign_183 : decode cX7_readSign 183 = .ok (.iadd, 1) := by decide +kernel
theorem dX7_readSign_184 : decode cX7_readSign 184 = .ok (.iaload, 1) := by decide +kernel
theorem dX7_readSign_185 : decode cX7_readSign 185 = .ok (.iconst 1, 1) := by decide +kernel
theorem dX7_readSign_186 : decode cX7_readSign 186 = .ok (.iload_n 2, 1) := by decide +kernel
theorem dX7_readSign_187 : decode cX7_readSign 187 = .ok (.ishl, 1) := by decide +kernel
theorem dX7_readSign_188 : decode cX7_readSign 188 = .ok (.if_icmp .ge 59, 3) := by decide +kernel
theorem dX7_readSign_191 : decode cX7_readSign 191 = .ok (.aload_n 0, 1) := by decide +kernel
theorem dX7_readSign_192 : decode cX7_readSign 192 = .ok (.getfield 180, 3) := by decide +kernel
theorem dX7_readSign_195 : decode cX7_readSign 195 = .ok (.ifCond .ne 29, 3) := by decide +kernel
theorem dX7_readSign_198 : decode cX7_readSign 198 = .ok (.aload_n 0, 1) := by decide +kernel
theorem dX7_readSign_199 : decode cX7_readSign 199 = .ok (.iload_n 1, 1) := by decide +kernel
theorem dX7_readSign_200 : decode cX7_readSign 200 = .ok (.aload_n 0, 1) := by decide +kernel
theorem dX7_readSign_201 : decode cX7_readSign 201 = .ok (.getfield 20, 3) := by decide +kernel
theorem dX7_readSign_204 : decode cX7_readSign 204 = .ok (.bipush 32, 2) := by decide +kernel
theorem dX7_readSign_206 : decode cX7_readSign 206 = .ok (.iload_n 3, 1) := by decide +kernel
theorem dX7_readSign_207 : decode cX7_readSign 207 = .ok (.iadd, 1) := by decide +kernel
theorem dX7_readSign_208 : decode cX7_readSign 208 = .ok (.iaload, 1) := by decide +kernel
theorem dX7_readSign_209 : decode cX7_readSign 209 = .ok (.aload_n 0, 1) := by decide +kernel
theorem dX7_readSign_210 : decode cX7_readSign 210 = .ok (.getfield 23, 3) := by decide +kernel
theorem dX7_readSign_213 : decode cX7_readSign 213 = .ok (.bipush 32, 2) := by decide +kernel
theorem dX7_readSign_215 : decode cX7_readSign 215 = .ok (.iload_n 3, 1) := by decide +kernel
theorem dX7_readSign_216 : decode cX7_readSign 216 = .ok (.iadd, 1) := by decide +kernel
theorem dX7_readSign_217 : decode cX7_readSign 217 = .ok (.iaload, 1) := by decide +kernel
theorem dX7_readSign_218 : decode cX7_readSign 218 = .ok (.invokevirtual 189, 3) := by decide +kernel
theorem dX7_readSign_221 : decode cX7_readSign 221 = .ok (.goto 26, 3) := by decide +kernel
theorem dX7_readSign_224 : decode cX7_readSign 224 = .ok (.aload_n 0, 1) := by decide +kernel
theorem dX7_readSign_225 : decode cX7_readSign 225 = .ok (.iload_n 1, 1) := by decide +kernel
theorem dX7_readSign_226 : decode cX7_readSign 226 = .ok (.aload_n 0, 1) := by decide +kernel
theorem dX7_readSign_227 : decode cX7_readSign 227 = .ok (.getfield 20, 3) := by decide +kernel
theorem dX7_readSign_230 : decode cX7_readSign 230 = .ok (.bipush 32, 2) := by decide +kernel
theorem dX7_readSign_232 : decode cX7_readSign 232 = .ok (.iload_n 3, 1) := by decide +kernel
theorem dX7_readSign_233 : decode cX7_readSign 233 = .ok (.iadd, 1) := by decide +kernel
theorem dX7_readSign_234 : decode cX7_readSign 234 = .ok (.iaload, 1) := by decide +kernel
theorem dX7_readSign_235 : decode cX7_readSign 235 = .ok (.aload_n 0, 1) := by decide +kernel
theorem dX7_readSign_236 : decode cX7_readSign 236 = .ok (.getfield 23, 3) := by decide +kernel
theorem dX7_readSign_239 : decode cX7_readSign 239 = .ok (.bipush 32, 2) := by decide +kernel
theorem dX7_readSign_241 : decode cX7_readSign 241 = .ok (.iload_n 3, 1) := by decide +kernel
theorem dX7_readSign_242 : decode cX7_readSign 242 = .ok (.iadd, 1) := by decide +kernel
theorem dX7_readSign_243 : decode cX7_readSign 243 = .ok (.iaload, 1) := by decide +kernel
theorem dX7_readSign_244 : decode cX7_readSign 244 = .ok (.invokevirtual 192, 3) := by decide +kernel
theorem dX7_readSign_247 : decode cX7_readSign 247 = .ok (.aload_n 0, 1) := by decide +kernel
theorem dX7_readSign_248 : decode cX7_readSign 248 = .ok (.getfield 162, 3) := by decide +kernel
theorem dX7_readSign_251 : decode cX7_readSign 251 = .ok (.ifCond .ne 23, 3) := by decide +kernel
theorem dX7_readSign_254 : decode cX7_readSign 254 = .ok (.aload_n 0, 1) := by decide +kernel
theorem dX7_readSign_255 : decode cX7_readSign 255 = .ok (.getfield 53, 3) := by decide +kernel
theorem dX7_readSign_258 : decode cX7_readSign 258 = .ok (.aload_n 0, 1) := by decide +kernel
theorem dX7_readSign_259 : decode cX7_readSign 259 = .ok (.getfield 195, 3) := by decide +kernel
theorem dX7_readSign_262 : decode cX7_readSign 262 = .ok (.iload_n 3, 1) := by decide +kernel
theorem dX7_readSign_263 : decode cX7_readSign 263 = .ok (.iastore, 1) := by decide +kernel
theorem dX7_readSign_264 : decode cX7_readSign 264 = .ok (.aload_n 0, 1) := by decide +kernel
theorem dX7_readSign_265 : decode cX7_readSign 265 = .ok (.dup, 1) := by decide +kernel
theorem dX7_readSign_266 : decode cX7_readSign 266 = .ok (.getfield 195, 3) := by decide +kernel
theorem dX7_readSign_269 : decode cX7_readSign 269 = .ok (.iconst 1, 1) := by decide +kernel
theorem dX7_readSign_270 : decode cX7_readSign 270 = .ok (.iadd, 1) := by decide +kernel
theorem dX7_readSign_271 : decode cX7_readSign 271 = .ok (.putfield 195, 3) := by decide +kernel
theorem dX7_readSign_274 : decode cX7_readSign 274 = .ok (.return_, 1) := by decide +kernel
theorem dX7_readHead_0 : decode cX7_readHead 0 = .ok (.aload_n 0, 1) := by decide +kernel
theorem dX7_readHead_1 : decode cX7_readHead 1 = .ok (.invokevirtual 171, 3) := by decide +kernel
theorem dX7_readHead_4 : decode cX7_readHead 4 = .ok (.istore_n 1, 1) := by decide +kernel
theorem dX7_readHead_5 : decode cX7_readHead 5 = .ok (.aload_n 0, 1) := by decide +kernel
theorem dX7_readHead_6 : decode cX7_readHead 6 = .ok (.getfield 162, 3) := by decide +kernel
theorem dX7_readHead_9 : decode cX7_readHead 9 = .ok (.ifCond .ne 21, 3) := by decide +kernel
theorem dX7_readHead_12 : decode cX7_readHead 12 = .ok (.iload_n 1, 1) := by decide +kernel
theorem dX7_readHead_13 : decode cX7_readHead 13 = .ok (.bipush 15, 2) := by decide +kernel
theorem dX7_readHead_15 : decode cX7_readHead 15 = .ok (.if_icmp .gt 10, 3) := by decide +kernel
theorem dX7_readHead_18 : decode cX7_readHead 18 = .ok (.iload_n 1, 1) := by decide +kernel
theorem dX7_readHead_19 : decode cX7_readHead 19 = .ok (.iconst 3, 1) := by decide +kernel
theorem dX7_readHead_20 : decode cX7_readHead 20 = .ok (.iand, 1) := by decide +kernel
theorem dX7_readHead_21 : decode cX7_readHead 21 = .ok (.iconst 3, 1) := by decide +kernel
theorem dX7_readHead_22 : decode cX7_readHead 22 = .ok (.if_icmp .ne 8, 3) := by decide +kernel
theorem dX7_readHead_25 : decode cX7_readHead 25 = .ok (.aload_n 0, 1) := by decide +kernel
theorem dX7_readHead_26 : decode cX7_readHead 26 = .ok (.iconst 2, 1) := by decide +kernel
theorem dX7_readHead_27 : decode cX7_readHead 27 = .ok (.invokevirtual 168, 3) := by decide +kernel
theorem dX7_readHead_30 : decode cX7_readHead 30 = .ok (.aload_n 0, 1) := by decide +kernel
theorem dX7_readHead_31 : decode cX7_readHead 31 = .ok (.iload_n 1, 1) := by decide +kernel
theorem dX7_readHead_32 : decode cX7_readHead 32 = .ok (.iconst 2, 1) := by decide +kernel
theorem dX7_readHead_33 : decode cX7_readHead 33 = .ok (.ishr, 1) := by decide +kernel
theorem dX7_readHead_34 : decode cX7_readHead 34 = .ok (.putfield 180, 3) := by decide +kernel
theorem dX7_readHead_37 : decode cX7_readHead 37 = .ok (.aload_n 0, 1) := by decide +kernel
theorem dX7_readHead_38 : decode cX7_readHead 38 = .ok (.iconst 1, 1) := by decide +kernel
theorem dX7_readHead_39 : decode cX7_readHead 39 = .ok (.iload_n 1, 1) := by decide +kernel
theorem dX7_readHead_40 : decode cX7_readHead 40 = .ok (.iconst 3, 1) := by decide +kernel
theorem dX7_readHead_41 : decode cX7_readHead 41 = .ok (.iand, 1) := by decide +kernel
theorem dX7_readHead_42 : decode cX7_readHead 42 = .ok (.ishl, 1) := by decide +kernel
theorem dX7_readHead_43 : decode cX7_readHead 43 = .ok (.putfield 201, 3) := by decide +kernel
theorem dX7_readHead_46 : decode cX7_readHead 46 = .ok (.aload_n 0, 1) := by decide +kernel
theorem dX7_readHead_47 : decode cX7_readHead 47 = .ok (.invokevirtual 171, 3) := by decide +kernel
theorem dX7_readHead_50 : decode cX7_readHead 50 = .ok (.istore_n 2, 1) := by decide +kernel
theorem dX7_readHead_51 : decode cX7_readHead 51 = .ok (.aload_n 0, 1) := by decide +kernel
theorem dX7_readHead_52 : decode cX7_readHead 52 = .ok (.getfield 162, 3) := by decide +kernel
theorem dX7_readHead_55 : decode cX7_readHead 55 = .ok (.ifCond .ne 19, 3) := by decide +kernel
theorem dX7_readHead_58 : decode cX7_readHead 58 = .ok (.iload_n 2, 1) := by decide +kernel
theorem dX7_readHead_59 : decode cX7_readHead 59 = .ok (.iconst 5, 1) := by decide +kernel
theorem dX7_readHead_60 : decode cX7_readHead 60 = .ok (.if_icmp .lt 9, 3) := by decide +kernel
theorem dX7_readHead_63 : decode cX7_readHead 63 = .ok (.iload_n 2, 1) := by decide +kernel
theorem dX7_readHead_64 : decode cX7_readHead 64 = .ok (.bipush 12, 2) := by decide +kernel
theorem dX7_readHead_66 : decode cX7_readHead 66 = .ok (.if_icmp .le 8, 3) := by decide +kernel
theorem dX7_readHead_69 : decode cX7_readHead 69 = .ok (.aload_n 0, 1) := by decide +kernel
theorem dX7_readHead_70 : decode cX7_readHead 70 = .ok (.iconst 2, 1) := by decide +kernel
theorem dX7_readHead_71 : decode cX7_readHead 71 = .ok (.invokevirtual 168, 3) := by decide +kernel
theorem dX7_readHead_74 : decode cX7_readHead 74 = .ok (.aload_n 0, 1) := by decide +kernel
theorem dX7_readHead_75 : decode cX7_readHead 75 = .ok (.getfield 26, 3) := by decide +kernel
theorem dX7_readHead_78 : decode cX7_readHead 78 = .ok (.iconst 1, 1) := by decide +kernel
theorem dX7_readHead_79 : decode cX7_readHead 79 = .ok (.aload_n 0, 1) := by decide +kernel
theorem dX7_readHead_80 : decode cX7_readHead 80 = .ok (.getfield 162, 3) := by decide +kernel
theorem dX7_readHead_83 : decode cX7_readHead 83 = .ok (.ifCond .ne 7, 3) := by decide +kernel
theorem dX7_readHead_86 : decode cX7_readHead 86 = .ok (.iload_n 2, 1) := by decide +kernel
theorem dX7_readHead_87 : decode cX7_readHead 87 = .ok (.goto 4, 3) := by decide +kernel
theorem dX7_readHead_90 : decode cX7_readHead 90 = .ok (.iconst 5, 1) := by decide +kernel
theorem dX7_readHead_91 : decode cX7_readHead 91 = .ok (.iastore, 1) := by decide +kernel
theorem dX7_readHead_92 : decode cX7_readHead 92 = .ok (.aload_n 0, 1) := by decide +kernel
theorem dX7_readHead_93 : decode cX7_readHead 93 = .ok (.iconst 2, 1) := by decide +kernel
theorem dX7_readHead_94 : decode cX7_readHead 94 = .ok (.invokevirtual 198, 3) := by decide +kernel
theorem dX7_readHead_97 : decode cX7_readHead 97 = .ok (.l2i, 1) := by decide +kernel
theorem dX7_readHead_98 : decode cX7_readHead 98 = .ok (.ireturn, 1) := by decide +kernel

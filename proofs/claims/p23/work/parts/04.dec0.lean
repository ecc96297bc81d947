theorem dX6_bitLength_0 : decode cX6_bitLength 0 = .ok (.iconst 0, 1) := by decide +kernel
theorem dX6_bitLength_1 : decode cX6_bitLength 1 = .ok (.istore_n 1, 1) := by decide +kernel
theorem dX6_bitLength_2 : decode cX6_bitLength 2 = .ok (.iconst 0, 1) := by decide +kernel
theorem dX6_bitLength_3 : decode cX6_bitLength 3 = .ok (.istore_n 2, 1) := by decide +kernel
theorem dX6_bitLength_4 : decode cX6_bitLength 4 = .ok (.iload_n 2, 1) := by decide +kernel
theorem dX6_bitLength_5 : decode cX6_bitLength 5 = .ok (.bipush 31, 2) := by decide +kernel
theorem dX6_bitLength_7 : decode cX6_bitLength 7 = .ok (.if_icmp .ge 19, 3) := by decide +kernel
theorem dX6_bitLength_10 : decode cX6_bitLength 10 = .ok (.iload_n 0, 1) := by decide +kernel
theorem dX6_bitLength_11 : decode cX6_bitLength 11 = .ok (.iload_n 2, 1) := by decide +kernel
theorem dX6_bitLength_12 : decode cX6_bitLength 12 = .ok (.ishr, 1) := by decide +kernel
theorem dX6_bitLength_13 : decode cX6_bitLength 13 = .ok (.ifCond .le 7, 3) := by decide +kernel
theorem dX6_bitLength_16 : decode cX6_bitLength 16 = .ok (.iload_n 2, 1) := by decide +kernel
theorem dX6_bitLength_17 : decode cX6_bitLength 17 = .ok (.iconst 1, 1) := by decide +kernel
theorem dX6_bitLength_18 : decode cX6_bitLength 18 = .ok (.iadd, 1) := by decide +kernel
theorem dX6_bitLength_19 : decode cX6_bitLength 19 = .ok (.istore_n 1, 1) := by decide +kernel
theorem dX6_bitLength_20 : decode cX6_bitLength 20 = .ok (.iinc 2 1, 3) := by decide +kernel
theorem dX6_bitLength_23 : decode cX6_bitLength 23 = .ok (.goto (-19), 3) := by decide +kernel
theorem dX6_bitLength_26 : decode cX6_bitLength 26 = .ok (.iload_n 1, 1) := by decide +kernel
theorem dX6_bitLength_27 : decode cX6_bitLength 27 = .ok (.ireturn, 1) := by decide +kernel
theorem dX0_reckon_0 : decode cX0_reckon 0 = .ok (.iload_n 0, 1) := by decide +kernel
theorem dX0_reckon_1 : decode cX0_reckon 1 = .ok (.invokestatic 27, 3) := by decide +kernel
theorem dX0_reckon_4 : decode cX0_reckon 4 = .ok (.iconst 1, 1) := by decide +kernel
theorem dX0_reckon_5 : decode cX0_reckon 5 = .ok (.isub, 1) := by decide +kernel
theorem dX0_reckon_6 : decode cX0_reckon 6 = .ok (.istore_n 1, 1) := by decide +kernel
theorem dX0_reckon_7 : decode cX0_reckon 7 = .ok (.iload_n 0, 1) := by decide +kernel
theorem dX0_reckon_8 : decode cX0_reckon 8 = .ok (.i2l, 1) := by decide +kernel
theorem dX0_reckon_9 : decode cX0_reckon 9 = .ok (.bipush 30, 2) := by decide +kernel
theorem dX0_reckon_11 : decode cX0_reckon 11 = .ok (.iload_n 1, 1) := by decide +kernel
theorem dX0_reckon_12 : decode cX0_reckon 12 = .ok (.isub, 1) := by decide +kernel
theorem dX0_reckon_13 : decode cX0_reckon 13 = .ok (.lshl, 1) := by decide +kernel
theorem dX0_reckon_14 : decode cX0_reckon 14 = .ok (.lstore_n 2, 1) := by decide +kernel
theorem dX0_reckon_15 : decode cX0_reckon 15 = .ok (.iload_n 1, 1) := by decide +kernel
theorem dX0_reckon_16 : decode cX0_reckon 16 = .ok (.i2l, 1) := by decide +kernel
theorem dX0_reckon_17 : decode cX0_reckon 17 = .ok (.lstore 4, 2) := by decide +kernel
theorem dX0_reckon_19 : decode cX0_reckon 19 = .ok (.iconst 0, 1) := by decide +kernel
theorem dX0_reckon_20 : decode cX0_reckon 20 = .ok (.istore 6, 2) := by decide +kernel
theorem dX0_reckon_22 : decode cX0_reckon 22 = .ok (.iload 6, 2) := by decide +kernel
theorem dX0_reckon_24 : decode cX0_reckon 24 = .ok (.bipush 30, 2) := by decide +kernel
theorem dX0_reckon_26 : decode cX0_reckon 26 = .ok (.if_icmp .ge 40, 3) := by decide +kernel
theorem dX0_reckon_29 : decode cX0_reckon 29 = .ok (.lload_n 2, 1) := by decide +kernel
theorem dX0_reckon_30 : decode cX0_reckon 30 = .ok (.lload_n 2, 1) := by decide +kernel
theorem dX0_reckon_31 : decode cX0_reckon 31 = .ok (.lmul, 1) := by decide +kernel
theorem dX0_reckon_32 : decode cX0_reckon 32 = .ok (.bipush 30, 2) := by decide +kernel
theorem dX0_reckon_34 : decode cX0_reckon 34 = .ok (.lshr, 1) := by decide +kernel
theorem dX0_reckon_35 : decode cX0_reckon 35 = .ok (.lstore_n 2, 1) := by decide +kernel
theorem dX0_reckon_36 : decode cX0_reckon 36 = .ok (.lload_n 2, 1) := by decide +kernel
theorem dX0_reckon_37 : decode cX0_reckon 37 = .ok (.bipush 31, 2) := by decide +kernel
theorem dX0_reckon_39 : decode cX0_reckon 39 = .ok (.lshr, 1) := by decide +kernel
theorem dX0_reckon_40 : decode cX0_reckon 40 = .ok (.l2i, 1) := by decide +kernel
theorem dX0_reckon_41 : decode cX0_reckon 41 = .ok (.istore 7, 2) := by decide +kernel
theorem dX0_reckon_43 : decode cX0_reckon 43 = .ok (.ldc2_w 31, 3) := by decide +kernel
theorem dX0_reckon_46 : decode cX0_reckon 46 = .ok (.lload 4, 2) := by decide +kernel
theorem dX0_reckon_48 : decode cX0_reckon 48 = .ok (.lmul, 1) := by decide +kernel
theorem dX0_reckon_49 : decode cX0_reckon 49 = .ok (.iload 7, 2) := by decide +kernel
theorem dX0_reckon_51 : decode cX0_reckon 51 = .ok (.i2l, 1) := by decide +kernel
theorem dX0_reckon_52 : decode cX0_reckon 52 = .ok (.ladd, 1) := by decide +kernel
theorem dX0_reckon_53 : decode cX0_reckon 53 = .ok (.lstore 4, 2) := by decide +kernel
theorem dX0_reckon_55 : decode cX0_reckon 55 = .ok (.lload_n 2, 1) := by decide +kernel
theorem dX0_reckon_56 : decode cX0_reckon 56 = .ok (.iload 7, 2) := by decide +kernel
theorem dX0_reckon_58 : decode cX0_reckon 58 = .ok (.lshr, 1) := by decide +kernel
theorem dX0_reckon_59 : decode cX0_reckon 59 = .ok (.lstore_n 2, 1) := by decide +kernel
theorem dX0_reckon_60 : decode cX0_reckon 60 = .ok (.iinc 6 1, 3) := by decide +kernel
theorem dX0_reckon_63 : decode cX0_reckon 63 = .ok (.goto (-41), 3) := by decide +kernel
theorem dX0_reckon_66 : decode cX0_reckon 66 = .ok (.lload 4, 2) := by decide +kernel
theorem dX0_reckon_68 : decode cX0_reckon 68 = .ok (.lreturn, 1) := by decide +kernel
theorem dX0_of_0 : decode cX0_of 0 = .ok (.iload_n 1, 1) := by decide +kernel
theorem dX0_of_1 : decode cX0_of 1 = .ok (.iconst 1, 1) := by decide +kernel
theorem dX0_of_2 : decode cX0_of 2 = .ok (.if_icmp .lt 12, 3) := by decide +kernel
theorem dX0_of_5 : decode cX0_of 5 = .ok (.iload_n 1, 1) := by decide +kernel
theorem dX0_of_6 : decode cX0_of 6 = .ok (.aload_n 0, 1) := by decide +kernel
theorem dX0_of_7 : decode cX0_of 7 = .ok (.getfield 9, 3) := by decide +kernel
theorem dX0_of_10 : decode cX0_of 10 = .ok (.arraylength, 1) := by decide +kernel
theorem dX0_of_11 : decode cX0_of 11 = .ok (.if_icmp .lt 7, 3) := by decide +kernel
theorem dX0_of_14 : decode cX0_of 14 = .ok (.ldc2_w 15, 3) := by decide +kernel
theorem dX0_of_17 : decode cX0_of 17 = .ok (.lreturn, 1) := by decide +kernel
theorem dX0_of_18 : decode cX0_of 18 = .ok (.aload_n 0, 1) := by decide +kernel
theorem dX0_of_19 : decode cX0_of 19 = .ok (.getfield 9, 3) := by decide +kernel
theorem dX0_of_22 : decode cX0_of 22 = .ok (.iload_n 1, 1) := by decide +kernel
theorem dX0_of_23 : decode cX0_of 23 = .ok (.laload, 1) := by decide +kernel
theorem dX0_of_24 : decode cX0_of 24 = .ok (.ldc2_w 15, 3) := by decide +kernel
theorem dX0_of_27 : decode cX0_of 27 = .ok (.lcmp, 1) := by decide +kernel
theorem dX0_of_28 : decode cX0_of 28 = .ok (.ifCond .ne 13, 3) := by decide +kernel
theorem dX0_of_31 : decode cX0_of 31 = .ok (.aload_n 0, 1) := by decide +kernel
theorem dX0_of_32 : decode cX0_of 32 = .ok (.getfield 9, 3) := by decide +kernel
theorem dX0_of_35 : decode cX0_of 35 = .ok (.iload_n 1, 1) := by decide +kernel
theorem dX0_of_36 : decode cX0_of 36 = .ok (.iload_n 1, 1) := by decide +kernel
theorem dX0_of_37 : decode cX0_of 37 = .ok (.invokestatic 23, 3) := by decide +kernel
theorem dX0_of_40 : decode cX0_of 40 = .ok (.lastore, 1) := by decide +kernel
theorem dX0_of_41 : decode cX0_of 41 = .ok (.aload_n 0, 1) := by decide +kernel
theorem dX0_of_42 : decode cX0_of 42 = .ok (.getfield 9, 3) := by decide +kernel
theorem dX0_of_45 : decode cX0_of 45 = .ok (.iload_n 1, 1) := by decide +kernel
theorem dX0_of_46 : decode cX0_of 46 = .ok (.laload, 1) := by decide +kernel
theorem dX0_of_47 : decode cX0_of 47 = .ok (.lreturn, 1) := by decide +kernel
theorem dX1_restart_0 : decode cX1_restart 0 = .ok (.aload_n 0, 1) := by decide +kernel
theorem dX1_restart_1 : decode cX1_restart 1 = .ok (.iconst 0, 1) := by decide +kernel
theorem dX1_restart_2 : decode cX1_restart 2 = .ok (.putfield 15, 3) := by decide +kernel
theorem dX1_restart_5 : decode cX1_restart 5 = .ok (.aload_n 0, 1) := by decide +kernel
theorem dX1_restart_6 : decode cX1_restart 6 = .ok (.iconst 0, 1) := by decide +kernel
theorem dX1_restart_7 : decode cX1_restart 7 = .ok (.putfield 19, 3) := by decide +kernel
theorem dX1_restart_10 : decode cX1_restart 10 = .ok (.return_, 1) := by decide +kernel
theorem dX1_append_0 : decode cX1_append 0 = .ok (.aload_n 0, 1) := by decide +kernel
theorem dX1_append_1 : decode cX1_append 1 = .ok (.aload_n 0, 1) := by decide +kernel
theorem dX1_append_2 : decode cX1_append 2 = .ok (.getfield 9, 3) := by decide +kernel
theorem dX1_append_5 : decode cX1_append 5 = .ok (.aload_n 0, 1) := by decide +kernel
theorem dX1_append_6 : decode cX1_append 6 = .ok (.getfield 15, 3) := by decide +kernel
theorem dX1_append_9 : decode cX1_append 9 = .ok (.sipush 8000, 3) := by decide +kernel
theorem dX1_append_12 : decode cX1_append 12 = .ok (.invokestatic 22, 3) := by decide +kernel
theorem dX1_append_15 : decode cX1_append 15 = .ok (.putfield 9, 3) := by decide +kernel
theorem dX1_append_18 : decode cX1_append 18 = .ok (.aload_n 0, 1) := by decide +kernel
theorem dX1_append_19 : decode cX1_append 19 = .ok (.getfield 15, 3) := by decide +kernel
theorem dX1_append_22 : decode cX1_append 22 = .ok (.aload_n 0, 1) := by decide +kernel
theorem dX1_append_23 : decode cX1_append 23 = .ok (.getfield 9, 3) := by decide +kernel
theorem dX1_append_26 : decode cX1_append 26 = .ok (.arraylength, 1) := by decide +kernel
theorem dX1_append_27 : decode cX1_append 27 = .ok (.if_icmp .lt 5, 3) := by decide +kernel
theorem dX1_append_30 : decode cX1_append 30 = .ok (.iconst 0, 1) := by decide +kernel
theorem dX1_append_31 : decode cX1_append 31 = .ok (.ireturn, 1) := by decide +kernel
theorem dX1_append_32 : decode cX1_append 32 = .ok (.aload_n 0, 1) := by decide +kernel
theorem dX1_append_33 : decode cX1_append 33 = .ok (.getfield 9, 3) := by decide +kernel
theorem dX1_append_36 : decode cX1_append 36 = .ok (.aload_n 0, 1) := by decide +kernel
theorem dX1_append_37 : decode cX1_append 37 = .ok (.getfield 15, 3) := by decide +kernel
theorem dX1_append_40 : decode cX1_append 40 = .ok (.iload_n 1, 1) := by decide +kernel
theorem dX1_append_41 : decode cX1_append 41 = .ok (.sipush 255, 3) := by decide +kernel
theorem dX1_append_44 : decode cX1_append 44 = .ok (.iand, 1) := by decide +kernel
theorem dX1_append_45 : decode cX1_append 45 = .ok (.iastore, 1) := by decide +kernel
theorem dX1_append_46 : decode cX1_append 46 = .ok (.aload_n 0, 1) := by decide +kernel
theorem dX1_append_47 : decode cX1_append 47 = .ok (.dup, 1) := by decide +kernel
theorem dX1_append_48 : decode cX1_append 48 = .ok (.getfield 15, 3) := by decide +kernel
theorem dX1_append_51 : decode cX1_append 51 = .ok (.iconst 1, 1) := by decide +kernel
theorem dX1_append_52 : decode cX1_append 52 = .ok (.iadd, 1) := by decide +kernel
theorem dX1_append_53 : decode cX1_append 53 = .ok (.putfield 15, 3) := by decide +kernel
theorem dX1_append_56 : decode cX1_append 56 = .ok (.iconst 1, 1) := by decide +kernel
theorem dX1_append_57 : decode cX1_append 57 = .ok (.ireturn, 1) := by decide +kernel
theorem dX1_valueAt_0 : decode cX1_valueAt 0 = .ok (.iload_n 1, 1) := by decide +kernel
theorem dX1_valueAt_1 : decode cX1_valueAt 1 = .ok (.ifCond .lt 29, 3) := by decide +kernel
theorem dX1_valueAt_4 : decode cX1_valueAt 4 = .ok (.iload_n 1, 1) := by decide +kernel
theorem dX1_valueAt_5 : decode cX1_valueAt 5 = .ok (.aload_n 0, 1) := by decide +kernel
theorem dX1_valueAt_6 : decode cX1_valueAt 6 = .ok (.getfield 15, 3) := by decide +kernel
theorem dX1_valueAt_9 : decode cX1_valueAt 9 = .ok (.if_icmp .ge 21, 3) := by decide +kernel
theorem dX1_valueAt_12 : decode cX1_valueAt 12 = .ok (.iload_n 1, 1) := by decide +kernel
theorem dX1_valueAt_13 : decode cX1_valueAt 13 = .ok (.aload_n 0, 1) := by decide +kernel
theorem dX1_valueAt_14 : decode cX1_valueAt 14 = .ok (.getfield 9, 3) := by decide +kernel
theorem dX1_valueAt_17 : decode cX1_valueAt 17 = .ok (.arraylength, 1) := by decide +kernel
theorem dX1_valueAt_18 : decode cX1_valueAt 18 = .ok (.if_icmp .ge 12, 3) := by decide +kernel
theorem dX1_valueAt_21 : decode cX1_valueAt 21 = .ok (.aload_n 0, 1) := by decide +kernel
theorem dX1_valueAt_22 : decode cX1_valueAt 22 = .ok (.getfield 9, 3) := by decide +kernel
theorem dX1_valueAt_25 : decode cX1_valueAt 25 = .ok (.iload_n 1, 1) := by decide +kernel
theorem dX1_valueAt_26 : decode cX1_valueAt 26 = .ok (.iaload, 1) := by decide +kernel
theorem dX1_valueAt_27 : decode cX1_valueAt 27 = .ok (.goto 4, 3) := by decide +kernel
theorem dX1_valueAt_30 : decode cX1_valueAt 30 = .ok (.iconst (-1), 1) := by decide +kernel
theorem dX1_valueAt_31 : decode cX1_valueAt 31 = .ok (.ireturn, 1) := by decide +kernel
theorem dX1_change_0 : decode cX1_change 0 = .ok (.iload_n 1, 1) := by decide +kernel
theorem dX1_change_1 : decode cX1_change 1 = .ok (.ifCond .lt 20, 3) := by decide +kernel
theorem dX1_change_4 : decode cX1_change 4 = .ok (.iload_n 1, 1) := by decide +kernel
theorem dX1_change_5 : decode cX1_change 5 = .ok (.aload_n 0, 1) := by decide +kernel
theorem dX1_change_6 : decode cX1_change 6 = .ok (.getfield 15, 3) := by decide +kernel
theorem dX1_change_9 : decode cX1_change 9 = .ok (.if_icmp .ge 12, 3) := by decide +kernel
theorem dX1_change_12 : decode cX1_change 12 = .ok (.iload_n 1, 1) := by decide +kernel
theorem dX1_change_13 : decode cX1_change 13 = .ok (.aload_n 0, 1) := by decide +kernel
theorem dX1_change_14 : decode cX1_change 14 = .ok (.getfield 9, 3) := by decide +kernel
theorem dX1_change_17 : decode cX1_change 17 = .ok (.arraylength, 1) := by decide +kernel
theorem dX1_change_18 : decode cX1_change 18 = .ok (.if_icmp .lt 5, 3) := by decide +kernel
theorem dX1_change_21 : decode cX1_change 21 = .ok (.iconst (-1), 1) := by decide +kernel
theorem dX1_change_22 : decode cX1_change 22 = .ok (.ireturn, 1) := by decide +kernel
theorem dX1_change_23 : decode cX1_change 23 = .ok (.aload_n 0, 1) := by decide +kernel
theorem dX1_change_24 : decode cX1_change 24 = .ok (.getfield 9, 3) := by decide +kernel
theorem dX1_change_27 : decode cX1_change 27 = .ok (.iload_n 1, 1) := by decide +kernel
theorem dX1_change_28 : decode cX1_change 28 = .ok (.dup2, 1) := by decide +kernel
theorem dX1_change_29 : decode cX1_change 29 = .ok (.iaload, 1) := by decide +kernel
theorem dX1_change_30 : decode cX1_change 30 = .ok (.iload_n 2, 1) := by decide +kernel
theorem dX1_change_31 : decode cX1_change 31 = .ok (.ixor, 1) := by decide +kernel
theorem dX1_change_32 : decode cX1_change 32 = .ok (.iastore, 1) := by decide +kernel
theorem dX1_change_33 : decode cX1_change 33 = .ok (.aload_n 0, 1) := by decide +kernel
theorem dX1_change_34 : decode cX1_change 34 = .ok (.getfield 9, 3) := by decide +kernel
theorem dX1_change_37 : decode cX1_change 37 = .ok (.iload_n 1, 1) := by decide +kernel
theorem dX1_change_38 : decode cX1_change 38 = .ok (.iaload, 1) := by decide +kernel
theorem dX1_change_39 : decode cX1_change 39 = .ok (.ireturn, 1) := by decide +kernel
theorem dX1_appendNumber_0 : decode cX1_appendNumber 0 = .ok (.iload_n 3, 1) := by decide +kernel
theorem dX1_appendNumber_1 : decode cX1_appendNumber 1 = .ok (.iconst 1, 1) := by decide +kernel
theorem dX1_appendNumber_2 : decode cX1_appendNumber 2 = .ok (.isub, 1) := by decide +kernel
theorem dX1_appendNumber_3 : decode cX1_appendNumber 3 = .ok (.istore 4, 2) := by decide +kernel
theorem dX1_appendNumber_5 : decode cX1_appendNumber 5 = .ok (.iload 4, 2) := by decide +kernel
theorem dX1_appendNumber_7 : decode cX1_appendNumber 7 = .ok (.ifCond .lt 22, 3) := by decide +kernel
theorem dX1_appendNumber_10 : decode cX1_appendNumber 10 = .ok (.aload_n 0, 1) := by decide +kernel
theorem dX1_appendNumber_11 : decode cX1_appendNumber 11 = .ok (.lload_n 1, 1) := by decide +kernel
theorem dX1_appendNumber_12 : decode cX1_appendNumber 12 = .ok (.bipush 8, 2) := by decide +kernel
theorem dX1_appendNumber_14 : decode cX1_appendNumber 14 = .ok (.iload 4, 2) := by decide +kernel
theorem dX1_appendNumber_16 : decode cX1_appendNumber 16 = .ok (.imul, 1) := by decide +kernel
theorem dX1_appendNumber_17 : decode cX1_appendNumber 17 = .ok (.lushr, 1) := by decide +kernel
theorem dX1_appendNumber_18 : decode cX1_appendNumber 18 = .ok (.l2i, 1) := by decide +kernel
theorem dX1_appendNumber_19 : decode cX1_appendNumber 19 = .ok (.invokevirtual 26, 3) := by decide +kernel
theorem dX1_appendNumber_22 : decode cX1_appendNumber 22 = .ok (.pop, 1) := by decide +kernel
theorem dX1_appendNumber_23 : decode cX1_appendNumber 23 = .ok (.iinc 4 (-1), 3) := by decide +kernel
theorem dX1_appendNumber_26 : decode cX1_appendNumber 26 = .ok (.goto (-21), 3) := by decide +kernel
theorem dX1_appendNumber_29 : decode cX1_appendNumber 29 = .ok (.return_, 1) := by decide +kernel
theorem dX1_appendBits_0 : decode cX1_appendBits 0 = .ok (.iload_n 2, 1) := by decide +kernel
theorem dX1_appendBits_1 : decode cX1_appendBits 1 = .ok (.iconst 1, 1) := by decide +kernel
theorem dX1_appendBits_2 : decode cX1_appendBits 2 = .ok (.isub, 1) := by decide +kernel
theorem dX1_appendBits_3 : decode cX1_appendBits 3 = .ok (.istore_n 3, 1) := by decide +kernel
theorem dX1_appendBits_4 : decode cX1_appendBits 4 = .ok (.iload_n 3, 1) := by decide +kernel
theorem dX1_appendBits_5 : decode cX1_appendBits 5 = .ok (.ifCond .lt 69, 3) := by decide +kernel
theorem dX1_appendBits_8 : decode cX1_appendBits 8 = .ok (.aload_n 0, 1) := by decide +kernel
theorem dX1_appendBits_9 : decode cX1_appendBits 9 = .ok (.getfield 19, 3) := by decide +kernel
theorem dX1_appendBits_12 : decode cX1_appendBits 12 = .ok (.ifCond .ne 15, 3) := by decide +kernel
theorem dX1_appendBits_15 : decode cX1_appendBits 15 = .ok (.aload_n 0, 1) := by decide +kernel
theorem dX1_appendBits_16 : decode cX1_appendBits 16 = .ok (.iconst 0, 1) := by decide +kernel
theorem dX1_appendBits_17 : decode cX1_appendBits 17 = .ok (.invokevirtual 26, 3) := by decide +kernel
theorem dX1_appendBits_20 : decode cX1_appendBits 20 = .ok (.pop, 1) := by decide +kernel
theorem dX1_appendBits_21 : decode cX1_appendBits 21 = .ok (.aload_n 0, 1) := by decide +kernel
theorem dX1_appendBits_22 : decode cX1_appendBits 22 = .ok (.bipush 8, 2) := by decide +kernel
theorem dX1_appendBits_24 : decode cX1_appendBits 24 = .ok (.putfield 19, 3) := by decide +kernel
theorem dX1_appendBits_27 : decode cX1_appendBits 27 = .ok (.aload_n 0, 1) := by decide +kernel
theorem dX1_appendBits_28 : decode cX1_appendBits 28 = .ok (.dup, 1) := by decide +kernel
theorem dX1_appendBits_29 : decode cX1_appendBits 29 = .ok (.getfield 19, 3) := by decide +kernel
theorem dX1_appendBits_32 : decode cX1_appendBits 32 = .ok (.iconst 1, 1) := by decide +kernel
theorem dX1_appendBits_33 : decode cX1_appendBits 33 = .ok (.isub, 1) := by decide +kernel
theorem dX1_appendBits_34 : decode cX1_appendBits 34 = .ok (.putfield 19, 3) := by decide +kernel
theorem dX1_appendBits_37 : decode cX1_appendBits 37 = .ok (.aload_n 0, 1) := by decide +kernel
theorem dX1_appendBits_38 : decode cX1_appendBits 38 = .ok (.getfield 15, 3) := by decide +kernel
theorem dX1_appendBits_41 : decode cX1_appendBits 41 = .ok (.ifCond .le 27, 3) := by decide +kernel
theorem dX1_appendBits_44 : decode cX1_appendBits 44 = .ok (.aload_n 0, 1) := by decide +kernel
theorem dX1_appendBits_45 : decode cX1_appendBits 45 = .ok (.getfield 9, 3) := by decide +kernel
theorem dX1_appendBits_48 : decode cX1_appendBits 48 = .ok (.aload_n 0, 1) := by decide +kernel
theorem dX1_appendBits_49 : decode cX1_appendBits 49 = .ok (.getfield 15, 3) := by decide +kernel
theorem dX1_appendBits_52 : decode cX1_appendBits 52 = .ok (.iconst 1, 1) := by decide +kernel
theorem dX1_appendBits_53 : decode cX1_appendBits 53 = .ok (.isub, 1) := by decide +kernel
theorem dX1_appendBits_54 : decode cX1_appendBits 54 = .ok (.dup2, 1) := by decide +kernel
theorem dX1_appendBits_55 : decode cX1_appendBits 55 = .ok (.iaload, 1) := by decide +kernel
theorem dX1_appendBits_56 : decode cX1_appendBits 56 = .ok (.iload_n 1, 1) := by decide +kernel
theorem dX1_appendBits_57 : decode cX1_appendBits 57 = .ok (.iload_n 3, 1) := by decide +kernel
theorem dX1_appendBits_58 : decode cX1_appendBits 58 = .ok (.ishr, 1) := by decide +kernel
theorem dX1_appendBits_59 : decode cX1_appendBits 59 = .ok (.iconst 1, 1) := by decide +kernel
theorem dX1_appendBits_60 : decode cX1_appendBits 60 = .ok (.iand, 1) := by decide +kernel
theorem dX1_appendBits_61 : decode cX1_appendBits 61 = .ok (.aload_n 0, 1) := by decide +kernel
theorem dX1_appendBits_62 : decode cX1_appendBits 62 = .ok (.getfield 19, 3) := by decide +kernel
theorem dX1_appendBits_65 : decode cX1_appendBits 65 = .ok (.ishl, 1) := by decide +kernel
theorem dX1_appendBits_66 : decode cX1_appendBits 66 = .ok (.ior, 1) := by decide +kernel
theorem dX1_appendBits_67 : decode cX1_appendBits 67 = .ok (.iastore, 1) := by decide +kernel
theorem dX1_appendBits_68 : decode cX1_appendBits 68 = .ok (.iinc 3 (-1), 3) := by decide +kernel
theorem dX1_appendBits_71 : decode cX1_appendBits 71 = .ok (.goto (-67), 3) := by decide +kernel
theorem dX1_appendBits_74 : decode cX1_appendBits 74 = .ok (.return_, 1) := by decide +kernel
theorem dX2_empty_0 : decode cX2_empty 0 = .ok (.aload_n 0, 1) := by decide +kernel
theorem dX2_empty_1 : decode cX2_empty 1 = .ok (.iconst 0, 1) := by decide +kernel
theorem dX2_empty_2 : decode cX2_empty 2 = .ok (.putfield 15, 3) := by decide +kernel
theorem dX2_empty_5 : decode cX2_empty 5 = .ok (.return_, 1) := by decide +kernel
theorem dX2_makeRoomForSign_0 : decode cX2_makeRoomForSign 0 = .ok (.aload_n 0, 1) := by decide +kernel
theorem dX2_makeRoomForSign_1 : decode cX2_makeRoomForSign 1 = .ok (.aload_n 0, 1) := by decide +kernel
theorem dX2_makeRoomForSign_2 : decode cX2_makeRoomForSign 2 = .ok (.getfield 9, 3) := by decide +kernel
theorem dX2_makeRoomForSign_5 : decode cX2_makeRoomForSign 5 = .ok (.aload_n 0, 1) := by decide +kernel
theorem dX2_makeRoomForSign_6 : decode cX2_makeRoomForSign 6 = .ok (.getfield 15, 3) := by decide +kernel
theorem dX2_makeRoomForSign_9 : decode cX2_makeRoomForSign 9 = .ok (.bipush 8, 2) := by decide +kernel
theorem dX2_makeRoomForSign_11 : decode cX2_makeRoomForSign 11 = .ok (.idiv, 1) := by decide +kernel
theorem dX2_makeRoomForSign_12 : decode cX2_makeRoomForSign 12 = .ok (.bipush 10, 2) := by decide +kernel
theorem dX2_makeRoomForSign_14 : decode cX2_makeRoomForSign 14 = .ok (.iadd, 1) := by decide +kernel
theorem dX2_makeRoomForSign_15 : decode cX2_makeRoomForSign 15 = .ok (.sipush 8000, 3) := by decide +kernel
theorem dX2_makeRoomForSign_18 : decode cX2_makeRoomForSign 18 = .ok (.invokestatic 19, 3) := by decide +kernel
theorem dX2_makeRoomForSign_21 : decode cX2_makeRoomForSign 21 = .ok (.putfield 9, 3) := by decide +kernel
theorem dX2_makeRoomForSign_24 : decode cX2_makeRoomForSign 24 = .ok (.return_, 1) := by decide +kernel
theorem dX2_pushOctet_0 : decode cX2_pushOctet 0 = .ok (.aload_n 0, 1) := by decide +kernel
theorem dX2_pushOctet_1 : decode cX2_pushOctet 1 = .ok (.getfield 15, 3) := by decide +kernel
theorem dX2_pushOctet_4 : decode cX2_pushOctet 4 = .ok (.bipush 8, 2) := by decide +kernel
theorem dX2_pushOctet_6 : decode cX2_pushOctet 6 = .ok (.idiv, 1) := by decide +kernel
theorem dX2_pushOctet_7 : decode cX2_pushOctet 7 = .ok (.istore_n 2, 1) := by decide +kernel
theorem dX2_pushOctet_8 : decode cX2_pushOctet 8 = .ok (.iload_n 2, 1) := by decide +kernel
theorem dX2_pushOctet_9 : decode cX2_pushOctet 9 = .ok (.aload_n 0, 1) := by decide +kernel
theorem dX2_pushOctet_10 : decode cX2_pushOctet 10 = .ok (.getfield 9, 3) := by decide +kernel
theorem dX2_pushOctet_13 : decode cX2_pushOctet 13 = .ok (.arraylength, 1) := by decide +kernel
theorem dX2_pushOctet_14 : decode cX2_pushOctet 14 = .ok (.if_icmp .ge 25, 3) := by decide +kernel
theorem dX2_pushOctet_17 : decode cX2_pushOctet 17 = .ok (.aload_n 0, 1) := by decide +kernel
theorem dX2_pushOctet_18 : decode cX2_pushOctet 18 = .ok (.getfield 9, 3) := by decide +kernel
theorem dX2_pushOctet_21 : decode cX2_pushOctet 21 = .ok (.iload_n 2, 1) := by decide +kernel
theorem dX2_pushOctet_22 : decode cX2_pushOctet 22 = .ok (.iload_n 1, 1) := by decide +kernel
theorem dX2_pushOctet_23 : decode cX2_pushOctet 23 = .ok (.sipush 255, 3) := by decide +kernel
theorem dX2_pushOctet_26 : decode cX2_pushOctet 26 = .ok (.iand, 1) := by decide +kernel
theorem dX2_pushOctet_27 : decode cX2_pushOctet 27 = .ok (.iastore, 1) := by decide +kernel
theorem dX2_pushOctet_28 : decode cX2_pushOctet 28 = .ok (.aload_n 0, 1) := by decide +kernel
theorem dX2_pushOctet_29 : decode cX2_pushOctet 29 = .ok (.dup, 1) := by decide +kernel
theorem dX2_pushOctet_30 : decode cX2_pushOctet 30 = .ok (.getfield 15, 3) := by decide +kernel
theorem dX2_pushOctet_33 : decode cX2_pushOctet 33 = .ok (.bipush 8, 2) := by decide +kernel
theorem dX2_pushOctet_35 : decode cX2_pushOctet 35 = .ok (.iadd, 1) := by decide +kernel
theorem dX2_pushOctet_36 : decode cX2_pushOctet 36 = .ok (.putfield 15, 3) := by decide +kernel
theorem dX2_pushOctet_39 : decode cX2_pushOctet 39 = .ok (.return_, 1) := by decide +kernel
theorem dX2_pushBit_0 : decode cX2_pushBit 0 = .ok (.aload_n 0, 1) := by decide +kernel
theorem dX2_pushBit_1 : decode cX2_pushBit 1 = .ok (.getfield 15, 3) := by decide +kernel
theorem dX2_pushBit_4 : decode cX2_pushBit 4 = .ok (.bipush 8, 2) := by decide +kernel
theorem dX2_pushBit_6 : decode cX2_pushBit 6 = .ok (.idiv, 1) := by decide +kernel
theorem dX2_pushBit_7 : decode cX2_pushBit 7 = .ok (.istore_n 2, 1) := by decide +kernel
theorem dX2_pushBit_8 : decode cX2_pushBit 8 = .ok (.iload_n 2, 1) := by decide +kernel
theorem dX2_pushBit_9 : decode cX2_pushBit 9 = .ok (.aload_n 0, 1) := by decide +kernel
theorem dX2_pushBit_10 : decode cX2_pushBit 10 = .ok (.getfield 9, 3) := by decide +kernel
theorem dX2_pushBit_13 : decode cX2_pushBit 13 = .ok (.arraylength, 1) := by decide +kernel
theorem dX2_pushBit_14 : decode cX2_pushBit 14 = .ok (.if_icmp .ge 53, 3) := by decide +kernel
theorem dX2_pushBit_17 : decode cX2_pushBit 17 = .ok (.aload_n 0, 1) := by decide +kernel
theorem dX2_pushBit_18 : decode cX2_pushBit 18 = .ok (.getfield 15, 3) := by decide +kernel
theorem dX2_pushBit_21 : decode cX2_pushBit 21 = .ok (.bipush 8, 2) := by decide +kernel
theorem dX2_pushBit_23 : decode cX2_pushBit 23 = .ok (.irem, 1) := by decide +kernel
theorem dX2_pushBit_24 : decode cX2_pushBit 24 = .ok (.ifCond .ne 7, 3) := by decide +kernel
theorem dX2_pushBit_27 : decode cX2_pushBit 27 = .ok (.iconst 0, 1) := by decide +kernel
theorem dX2_pushBit_28 : decode cX2_pushBit 28 = .ok (.goto 9, 3) := by decide +kernel
theorem dX2_pushBit_31 : decode cX2_pushBit 31 = .ok (.aload_n 0, 1) := by decide +kernel
theorem dX2_pushBit_32 : decode cX2_pushBit 32 = .ok (.getfield 9, 3) := by decide +kernel
theorem dX2_pushBit_35 : decode cX2_pushBit 35 = .ok (.iload_n 2, 1) := by decide +kernel
theorem dX2_pushBit_36 : decode cX2_pushBit 36 = .ok (.iaload, 1) := by decide +kernel
theorem dX2_pushBit_37 : decode cX2_pushBit 37 = .ok (.istore_n 3, 1) := by decide +kernel
theorem dX2_pushBit_38 : decode cX2_pushBit 38 = .ok (.aload_n 0, 1) := by decide +kernel
theorem dX2_pushBit_39 : decode cX2_pushBit 39 = .ok (.getfield 9, 3) := by decide +kernel
theorem dX2_pushBit_42 : decode cX2_pushBit 42 = .ok (.iload_n 2, 1) := by decide +kernel
theorem dX2_pushBit_43 : decode cX2_pushBit 43 = .ok (.iload_n 3, 1) := by decide +kernel
theorem dX2_pushBit_44 : decode cX2_pushBit 44 = .ok (.iload_n 1, 1) := by decide +kernel
theorem dX2_pushBit_45 : decode cX2_pushBit 45 = .ok (.iconst 1, 1) := by decide +kernel
theorem dX2_pushBit_46 : decode cX2_pushBit 46 = .ok (.iand, 1) := by decide +kernel
theorem dX2_pushBit_47 : decode cX2_pushBit 47 = .ok (.aload_n 0, 1) := by decide +kernel
theorem dX2_pushBit_48 : decode cX2_pushBit 48 = .ok (.getfield 15, 3) := by decide +kernel
theorem dX2_pushBit_51 : decode cX2_pushBit 51 = .ok (.bipush 8, 2) := by decide +kernel
theorem dX2_pushBit_53 : decode cX2_pushBit 53 = .ok (.irem, 1) := by decide +kernel
theorem dX2_pushBit_54 : decode cX2_pushBit 54 = .ok (.ishl, 1) := by decide +kernel
theorem dX2_pushBit_55 : decode cX2_pushBit 55 = .ok (.ior, 1) := by decide +kernel
theorem dX2_pushBit_56 : decode cX2_pushBit 56 = .ok (.iastore, 1) := by decide +kernel
theorem dX2_pushBit_57 : decode cX2_pushBit 57 = .ok (.aload_n 0, 1) := by decide +kernel
theorem dX2_pushBit_58 : decode cX2_pushBit 58 = .ok (.dup, 1) := by decide +kernel
theorem dX2_pushBit_59 : decode cX2_pushBit 59 = .ok (.getfield 15, 3) := by decide +kernel
theorem dX2_pushBit_62 : decode cX2_pushBit 62 = .ok (.iconst 1, 1) := by decide +kernel
theorem dX2_pushBit_63 : decode cX2_pushBit 63 = .ok (.iadd, 1) := by decide +kernel
theorem dX2_pushBit_64 : decode cX2_pushBit 64 = .ok (.putfield 15, 3) := by decide +kernel
theorem dX2_pushBit_67 : decode cX2_pushBit 67 = .ok (.return_, 1) := by decide +kernel
theorem dX2_pourInto_0 : decode cX2_pourInto 0 = .ok (.aload_n 0, 1) := by decide +kernel
theorem dX2_pourInto_1 : decode cX2_pourInto 1 = .ok (.getfield 15, 3) := by decide +kernel
theorem dX2_pourInto_4 : decode cX2_pourInto 4 = .ok (.bipush 7, 2) := by decide +kernel
theorem dX2_pourInto_6 : decode cX2_pourInto 6 = .ok (.iadd, 1) := by decide +kernel
theorem dX2_pourInto_7 : decode cX2_pourInto 7 = .ok (.bipush 8, 2) := by decide +kernel
theorem dX2_pourInto_9 : decode cX2_pourInto 9 = .ok (.idiv, 1) := by decide +kernel
theorem dX2_pourInto_10 : decode cX2_pourInto 10 = .ok (.istore_n 2, 1) := by decide +kernel
theorem dX2_pourInto_11 : decode cX2_pourInto 11 = .ok (.aload_n 0, 1) := by decide +kernel
theorem dX2_pourInto_12 : decode cX2_pourInto 12 = .ok (.getfield 15, 3) := by decide +kernel
theorem dX2_pourInto_15 : decode cX2_pourInto 15 = .ok (.bipush 8, 2) := by decide +kernel
theorem dX2_pourInto_17 : decode cX2_pourInto 17 = .ok (.iload_n 2, 1) := by decide +kernel
theorem dX2_pourInto_18 : decode cX2_pourInto 18 = .ok (.iconst 1, 1) := by decide +kernel
theorem dX2_pourInto_19 : decode cX2_pourInto 19 = .ok (.isub, 1) := by decide +kernel
theorem dX2_pourInto_20 : decode cX2_pourInto 20 = .ok (.imul, 1) := by decide +kernel
theorem dX2_pourInto_21 : decode cX2_pourInto 21 = .ok (.isub, 1) := by decide +kernel
theorem dX2_pourInto_22 : decode cX2_pourInto 22 = .ok (.istore_n 3, 1) := by decide +kernel
theorem dX2_pourInto_23 : decode cX2_pourInto 23 = .ok (.iload_n 2, 1) := by decide +kernel
theorem dX2_pourInto_24 : decode cX2_pourInto 24 = .ok (.iconst 1, 1) := by decide +kernel
theorem dX2_pourInto_25 : decode cX2_pourInto 25 = .ok (.isub, 1) := by decide +kernel
theorem dX2_pourInto_26 : decode cX2_pourInto 26 = .ok (.istore 4, 2) := by decide +kernel
theorem dX2_pourInto_28 : decode cX2_pourInto 28 = .ok (.iload 4, 2) := by decide +kernel
theorem dX2_pourInto_30 : decode cX2_pourInto 30 = .ok (.ifCond .lt 51, 3) := by decide +kernel
theorem dX2_pourInto_33 : decode cX2_pourInto 33 = .ok (.iload 4, 2) := by decide +kernel
theorem dX2_pourInto_35 : decode cX2_pourInto 35 = .ok (.ifCond .le 15, 3) := by decide +kernel
theorem dX2_pourInto_38 : decode cX2_pourInto 38 = .ok (.aload_n 0, 1) := by decide +kernel
theorem dX2_pourInto_39 : decode cX2_pourInto 39 = .ok (.getfield 9, 3) := by decide +kernel
theorem dX2_pourInto_42 : decode cX2_pourInto 42 = .ok (.iload 4, 2) := by decide +kernel
theorem dX2_pourInto_44 : decode cX2_pourInto 44 = .ok (.iconst 1, 1) := by decide +kernel
theorem dX2_pourInto_45 : decode cX2_pourInto 45 = .ok (.isub, 1) := by decide +kernel
theorem dX2_pourInto_46 : decode cX2_pourInto 46 = .ok (.iaload, 1) := by decide +kernel
theorem dX2_pourInto_47 : decode cX2_pourInto 47 = .ok (.goto 4, 3) := by decide +kernel
theorem dX2_pourInto_50 : decode cX2_pourInto 50 = .ok (.iconst 0, 1) := by decide +kernel
theorem dX2_pourInto_51 : decode cX2_pourInto 51 = .ok (.istore 5, 2) := by decide +kernel
theorem dX2_pourInto_53 : decode cX2_pourInto 53 = .ok (.aload_n 1, 1) := by decide +kernel
theorem dX2_pourInto_54 : decode cX2_pourInto 54 = .ok (.aload_n 0, 1) := by decide +kernel
theorem dX2_pourInto_55 : decode cX2_pourInto 55 = .ok (.getfield 9, 3) := by decide +kernel
theorem dX2_pourInto_58 : decode cX2_pourInto 58 = .ok (.iload 4, 2) := by decide +kernel
theorem dX2_pourInto_60 : decode cX2_pourInto 60 = .ok (.iaload, 1) := by decide +kernel
theorem dX2_pourInto_61 : decode cX2_pourInto 61 = .ok (.bipush 8, 2) := by decide +kernel
theorem dX2_pourInto_63 : decode cX2_pourInto 63 = .ok (.iload_n 3, 1) := by decide +kernel
theorem dX2_pourInto_64 : decode cX2_pourInto 64 = .ok (.isub, 1) := by decide +kernel
theorem dX2_pourInto_65 : decode cX2_pourInto 65 = .ok (.ishl, 1) := by decide +kernel
theorem dX2_pourInto_66 : decode cX2_pourInto 66 = .ok (.iload 5, 2) := by decide +kernel
theorem dX2_pourInto_68 : decode cX2_pourInto 68 = .ok (.iload_n 3, 1) := by decide +kernel
theorem dX2_pourInto_69 : decode cX2_pourInto 69 = .ok (.ishr, 1) := by decide +kernel
theorem dX2_pourInto_70 : decode cX2_pourInto 70 = .ok (.ior, 1) := by decide +kernel
theorem dX2_pourInto_71 : decode cX2_pourInto 71 = .ok (.invokevirtual 23, 3) := by decide +kernel
theorem dX2_pourInto_74 : decode cX2_pourInto 74 = .ok (.pop, 1) := by decide +kernel
theorem dX2_pourInto_75 : decode cX2_pourInto 75 = .ok (.iinc 4 (-1), 3) := by decide +kernel
theorem dX2_pourInto_78 : decode cX2_pourInto 78 = .ok (.goto (-50), 3) := by decide +kernel
theorem dX2_pourInto_81 : decode cX2_pourInto 81 = .ok (.return_, 1) := by decide +kernel
theorem dX3_nextNumber_0 : decode cX3_nextNumber 0 = .ok (.lconst 0, 1) := by decide +kernel
theorem dX3_nextNumber_1 : decode cX3_nextNumber 1 = .ok (.lstore_n 3, 1) := by decide +kernel
theorem dX3_nextNumber_2 : decode cX3_nextNumber 2 = .ok (.iconst 0, 1) := by decide +kernel
theorem dX3_nextNumber_3 : decode cX3_nextNumber 3 = .ok (.istore 5, 2) := by decide +kernel
theorem dX3_nextNumber_5 : decode cX3_nextNumber 5 = .ok (.iload 5, 2) := by decide +kernel
theorem dX3_nextNumber_7 : decode cX3_nextNumber 7 = .ok (.iload_n 2, 1) := by decide +kernel
theorem dX3_nextNumber_8 : decode cX3_nextNumber 8 = .ok (.if_icmp .ge 67, 3) := by decide +kernel
theorem dX3_nextNumber_11 : decode cX3_nextNumber 11 = .ok (.aload_n 0, 1) := by decide +kernel
theorem dX3_nextNumber_12 : decode cX3_nextNumber 12 = .ok (.getfield 35, 3) := by decide +kernel
theorem dX3_nextNumber_15 : decode cX3_nextNumber 15 = .ok (.aload_n 1, 1) := by decide +kernel
theorem dX3_nextNumber_16 : decode cX3_nextNumber 16 = .ok (.getfield 159, 3) := by decide +kernel
theorem dX3_nextNumber_19 : decode cX3_nextNumber 19 = .ok (.if_icmp .ge 15, 3) := by decide +kernel
theorem dX3_nextNumber_22 : decode cX3_nextNumber 22 = .ok (.aload_n 0, 1) := by decide +kernel
theorem dX3_nextNumber_23 : decode cX3_nextNumber 23 = .ok (.getfield 35, 3) := by decide +kernel
theorem dX3_nextNumber_26 : decode cX3_nextNumber 26 = .ok (.aload_n 1, 1) := by decide +kernel
theorem dX3_nextNumber_27 : decode cX3_nextNumber 27 = .ok (.getfield 162, 3) := by decide +kernel
theorem dX3_nextNumber_30 : decode cX3_nextNumber 30 = .ok (.arraylength, 1) := by decide +kernel
theorem dX3_nextNumber_31 : decode cX3_nextNumber 31 = .ok (.if_icmp .lt 12, 3) := by decide +kernel
theorem dX3_nextNumber_34 : decode cX3_nextNumber 34 = .ok (.aload_n 0, 1) := by decide +kernel
theorem dX3_nextNumber_35 : decode cX3_nextNumber 35 = .ok (.iconst 1, 1) := by decide +kernel
theorem dX3_nextNumber_36 : decode cX3_nextNumber 36 = .ok (.putfield 32, 3) := by decide +kernel
theorem dX3_nextNumber_39 : decode cX3_nextNumber 39 = .ok (.ldc2_w 165, 3) := by decide +kernel
theorem dX3_nextNumber_42 : decode cX3_nextNumber 42 = .ok (.lreturn, 1) := by decide +kernel
theorem dX3_nextNumber_43 : decode cX3_nextNumber 43 = .ok (.lload_n 3, 1) := by decide +kernel
theorem dX3_nextNumber_44 : decode cX3_nextNumber 44 = .ok (.bipush 8, 2) := by decide +kernel
theorem dX3_nextNumber_46 : decode cX3_nextNumber 46 = .ok (.lshl, 1) := by decide +kernel
theorem dX3_nextNumber_47 : decode cX3_nextNumber 47 = .ok (.aload_n 1, 1) := by decide +kernel
theorem dX3_nextNumber_48 : decode cX3_nextNumber 48 = .ok (.getfield 162, 3) := by decide +kernel
theorem dX3_nextNumber_51 : decode cX3_nextNumber 51 = .ok (.aload_n 0, 1) := by decide +kernel
theorem dX3_nextNumber_52 : decode cX3_nextNumber 52 = .ok (.getfield 35, 3) := by decide +kernel
theorem dX3_nextNumber_55 : decode cX3_nextNumber 55 = .ok (.iaload, 1) := by decide +kernel
theorem dX3_nextNumber_56 : decode cX3_nextNumber 56 = .ok (.i2l, 1) := by decide +kernel
theorem dX3_nextNumber_57 : decode cX3_nextNumber 57 = .ok (.lor, 1) := by decide +kernel
theorem dX3_nextNumber_58 : decode cX3_nextNumber 58 = .ok (.lstore_n 3, 1) := by decide +kernel
theorem dX3_nextNumber_59 : decode cX3_nextNumber 59 = .ok (.aload_n 0, 1) := by decide +kernel
theorem dX3_nextNumber_60 : decode cX3_nextNumber 60 = .ok (.dup, 1) := by decide +kernel
theorem dX3_nextNumber_61 : decode cX3_nextNumber 61 = .ok (.getfield 35, 3) := by decide +kernel
theorem dX3_nextNumber_64 : decode cX3_nextNumber 64 = .ok (.iconst 1, 1) := by decide +kernel
theorem dX3_nextNumber_65 : decode cX3_nextNumber 65 = .ok (.iadd, 1) := by decide +kernel
theorem dX3_nextNumber_66 : decode cX3_nextNumber 66 = .ok (.putfield 35, 3) := by decide +kernel
theorem dX3_nextNumber_69 : decode cX3_nextNumber 69 = .ok (.iinc 5 1, 3) := by decide +kernel
theorem dX3_nextNumber_72 : decode cX3_nextNumber 72 = .ok (.goto (-67), 3) := by decide +kernel
theorem dX3_nextNumber_75 : decode cX3_nextNumber 75 = .ok (.lload_n 3, 1) := by decide +kernel
theorem dX3_nextNumber_76 : decode cX3_nextNumber 76 = .ok (.lreturn, 1) := by decide +kernel
theorem dX4_forget_0 : decode cX4_forget 0 = .ok (.aload_n 0, 1) := by decide +kernel
theorem dX4_forget_1 : decode cX4_forget 1 = .ok (.getfield 9, 3) := by decide +kernel
theorem dX4_forget_4 : decode cX4_forget 4 = .ok (.iconst 0, 1) := by decide +kernel
theorem dX4_forget_5 : decode cX4_forget 5 = .ok (.invokestatic 41, 3) := by decide +kernel
theorem dX4_forget_8 : decode cX4_forget 8 = .ok (.aload_n 0, 1) := by decide +kernel
theorem dX4_forget_9 : decode cX4_forget 9 = .ok (.iconst 0, 1) := by decide +kernel
theorem dX4_forget_10 : decode cX4_forget 10 = .ok (.putfield 47, 3) := by decide +kernel
theorem dX4_forget_13 : decode cX4_forget 13 = .ok (.aload_n 0, 1) := by decide +kernel
theorem dX4_forget_14 : decode cX4_forget 14 = .ok (.iconst 0, 1) := by decide +kernel
theorem dX4_forget_15 : decode cX4_forget 15 = .ok (.putfield 51, 3) := by decide +kernel
theorem dX4_forget_18 : decode cX4_forget 18 = .ok (.return_, 1) := by decide +kernel
theorem dX4_beginWith_0 : decode cX4_beginWith 0 = .ok (.aload_n 0, 1) := by decide +kernel
theorem dX4_beginWith_1 : decode cX4_beginWith 1 = .ok (.invokevirtual 54, 3) := by decide +kernel
theorem dX4_beginWith_4 : decode cX4_beginWith 4 = .ok (.aload_n 0, 1) := by decide +kernel
theorem dX4_beginWith_5 : decode cX4_beginWith 5 = .ok (.iload_n 1, 1) := by decide +kernel
theorem dX4_beginWith_6 : decode cX4_beginWith 6 = .ok (.putfield 34, 3) := by decide +kernel
theorem dX4_beginWith_9 : decode cX4_beginWith 9 = .ok (.aload_n 0, 1) := by decide +kernel
theorem dX4_beginWith_10 : decode cX4_beginWith 10 = .ok (.iconst 1, 1) := by decide +kernel
theorem dX4_beginWith_11 : decode cX4_beginWith 11 = .ok (.iload_n 1, 1) := by decide +kernel
theorem dX4_beginWith_12 : decode cX4_beginWith 12 = .ok (.ishl, 1) := by decide +kernel
theorem dX4_beginWith_13 : decode cX4_beginWith 13 = .ok (.putfield 38, 3) := by decide +kernel
theorem dX4_beginWith_16 : decode cX4_beginWith 16 = .ok (.return_, 1) := by decide +kernel

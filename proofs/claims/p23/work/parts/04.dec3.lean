theorem dX3_takeIn_0 : decode cX3_takeIn 0 = .ok (.aload_n 0, 1) := by decide +kernel
theorem dX3_takeIn_1 : decode cX3_takeIn 1 = .ok (.iconst 0, 1) := by decide +kernel
theorem dX3_takeIn_2 : decode cX3_takeIn 2 = .ok (.putfield 28, 3) := by decide +kernel
theorem dX3_takeIn_5 : decode cX3_takeIn 5 = .ok (.aload_n 0, 1) := by decide +kernel
theorem dX3_takeIn_6 : decode cX3_takeIn 6 = .ok (.iconst 0, 1) := by decide +kernel
theorem dX3_takeIn_7 : decode cX3_takeIn 7 = .ok (.putfield 32, 3) := by decide +kernel
theorem dX3_takeIn_10 : decode cX3_takeIn 10 = .ok (.aload_n 0, 1) := by decide +kernel
theorem dX3_takeIn_11 : decode cX3_takeIn 11 = .ok (.iconst 0, 1) := by decide +kernel
theorem dX3_takeIn_12 : decode cX3_takeIn 12 = .ok (.putfield 35, 3) := by decide +kernel
theorem dX3_takeIn_15 : decode cX3_takeIn 15 = .ok (.aload_n 0, 1) := by decide +kernel
theorem dX3_takeIn_16 : decode cX3_takeIn 16 = .ok (.iconst 0, 1) := by decide +kernel
theorem dX3_takeIn_17 : decode cX3_takeIn 17 = .ok (.putfield 38, 3) := by decide +kernel
theorem dX3_takeIn_20 : decode cX3_takeIn 20 = .ok (.aload_n 0, 1) := by decide +kernel
theorem dX3_takeIn_21 : decode cX3_takeIn 21 = .ok (.iconst 0, 1) := by decide +kernel
theorem dX3_takeIn_22 : decode cX3_takeIn 22 = .ok (.putfield 41, 3) := by decide +kernel
theorem dX3_takeIn_25 : decode cX3_takeIn 25 = .ok (.aload_n 0, 1) := by decide +kernel
theorem dX3_takeIn_26 : decode cX3_takeIn 26 = .ok (.aload_n 1, 1) := by decide +kernel
theorem dX3_takeIn_27 : decode cX3_takeIn 27 = .ok (.invokevirtual 45, 3) := by decide +kernel
theorem dX3_takeIn_30 : decode cX3_takeIn 30 = .ok (.aload_n 0, 1) := by decide +kernel
theorem dX3_takeIn_31 : decode cX3_takeIn 31 = .ok (.getfield 32, 3) := by decide +kernel
theorem dX3_takeIn_34 : decode cX3_takeIn 34 = .ok (.ifCond .ne 8, 3) := by decide +kernel
theorem dX3_takeIn_37 : decode cX3_takeIn 37 = .ok (.aload_n 0, 1) := by decide +kernel
theorem dX3_takeIn_38 : decode cX3_takeIn 38 = .ok (.aload_n 1, 1) := by decide +kernel
theorem dX3_takeIn_39 : decode cX3_takeIn 39 = .ok (.invokevirtual 49, 3) := by decide +kernel
theorem dX3_takeIn_42 : decode cX3_takeIn 42 = .ok (.aload_n 0, 1) := by decide +kernel
theorem dX3_takeIn_43 : decode cX3_takeIn 43 = .ok (.getfield 32, 3) := by decide +kernel
theorem dX3_takeIn_46 : decode cX3_takeIn 46 = .ok (.ifCond .ne 8, 3) := by decide +kernel
theorem dX3_takeIn_49 : decode cX3_takeIn 49 = .ok (.aload_n 0, 1) := by decide +kernel
theorem dX3_takeIn_50 : decode cX3_takeIn 50 = .ok (.aload_n 1, 1) := by decide +kernel
theorem dX3_takeIn_51 : decode cX3_takeIn 51 = .ok (.invokevirtual 52, 3) := by decide +kernel
theorem dX3_takeIn_54 : decode cX3_takeIn 54 = .ok (.aload_n 0, 1) := by decide +kernel
theorem dX3_takeIn_55 : decode cX3_takeIn 55 = .ok (.getfield 32, 3) := by decide +kernel
theorem dX3_takeIn_58 : decode cX3_takeIn 58 = .ok (.ifCond .ne 8, 3) := by decide +kernel
theorem dX3_takeIn_61 : decode cX3_takeIn 61 = .ok (.aload_n 0, 1) := by decide +kernel
theorem dX3_takeIn_62 : decode cX3_takeIn 62 = .ok (.aload_n 1, 1) := by decide +kernel
theorem dX3_takeIn_63 : decode cX3_takeIn 63 = .ok (.invokevirtual 55, 3) := by decide +kernel
theorem dX3_takeIn_66 : decode cX3_takeIn 66 = .ok (.aload_n 0, 1) := by decide +kernel
theorem dX3_takeIn_67 : decode cX3_takeIn 67 = .ok (.getfield 32, 3) := by decide +kernel
theorem dX3_takeIn_70 : decode cX3_takeIn 70 = .ok (.ifCond .ne 8, 3) := by decide +kernel
theorem dX3_takeIn_73 : decode cX3_takeIn 73 = .ok (.aload_n 0, 1) := by decide +kernel
theorem dX3_takeIn_74 : decode cX3_takeIn 74 = .ok (.aload_n 1, 1) := by decide +kernel
theorem dX3_takeIn_75 : decode cX3_takeIn 75 = .ok (.invokevirtual 58, 3) := by decide +kernel
theorem dX3_takeIn_78 : decode cX3_takeIn 78 = .ok (.aload_n 0, 1) := by decide +kernel
theorem dX3_takeIn_79 : decode cX3_takeIn 79 = .ok (.getfield 32, 3) := by decide +kernel
theorem dX3_takeIn_82 : decode cX3_takeIn 82 = .ok (.ifCond .ne 10, 3) := by decide +kernel
theorem dX3_takeIn_85 : decode cX3_takeIn 85 = .ok (.aload_n 0, 1) := by decide +kernel
theorem dX3_takeIn_86 : decode cX3_takeIn 86 = .ok (.getfield 28, 3) := by decide +kernel
theorem dX3_takeIn_89 : decode cX3_takeIn 89 = .ok (.goto 10, 3) := by decide +kernel
theorem dX3_takeIn_92 : decode cX3_takeIn 92 = .ok (.bipush (-10), 2) := by decide +kernel
theorem dX3_takeIn_94 : decode cX3_takeIn 94 = .ok (.aload_n 0, 1) := by decide +kernel
theorem dX3_takeIn_95 : decode cX3_takeIn 95 = .ok (.getfield 35, 3) := by decide +kernel
theorem dX3_takeIn_98 : decode cX3_takeIn 98 = .ok (.isub, 1) := by decide +kernel
theorem dX3_takeIn_99 : decode cX3_takeIn 99 = .ok (.ireturn, 1) := by decide +kernel
theorem dX3_signAt_0 : decode cX3_signAt 0 = .ok (.iload_n 1, 1) := by decide +kernel
theorem dX3_signAt_1 : decode cX3_signAt 1 = .ok (.ifCond .lt 29, 3) := by decide +kernel
theorem dX3_signAt_4 : decode cX3_signAt 4 = .ok (.iload_n 1, 1) := by decide +kernel
theorem dX3_signAt_5 : decode cX3_signAt 5 = .ok (.aload_n 0, 1) := by decide +kernel
theorem dX3_signAt_6 : decode cX3_signAt 6 = .ok (.getfield 28, 3) := by decide +kernel
theorem dX3_signAt_9 : decode cX3_signAt 9 = .ok (.if_icmp .ge 21, 3) := by decide +kernel
theorem dX3_signAt_12 : decode cX3_signAt 12 = .ok (.iload_n 1, 1) := by decide +kernel
theorem dX3_signAt_13 : decode cX3_signAt 13 = .ok (.aload_n 0, 1) := by decide +kernel
theorem dX3_signAt_14 : decode cX3_signAt 14 = .ok (.getfield 24, 3) := by decide +kernel
theorem dX3_signAt_17 : decode cX3_signAt 17 = .ok (.arraylength, 1) := by decide +kernel
theorem dX3_signAt_18 : decode cX3_signAt 18 = .ok (.if_icmp .ge 12, 3) := by decide +kernel
theorem dX3_signAt_21 : decode cX3_signAt 21 = .ok (.aload_n 0, 1) := by decide +kernel
theorem dX3_signAt_22 : decode cX3_signAt 22 = .ok (.getfield 24, 3) := by decide +kernel
theorem dX3_signAt_25 : decode cX3_signAt 25 = .ok (.iload_n 1, 1) := by decide +kernel
theorem dX3_signAt_26 : decode cX3_signAt 26 = .ok (.iaload, 1) := by decide +kernel
theorem dX3_signAt_27 : decode cX3_signAt 27 = .ok (.goto 4, 3) := by decide +kernel
theorem dX3_signAt_30 : decode cX3_signAt 30 = .ok (.iconst (-1), 1) := by decide +kernel
theorem dX3_signAt_31 : decode cX3_signAt 31 = .ok (.ireturn, 1) := by decide +kernel
theorem dX4_howMany_0 : decode cX4_howMany 0 = .ok (.iconst 0, 1) := by decide +kernel
theorem dX4_howMany_1 : decode cX4_howMany 1 = .ok (.istore_n 1, 1) := by decide +kernel
theorem dX4_howMany_2 : decode cX4_howMany 2 = .ok (.iconst 0, 1) := by decide +kernel
theorem dX4_howMany_3 : decode cX4_howMany 3 = .ok (.istore_n 2, 1) := by decide +kernel
theorem dX4_howMany_4 : decode cX4_howMany 4 = .ok (.iload_n 2, 1) := by decide +kernel
theorem dX4_howMany_5 : decode cX4_howMany 5 = .ok (.bipush 32, 2) := by decide +kernel
theorem dX4_howMany_7 : decode cX4_howMany 7 = .ok (.if_icmp .ge 26, 3) := by decide +kernel
theorem dX4_howMany_10 : decode cX4_howMany 10 = .ok (.iload_n 1, 1) := by decide +kernel
theorem dX4_howMany_11 : decode cX4_howMany 11 = .ok (.aload_n 0, 1) := by decide +kernel
theorem dX4_howMany_12 : decode cX4_howMany 12 = .ok (.getfield 9, 3) := by decide +kernel
theorem dX4_howMany_15 : decode cX4_howMany 15 = .ok (.iload_n 2, 1) := by decide +kernel
theorem dX4_howMany_16 : decode cX4_howMany 16 = .ok (.iaload, 1) := by decide +kernel
theorem dX4_howMany_17 : decode cX4_howMany 17 = .ok (.ifCond .le 7, 3) := by decide +kernel
theorem dX4_howMany_20 : decode cX4_howMany 20 = .ok (.iconst 1, 1) := by decide +kernel
theorem dX4_howMany_21 : decode cX4_howMany 21 = .ok (.goto 4, 3) := by decide +kernel
theorem dX4_howMany_24 : decode cX4_howMany 24 = .ok (.iconst 0, 1) := by decide +kernel
theorem dX4_howMany_25 : decode cX4_howMany 25 = .ok (.iadd, 1) := by decide +kernel
theorem dX4_howMany_26 : decode cX4_howMany 26 = .ok (.istore_n 1, 1) := by decide +kernel
theorem dX4_howMany_27 : decode cX4_howMany 27 = .ok (.iinc 2 1, 3) := by decide +kernel
theorem dX4_howMany_30 : decode cX4_howMany 30 = .ok (.goto (-26), 3) := by decide +kernel
theorem dX4_howMany_33 : decode cX4_howMany 33 = .ok (.iload_n 1, 1) := by decide +kernel
theorem dX4_howMany_34 : decode cX4_howMany 34 = .ok (.ireturn, 1) := by decide +kernel
theorem dX4_gainOf_0 : decode cX4_gainOf 0 = .ok (.iload_n 2, 1) := by decide +kernel
theorem dX4_gainOf_1 : decode cX4_gainOf 1 = .ok (.ifCond .le 16, 3) := by decide +kernel
theorem dX4_gainOf_4 : decode cX4_gainOf 4 = .ok (.aload_n 0, 1) := by decide +kernel
theorem dX4_gainOf_5 : decode cX4_gainOf 5 = .ok (.getfield 9, 3) := by decide +kernel
theorem dX4_gainOf_8 : decode cX4_gainOf 8 = .ok (.iload_n 1, 1) := by decide +kernel
theorem dX4_gainOf_9 : decode cX4_gainOf 9 = .ok (.iaload, 1) := by decide +kernel
theorem dX4_gainOf_10 : decode cX4_gainOf 10 = .ok (.aload_n 0, 1) := by decide +kernel
theorem dX4_gainOf_11 : decode cX4_gainOf 11 = .ok (.getfield 38, 3) := by decide +kernel
theorem dX4_gainOf_14 : decode cX4_gainOf 14 = .ok (.if_icmp .lt 5, 3) := by decide +kernel
theorem dX4_gainOf_17 : decode cX4_gainOf 17 = .ok (.lconst 0, 1) := by decide +kernel
theorem dX4_gainOf_18 : decode cX4_gainOf 18 = .ok (.lreturn, 1) := by decide +kernel
theorem dX4_gainOf_19 : decode cX4_gainOf 19 = .ok (.iload_n 2, 1) := by decide +kernel
theorem dX4_gainOf_20 : decode cX4_gainOf 20 = .ok (.i2l, 1) := by decide +kernel
theorem dX4_gainOf_21 : decode cX4_gainOf 21 = .ok (.aload_n 3, 1) := by decide +kernel
theorem dX4_gainOf_22 : decode cX4_gainOf 22 = .ok (.aload_n 0, 1) := by decide +kernel
theorem dX4_gainOf_23 : decode cX4_gainOf 23 = .ok (.getfield 9, 3) := by decide +kernel
theorem dX4_gainOf_26 : decode cX4_gainOf 26 = .ok (.iload_n 1, 1) := by decide +kernel
theorem dX4_gainOf_27 : decode cX4_gainOf 27 = .ok (.iaload, 1) := by decide +kernel
theorem dX4_gainOf_28 : decode cX4_gainOf 28 = .ok (.iconst 1, 1) := by decide +kernel
theorem dX4_gainOf_29 : decode cX4_gainOf 29 = .ok (.iadd, 1) := by decide +kernel
theorem dX4_gainOf_30 : decode cX4_gainOf 30 = .ok (.invokevirtual 72, 3) := by decide +kernel
theorem dX4_gainOf_33 : decode cX4_gainOf 33 = .ok (.aload_n 3, 1) := by decide +kernel
theorem dX4_gainOf_34 : decode cX4_gainOf 34 = .ok (.aload_n 0, 1) := by decide +kernel
theorem dX4_gainOf_35 : decode cX4_gainOf 35 = .ok (.getfield 9, 3) := by decide +kernel
theorem dX4_gainOf_38 : decode cX4_gainOf 38 = .ok (.iload_n 1, 1) := by decide +kernel
theorem dX4_gainOf_39 : decode cX4_gainOf 39 = .ok (.iaload, 1) := by decide +kernel
theorem dX4_gainOf_40 : decode cX4_gainOf 40 = .ok (.invokevirtual 72, 3) := by decide +kernel
theorem dX4_gainOf_43 : decode cX4_gainOf 43 = .ok (.lsub, 1) := by decide +kernel
theorem dX4_gainOf_44 : decode cX4_gainOf 44 = .ok (.lmul, 1) := by decide +kernel
theorem dX4_gainOf_45 : decode cX4_gainOf 45 = .ok (.lreturn, 1) := by decide +kernel
theorem dX4_greatestGain_0 : decode cX4_greatestGain 0 = .ok (.iconst 0, 1) := by decide +kernel
theorem dX4_greatestGain_1 : decode cX4_greatestGain 1 = .ok (.istore_n 1, 1) := by decide +kernel
theorem dX4_greatestGain_2 : decode cX4_greatestGain 2 = .ok (.iconst 1, 1) := by decide +kernel
theorem dX4_greatestGain_3 : decode cX4_greatestGain 3 = .ok (.istore_n 2, 1) := by decide +kernel
theorem dX4_greatestGain_4 : decode cX4_greatestGain 4 = .ok (.iload_n 2, 1) := by decide +kernel
theorem dX4_greatestGain_5 : decode cX4_greatestGain 5 = .ok (.bipush 32, 2) := by decide +kernel
theorem dX4_greatestGain_7 : decode cX4_greatestGain 7 = .ok (.if_icmp .ge 27, 3) := by decide +kernel
theorem dX4_greatestGain_10 : decode cX4_greatestGain 10 = .ok (.aload_n 0, 1) := by decide +kernel
theorem dX4_greatestGain_11 : decode cX4_greatestGain 11 = .ok (.getfield 18, 3) := by decide +kernel
theorem dX4_greatestGain_14 : decode cX4_greatestGain 14 = .ok (.iload_n 2, 1) := by decide +kernel
theorem dX4_greatestGain_15 : decode cX4_greatestGain 15 = .ok (.laload, 1) := by decide +kernel
theorem dX4_greatestGain_16 : decode cX4_greatestGain 16 = .ok (.aload_n 0, 1) := by decide +kernel
theorem dX4_greatestGain_17 : decode cX4_greatestGain 17 = .ok (.getfield 18, 3) := by decide +kernel
theorem dX4_greatestGain_20 : decode cX4_greatestGain 20 = .ok (.iload_n 1, 1) := by decide +kernel
theorem dX4_greatestGain_21 : decode cX4_greatestGain 21 = .ok (.laload, 1) := by decide +kernel
theorem dX4_greatestGain_22 : decode cX4_greatestGain 22 = .ok (.lcmp, 1) := by decide +kernel
theorem dX4_greatestGain_23 : decode cX4_greatestGain 23 = .ok (.ifCond .le 5, 3) := by decide +kernel
theorem dX4_greatestGain_26 : decode cX4_greatestGain 26 = .ok (.iload_n 2, 1) := by decide +kernel
theorem dX4_greatestGain_27 : decode cX4_greatestGain 27 = .ok (.istore_n 1, 1) := by decide +kernel
theorem dX4_greatestGain_28 : decode cX4_greatestGain 28 = .ok (.iinc 2 1, 3) := by decide +kernel
theorem dX4_greatestGain_31 : decode cX4_greatestGain 31 = .ok (.goto (-27), 3) := by decide +kernel
theorem dX4_greatestGain_34 : decode cX4_greatestGain 34 = .ok (.iload_n 1, 1) := by decide +kernel
theorem dX4_greatestGain_35 : decode cX4_greatestGain 35 = .ok (.ireturn, 1) := by decide +kernel
theorem dX4_makeOf_0 : decode cX4_makeOf 0 = .ok (.aload_n 0, 1) := by decide +kernel
theorem dX4_makeOf_1 : decode cX4_makeOf 1 = .ok (.invokevirtual 54, 3) := by decide +kernel
theorem dX4_makeOf_4 : decode cX4_makeOf 4 = .ok (.iconst 0, 1) := by decide +kernel
theorem dX4_makeOf_5 : decode cX4_makeOf 5 = .ok (.istore_n 3, 1) := by decide +kernel
theorem dX4_makeOf_6 : decode cX4_makeOf 6 = .ok (.iconst 0, 1) := by decide +kernel
theorem dX4_makeOf_7 : decode cX4_makeOf 7 = .ok (.istore 4, 2) := by decide +kernel
theorem dX4_makeOf_9 : decode cX4_makeOf 9 = .ok (.iload 4, 2) := by decide +kernel
theorem dX4_makeOf_11 : decode cX4_makeOf 11 = .ok (.bipush 32, 2) := by decide +kernel
theorem dX4_makeOf_13 : decode cX4_makeOf 13 = .ok (.if_icmp .ge 63, 3) := by decide +kernel
theorem dX4_makeOf_16 : decode cX4_makeOf 16 = .ok (.iload 4, 2) := by decide +kernel
theorem dX4_makeOf_18 : decode cX4_makeOf 18 = .ok (.aload_n 1, 1) := by decide +kernel
theorem dX4_makeOf_19 : decode cX4_makeOf 19 = .ok (.arraylength, 1) := by decide +kernel
theorem dX4_makeOf_20 : decode cX4_makeOf 20 = .ok (.if_icmp .ge 56, 3) := by decide +kernel
theorem dX4_makeOf_23 : decode cX4_makeOf 23 = .ok (.aload_n 0, 1) := by decide +kernel
theorem dX4_makeOf_24 : decode cX4_makeOf 24 = .ok (.getfield 9, 3) := by decide +kernel
theorem dX4_makeOf_27 : decode cX4_makeOf 27 = .ok (.iload 4, 2) := by decide +kernel
theorem dX4_makeOf_29 : decode cX4_makeOf 29 = .ok (.aload_n 1, 1) := by decide +kernel
theorem dX4_makeOf_30 : decode cX4_makeOf 30 = .ok (.iload 4, 2) := by decide +kernel
theorem dX4_makeOf_32 : decode cX4_makeOf 32 = .ok (.iaload, 1) := by decide +kernel
theorem dX4_makeOf_33 : decode cX4_makeOf 33 = .ok (.ifCond .le 7, 3) := by decide +kernel
theorem dX4_makeOf_36 : decode cX4_makeOf 36 = .ok (.iconst 1, 1) := by decide +kernel
theorem dX4_makeOf_37 : decode cX4_makeOf 37 = .ok (.goto 4, 3) := by decide +kernel
theorem dX4_makeOf_40 : decode cX4_makeOf 40 = .ok (.iconst 0, 1) := by decide +kernel
theorem dX4_makeOf_41 : decode cX4_makeOf 41 = .ok (.iastore, 1) := by decide +kernel
theorem dX4_makeOf_42 : decode cX4_makeOf 42 = .ok (.aload_n 0, 1) := by decide +kernel
theorem dX4_makeOf_43 : decode cX4_makeOf 43 = .ok (.getfield 18, 3) := by decide +kernel
theorem dX4_makeOf_46 : decode cX4_makeOf 46 = .ok (.iload 4, 2) := by decide +kernel
theorem dX4_makeOf_48 : decode cX4_makeOf 48 = .ok (.aload_n 0, 1) := by decide +kernel
theorem dX4_makeOf_49 : decode cX4_makeOf 49 = .ok (.iload 4, 2) := by decide +kernel
theorem dX4_makeOf_51 : decode cX4_makeOf 51 = .ok (.aload_n 1, 1) := by decide +kernel
theorem dX4_makeOf_52 : decode cX4_makeOf 52 = .ok (.iload 4, 2) := by decide +kernel
theorem dX4_makeOf_54 : decode cX4_makeOf 54 = .ok (.iaload, 1) := by decide +kernel
theorem dX4_makeOf_55 : decode cX4_makeOf 55 = .ok (.aload_n 2, 1) := by decide +kernel
theorem dX4_makeOf_56 : decode cX4_makeOf 56 = .ok (.invokevirtual 61, 3) := by decide +kernel
theorem dX4_makeOf_59 : decode cX4_makeOf 59 = .ok (.lastore, 1) := by decide +kernel
theorem dX4_makeOf_60 : decode cX4_makeOf 60 = .ok (.iload_n 3, 1) := by decide +kernel
theorem dX4_makeOf_61 : decode cX4_makeOf 61 = .ok (.aload_n 0, 1) := by decide +kernel
theorem dX4_makeOf_62 : decode cX4_makeOf 62 = .ok (.getfield 9, 3) := by decide +kernel
theorem dX4_makeOf_65 : decode cX4_makeOf 65 = .ok (.iload 4, 2) := by decide +kernel
theorem dX4_makeOf_67 : decode cX4_makeOf 67 = .ok (.iaload, 1) := by decide +kernel
theorem dX4_makeOf_68 : decode cX4_makeOf 68 = .ok (.iadd, 1) := by decide +kernel
theorem dX4_makeOf_69 : decode cX4_makeOf 69 = .ok (.istore_n 3, 1) := by decide +kernel
theorem dX4_makeOf_70 : decode cX4_makeOf 70 = .ok (.iinc 4 1, 3) := by decide +kernel
theorem dX4_makeOf_73 : decode cX4_makeOf 73 = .ok (.goto (-64), 3) := by decide +kernel
theorem dX4_makeOf_76 : decode cX4_makeOf 76 = .ok (.iload_n 3, 1) := by decide +kernel
theorem dX4_makeOf_77 : decode cX4_makeOf 77 = .ok (.ifCond .ne 4, 3) := by decide +kernel
theorem dX4_makeOf_80 : decode cX4_makeOf 80 = .ok (.return_, 1) := by decide +kernel
theorem dX4_makeOf_81 : decode cX4_makeOf 81 = .ok (.iload_n 3, 1) := by decide +kernel
theorem dX4_makeOf_82 : decode cX4_makeOf 82 = .ok (.istore 4, 2) := by decide +kernel
theorem dX4_makeOf_84 : decode cX4_makeOf 84 = .ok (.iload 4, 2) := by decide +kernel
theorem dX4_makeOf_86 : decode cX4_makeOf 86 = .ok (.aload_n 0, 1) := by decide +kernel
theorem dX4_makeOf_87 : decode cX4_makeOf 87 = .ok (.getfield 38, 3) := by decide +kernel
theorem dX4_makeOf_90 : decode cX4_makeOf 90 = .ok (.if_icmp .ge 55, 3) := by decide +kernel
theorem dX4_makeOf_93 : decode cX4_makeOf 93 = .ok (.aload_n 0, 1) := by decide +kernel
theorem dX4_makeOf_94 : decode cX4_makeOf 94 = .ok (.invokevirtual 65, 3) := by decide +kernel
theorem dX4_makeOf_97 : decode cX4_makeOf 97 = .ok (.istore 5, 2) := by decide +kernel
theorem dX4_makeOf_99 : decode cX4_makeOf 99 = .ok (.aload_n 0, 1) := by decide +kernel
theorem dX4_makeOf_100 : decode cX4_makeOf 100 = .ok (.getfield 9, 3) := by decide +kernel
theorem dX4_makeOf_103 : decode cX4_makeOf 103 = .ok (.iload 5, 2) := by decide +kernel
theorem dX4_makeOf_105 : decode cX4_makeOf 105 = .ok (.dup2, 1) := by decide +kernel
theorem dX4_makeOf_106 : decode cX4_makeOf 106 = .ok (.iaload, 1) := by decide +kernel
theorem dX4_makeOf_107 : decode cX4_makeOf 107 = .ok (.iconst 1, 1) := by decide +kernel
theorem dX4_makeOf_108 : decode cX4_makeOf 108 = .ok (.iadd, 1) := by decide +kernel
theorem dX4_makeOf_109 : decode cX4_makeOf 109 = .ok (.iastore, 1) := by decide +kernel
theorem dX4_makeOf_110 : decode cX4_makeOf 110 = .ok (.aload_n 0, 1) := by decide +kernel
theorem dX4_makeOf_111 : decode cX4_makeOf 111 = .ok (.getfield 18, 3) := by decide +kernel
theorem dX4_makeOf_114 : decode cX4_makeOf 114 = .ok (.iload 5, 2) := by decide +kernel
theorem dX4_makeOf_116 : decode cX4_makeOf 116 = .ok (.aload_n 0, 1) := by decide +kernel
theorem dX4_makeOf_117 : decode cX4_makeOf 117 = .ok (.iload 5, 2) := by decide +kernel
theorem dX4_makeOf_119 : decode cX4_makeOf 119 = .ok (.iload 5, 2) := by decide +kernel
theorem dX4_makeOf_121 : decode cX4_makeOf 121 = .ok (.aload_n 1, 1) := by decide +kernel
theorem dX4_makeOf_122 : decode cX4_makeOf 122 = .ok (.arraylength, 1) := by decide +kernel
theorem dX4_makeOf_123 : decode cX4_makeOf 123 = .ok (.if_icmp .ge 10, 3) := by decide +kernel
theorem dX4_makeOf_126 : decode cX4_makeOf 126 = .ok (.aload_n 1, 1) := by decide +kernel
theorem dX4_makeOf_127 : decode cX4_makeOf 127 = .ok (.iload 5, 2) := by decide +kernel
theorem dX4_makeOf_129 : decode cX4_makeOf 129 = .ok (.iaload, 1) := by decide +kernel
theorem dX4_makeOf_130 : decode cX4_makeOf 130 = .ok (.goto 4, 3) := by decide +kernel
theorem dX4_makeOf_133 : decode cX4_makeOf 133 = .ok (.iconst 0, 1) := by decide +kernel
theorem dX4_makeOf_134 : decode cX4_makeOf 134 = .ok (.aload_n 2, 1) := by decide +kernel
theorem dX4_makeOf_135 : decode cX4_makeOf 135 = .ok (.invokevirtual 61, 3) := by decide +kernel
theorem dX4_makeOf_138 : decode cX4_makeOf 138 = .ok (.lastore, 1) := by decide +kernel
theorem dX4_makeOf_139 : decode cX4_makeOf 139 = .ok (.iinc 4 1, 3) := by decide +kernel
theorem dX4_makeOf_142 : decode cX4_makeOf 142 = .ok (.goto (-58), 3) := by decide +kernel
theorem dX4_makeOf_145 : decode cX4_makeOf 145 = .ok (.aload_n 0, 1) := by decide +kernel
theorem dX4_makeOf_146 : decode cX4_makeOf 146 = .ok (.invokevirtual 69, 3) := by decide +kernel
theorem dX4_makeOf_149 : decode cX4_makeOf 149 = .ok (.return_, 1) := by decide +kernel
theorem dX4_placeOf_0 : decode cX4_placeOf 0 = .ok (.aload_n 0, 1) := by decide +kernel
theorem dX4_placeOf_1 : decode cX4_placeOf 1 = .ok (.iload_n 1, 1) := by decide +kernel
theorem dX4_placeOf_2 : decode cX4_placeOf 2 = .ok (.invokevirtual 90, 3) := by decide +kernel
theorem dX4_placeOf_5 : decode cX4_placeOf 5 = .ok (.iload_n 2, 1) := by decide +kernel
theorem dX4_placeOf_6 : decode cX4_placeOf 6 = .ok (.iadd, 1) := by decide +kernel
theorem dX4_placeOf_7 : decode cX4_placeOf 7 = .ok (.aload_n 0, 1) := by decide +kernel
theorem dX4_placeOf_8 : decode cX4_placeOf 8 = .ok (.iload_n 1, 1) := by decide +kernel
theorem dX4_placeOf_9 : decode cX4_placeOf 9 = .ok (.invokevirtual 94, 3) := by decide +kernel
theorem dX4_placeOf_12 : decode cX4_placeOf 12 = .ok (.isub, 1) := by decide +kernel
theorem dX4_placeOf_13 : decode cX4_placeOf 13 = .ok (.istore_n 3, 1) := by decide +kernel
theorem dX4_placeOf_14 : decode cX4_placeOf 14 = .ok (.iload_n 3, 1) := by decide +kernel
theorem dX4_placeOf_15 : decode cX4_placeOf 15 = .ok (.ifCond .lt 29, 3) := by decide +kernel
theorem dX4_placeOf_18 : decode cX4_placeOf 18 = .ok (.iload_n 3, 1) := by decide +kernel
theorem dX4_placeOf_19 : decode cX4_placeOf 19 = .ok (.aload_n 0, 1) := by decide +kernel
theorem dX4_placeOf_20 : decode cX4_placeOf 20 = .ok (.getfield 38, 3) := by decide +kernel
theorem dX4_placeOf_23 : decode cX4_placeOf 23 = .ok (.if_icmp .ge 21, 3) := by decide +kernel
theorem dX4_placeOf_26 : decode cX4_placeOf 26 = .ok (.iload_n 3, 1) := by decide +kernel
theorem dX4_placeOf_27 : decode cX4_placeOf 27 = .ok (.aload_n 0, 1) := by decide +kernel
theorem dX4_placeOf_28 : decode cX4_placeOf 28 = .ok (.getfield 31, 3) := by decide +kernel
theorem dX4_placeOf_31 : decode cX4_placeOf 31 = .ok (.arraylength, 1) := by decide +kernel
theorem dX4_placeOf_32 : decode cX4_placeOf 32 = .ok (.if_icmp .ge 12, 3) := by decide +kernel
theorem dX4_placeOf_35 : decode cX4_placeOf 35 = .ok (.aload_n 0, 1) := by decide +kernel
theorem dX4_placeOf_36 : decode cX4_placeOf 36 = .ok (.getfield 31, 3) := by decide +kernel
theorem dX4_placeOf_39 : decode cX4_placeOf 39 = .ok (.iload_n 3, 1) := by decide +kernel
theorem dX4_placeOf_40 : decode cX4_placeOf 40 = .ok (.iaload, 1) := by decide +kernel
theorem dX4_placeOf_41 : decode cX4_placeOf 41 = .ok (.goto 4, 3) := by decide +kernel
theorem dX4_placeOf_44 : decode cX4_placeOf 44 = .ok (.iconst 0, 1) := by decide +kernel
theorem dX4_placeOf_45 : decode cX4_placeOf 45 = .ok (.ireturn, 1) := by decide +kernel
theorem dX5_putByTable_0 : decode cX5_putByTable 0 = .ok (.aload_n 0, 1) := by decide +kernel
theorem dX5_putByTable_1 : decode cX5_putByTable 1 = .ok (.getfield 9, 3) := by decide +kernel
theorem dX5_putByTable_4 : decode cX5_putByTable 4 = .ok (.iload_n 1, 1) := by decide +kernel
theorem dX5_putByTable_5 : decode cX5_putByTable 5 = .ok (.laload, 1) := by decide +kernel
theorem dX5_putByTable_6 : decode cX5_putByTable 6 = .ok (.l2i, 1) := by decide +kernel
theorem dX5_putByTable_7 : decode cX5_putByTable 7 = .ok (.istore 4, 2) := by decide +kernel
theorem dX5_putByTable_9 : decode cX5_putByTable 9 = .ok (.aload_n 3, 1) := by decide +kernel
theorem dX5_putByTable_10 : decode cX5_putByTable 10 = .ok (.iload_n 2, 1) := by decide +kernel
theorem dX5_putByTable_11 : decode cX5_putByTable 11 = .ok (.invokevirtual 96, 3) := by decide +kernel
theorem dX5_putByTable_14 : decode cX5_putByTable 14 = .ok (.istore 5, 2) := by decide +kernel
theorem dX5_putByTable_16 : decode cX5_putByTable 16 = .ok (.iconst 0, 1) := by decide +kernel
theorem dX5_putByTable_17 : decode cX5_putByTable 17 = .ok (.istore 6, 2) := by decide +kernel
theorem dX5_putByTable_19 : decode cX5_putByTable 19 = .ok (.iload 6, 2) := by decide +kernel
theorem dX5_putByTable_21 : decode cX5_putByTable 21 = .ok (.bipush 12, 2) := by decide +kernel
theorem dX5_putByTable_23 : decode cX5_putByTable 23 = .ok (.if_icmp .gt 33, 3) := by decide +kernel
theorem dX5_putByTable_26 : decode cX5_putByTable 26 = .ok (.iload 4, 2) := by decide +kernel
theorem dX5_putByTable_28 : decode cX5_putByTable 28 = .ok (.iconst 2, 1) := by decide +kernel
theorem dX5_putByTable_29 : decode cX5_putByTable 29 = .ok (.iload 5, 2) := by decide +kernel
theorem dX5_putByTable_31 : decode cX5_putByTable 31 = .ok (.imul, 1) := by decide +kernel
theorem dX5_putByTable_32 : decode cX5_putByTable 32 = .ok (.if_icmp .lt 24, 3) := by decide +kernel
theorem dX5_putByTable_35 : decode cX5_putByTable 35 = .ok (.aload_n 0, 1) := by decide +kernel
theorem dX5_putByTable_36 : decode cX5_putByTable 36 = .ok (.getfield 18, 3) := by decide +kernel
theorem dX5_putByTable_39 : decode cX5_putByTable 39 = .ok (.iload 4, 2) := by decide +kernel
theorem dX5_putByTable_41 : decode cX5_putByTable 41 = .ok (.invokevirtual 124, 3) := by decide +kernel
theorem dX5_putByTable_44 : decode cX5_putByTable 44 = .ok (.iload 4, 2) := by decide +kernel
theorem dX5_putByTable_46 : decode cX5_putByTable 46 = .ok (.iconst 2, 1) := by decide +kernel
theorem dX5_putByTable_47 : decode cX5_putByTable 47 = .ok (.idiv, 1) := by decide +kernel
theorem dX5_putByTable_48 : decode cX5_putByTable 48 = .ok (.istore 4, 2) := by decide +kernel
theorem dX5_putByTable_50 : decode cX5_putByTable 50 = .ok (.iinc 6 1, 3) := by decide +kernel
theorem dX5_putByTable_53 : decode cX5_putByTable 53 = .ok (.goto (-34), 3) := by decide +kernel
theorem dX5_putByTable_56 : decode cX5_putByTable 56 = .ok (.aload_n 0, 1) := by decide +kernel
theorem dX5_putByTable_57 : decode cX5_putByTable 57 = .ok (.getfield 9, 3) := by decide +kernel
theorem dX5_putByTable_60 : decode cX5_putByTable 60 = .ok (.iload_n 1, 1) := by decide +kernel
theorem dX5_putByTable_61 : decode cX5_putByTable 61 = .ok (.aload_n 3, 1) := by decide +kernel
theorem dX5_putByTable_62 : decode cX5_putByTable 62 = .ok (.getfield 35, 3) := by decide +kernel
theorem dX5_putByTable_65 : decode cX5_putByTable 65 = .ok (.aload_n 3, 1) := by decide +kernel
theorem dX5_putByTable_66 : decode cX5_putByTable 66 = .ok (.iload_n 2, 1) := by decide +kernel
theorem dX5_putByTable_67 : decode cX5_putByTable 67 = .ok (.iload 4, 2) := by decide +kernel
theorem dX5_putByTable_69 : decode cX5_putByTable 69 = .ok (.invokevirtual 127, 3) := by decide +kernel
theorem dX5_putByTable_72 : decode cX5_putByTable 72 = .ok (.iadd, 1) := by decide +kernel
theorem dX5_putByTable_73 : decode cX5_putByTable 73 = .ok (.i2l, 1) := by decide +kernel
theorem dX5_putByTable_74 : decode cX5_putByTable 74 = .ok (.lastore, 1) := by decide +kernel
theorem dX5_putByTable_75 : decode cX5_putByTable 75 = .ok (.return_, 1) := by decide +kernel
theorem dX5_widen_0 : decode cX5_widen 0 = .ok (.iload_n 2, 1) := by decide +kernel
theorem dX5_widen_1 : decode cX5_widen 1 = .ok (.ifCond .le 11, 3) := by decide +kernel
theorem dX5_widen_4 : decode cX5_widen 4 = .ok (.iload_n 2, 1) := by decide +kernel
theorem dX5_widen_5 : decode cX5_widen 5 = .ok (.iconst 1, 1) := by decide +kernel
theorem dX5_widen_6 : decode cX5_widen 6 = .ok (.iload 4, 2) := by decide +kernel
theorem dX5_widen_8 : decode cX5_widen 8 = .ok (.ishl, 1) := by decide +kernel
theorem dX5_widen_9 : decode cX5_widen 9 = .ok (.if_icmp .lt 4, 3) := by decide +kernel
theorem dX5_widen_12 : decode cX5_widen 12 = .ok (.return_, 1) := by decide +kernel
theorem dX5_widen_13 : decode cX5_widen 13 = .ok (.iload 5, 2) := by decide +kernel
theorem dX5_widen_15 : decode cX5_widen 15 = .ok (.iconst 1, 1) := by decide +kernel
theorem dX5_widen_16 : decode cX5_widen 16 = .ok (.if_icmp .ne 7, 3) := by decide +kernel
theorem dX5_widen_19 : decode cX5_widen 19 = .ok (.iconst 4, 1) := by decide +kernel
theorem dX5_widen_20 : decode cX5_widen 20 = .ok (.goto 4, 3) := by decide +kernel
theorem dX5_widen_23 : decode cX5_widen 23 = .ok (.iconst 1, 1) := by decide +kernel
theorem dX5_widen_24 : decode cX5_widen 24 = .ok (.istore 6, 2) := by decide +kernel
theorem dX5_widen_26 : decode cX5_widen 26 = .ok (.lconst 1, 1) := by decide +kernel
theorem dX5_widen_27 : decode cX5_widen 27 = .ok (.iload 5, 2) := by decide +kernel
theorem dX5_widen_29 : decode cX5_widen 29 = .ok (.iconst 1, 1) := by decide +kernel
theorem dX5_widen_30 : decode cX5_widen 30 = .ok (.if_icmp .ne 8, 3) := by decide +kernel
theorem dX5_widen_33 : decode cX5_widen 33 = .ok (.bipush 63, 2) := by decide +kernel
theorem dX5_widen_35 : decode cX5_widen 35 = .ok (.goto 5, 3) := by decide +kernel
theorem dX5_widen_38 : decode cX5_widen 38 = .ok (.bipush 31, 2) := by decide +kernel
theorem dX5_widen_40 : decode cX5_widen 40 = .ok (.iload 4, 2) := by decide +kernel
theorem dX5_widen_42 : decode cX5_widen 42 = .ok (.isub, 1) := by decide +kernel
theorem dX5_widen_43 : decode cX5_widen 43 = .ok (.lshl, 1) := by decide +kernel
theorem dX5_widen_44 : decode cX5_widen 44 = .ok (.iload_n 2, 1) := by decide +kernel
theorem dX5_widen_45 : decode cX5_widen 45 = .ok (.i2l, 1) := by decide +kernel
theorem dX5_widen_46 : decode cX5_widen 46 = .ok (.lmul, 1) := by decide +kernel
theorem dX5_widen_47 : decode cX5_widen 47 = .ok (.lstore 7, 2) := by decide +kernel
theorem dX5_widen_49 : decode cX5_widen 49 = .ok (.aload_n 0, 1) := by decide +kernel
theorem dX5_widen_50 : decode cX5_widen 50 = .ok (.getfield 9, 3) := by decide +kernel
theorem dX5_widen_53 : decode cX5_widen 53 = .ok (.iload_n 1, 1) := by decide +kernel
theorem dX5_widen_54 : decode cX5_widen 54 = .ok (.laload, 1) := by decide +kernel
theorem dX5_widen_55 : decode cX5_widen 55 = .ok (.lstore 9, 2) := by decide +kernel
theorem dX5_widen_57 : decode cX5_widen 57 = .ok (.iconst 0, 1) := by decide +kernel
theorem dX5_widen_58 : decode cX5_widen 58 = .ok (.istore 11, 2) := by decide +kernel
theorem dX5_widen_60 : decode cX5_widen 60 = .ok (.iload 11, 2) := by decide +kernel
theorem dX5_widen_62 : decode cX5_widen 62 = .ok (.iconst 2, 1) := by decide +kernel
theorem dX5_widen_63 : decode cX5_widen 63 = .ok (.if_icmp .ge 50, 3) := by decide +kernel
theorem dX5_widen_66 : decode cX5_widen 66 = .ok (.lload 9, 2) := by decide +kernel
theorem dX5_widen_68 : decode cX5_widen 68 = .ok (.lload 7, 2) := by decide +kernel
theorem dX5_widen_70 : decode cX5_widen 70 = .ok (.lcmp, 1) := by decide +kernel
theorem dX5_widen_71 : decode cX5_widen 71 = .ok (.ifCond .lt 42, 3) := by decide +kernel
theorem dX5_widen_74 : decode cX5_widen 74 = .ok (.iconst 0, 1) := by decide +kernel
theorem dX5_widen_75 : decode cX5_widen 75 = .ok (.istore 12, 2) := by decide +kernel
theorem dX5_widen_77 : decode cX5_widen 77 = .ok (.iload 12, 2) := by decide +kernel
theorem dX5_widen_79 : decode cX5_widen 79 = .ok (.iload 6, 2) := by decide +kernel
theorem dX5_widen_81 : decode cX5_widen 81 = .ok (.if_icmp .ge 26, 3) := by decide +kernel
theorem dX5_widen_84 : decode cX5_widen 84 = .ok (.aload_n 0, 1) := by decide +kernel
theorem dX5_widen_85 : decode cX5_widen 85 = .ok (.getfield 18, 3) := by decide +kernel
theorem dX5_widen_88 : decode cX5_widen 88 = .ok (.lload 9, 2) := by decide +kernel
theorem dX5_widen_90 : decode cX5_widen 90 = .ok (.l2i, 1) := by decide +kernel
theorem dX5_widen_91 : decode cX5_widen 91 = .ok (.invokevirtual 120, 3) := by decide +kernel
theorem dX5_widen_94 : decode cX5_widen 94 = .ok (.lload 9, 2) := by decide +kernel
theorem dX5_widen_96 : decode cX5_widen 96 = .ok (.bipush 8, 2) := by decide +kernel
theorem dX5_widen_98 : decode cX5_widen 98 = .ok (.lshr, 1) := by decide +kernel
theorem dX5_widen_99 : decode cX5_widen 99 = .ok (.lstore 9, 2) := by decide +kernel
theorem dX5_widen_101 : decode cX5_widen 101 = .ok (.iinc 12 1, 3) := by decide +kernel
theorem dX5_widen_104 : decode cX5_widen 104 = .ok (.goto (-27), 3) := by decide +kernel
theorem dX5_widen_107 : decode cX5_widen 107 = .ok (.iinc 11 1, 3) := by decide +kernel
theorem dX5_widen_110 : decode cX5_widen 110 = .ok (.goto (-50), 3) := by decide +kernel
theorem dX5_widen_113 : decode cX5_widen 113 = .ok (.aload_n 0, 1) := by decide +kernel
theorem dX5_widen_114 : decode cX5_widen 114 = .ok (.getfield 9, 3) := by decide +kernel
theorem dX5_widen_117 : decode cX5_widen 117 = .ok (.iload_n 1, 1) := by decide +kernel
theorem dX5_widen_118 : decode cX5_widen 118 = .ok (.lload 9, 2) := by decide +kernel
theorem dX5_widen_120 : decode cX5_widen 120 = .ok (.iload_n 2, 1) := by decide +kernel
theorem dX5_widen_121 : decode cX5_widen 121 = .ok (.i2l, 1) := by decide +kernel
theorem dX5_widen_122 : decode cX5_widen 122 = .ok (.ldiv, 1) := by decide +kernel
theorem dX5_widen_123 : decode cX5_widen 123 = .ok (.iload 4, 2) := by decide +kernel
theorem dX5_widen_125 : decode cX5_widen 125 = .ok (.lshl, 1) := by decide +kernel
theorem dX5_widen_126 : decode cX5_widen 126 = .ok (.lload 9, 2) := by decide +kernel
theorem dX5_widen_128 : decode cX5_widen 128 = .ok (.iload_n 2, 1) := by decide +kernel
theorem dX5_widen_129 : decode cX5_widen 129 = .ok (.i2l, 1) := by decide +kernel
theorem dX5_widen_130 : decode cX5_widen 130 = .ok (.lrem, 1) := by decide +kernel
theorem dX5_widen_131 : decode cX5_widen 131 = .ok (.ladd, 1) := by decide +kernel
theorem dX5_widen_132 : decode cX5_widen 132 = .ok (.iload_n 3, 1) := by decide +kernel
theorem dX5_widen_133 : decode cX5_widen 133 = .ok (.i2l, 1) := by decide +kernel
theorem dX5_widen_134 : decode cX5_widen 134 = .ok (.ladd, 1) := by decide +kernel
theorem dX5_widen_135 : decode cX5_widen 135 = .ok (.lastore, 1) := by decide +kernel
theorem dX5_widen_136 : decode cX5_widen 136 = .ok (.return_, 1) := by decide +kernel
theorem dX5_putTwoSided_0 : decode cX5_putTwoSided 0 = .ok (.iconst 1, 1) := by decide +kernel
theorem dX5_putTwoSided_1 : decode cX5_putTwoSided 1 = .ok (.istore 4, 2) := by decide +kernel
theorem dX5_putTwoSided_3 : decode cX5_putTwoSided 3 = .ok (.iload 4, 2) := by decide +kernel
theorem dX5_putTwoSided_5 : decode cX5_putTwoSided 5 = .ok (.bipush 32, 2) := by decide +kernel
theorem dX5_putTwoSided_7 : decode cX5_putTwoSided 7 = .ok (.if_icmp .ge 69, 3) := by decide +kernel
theorem dX5_putTwoSided_10 : decode cX5_putTwoSided 10 = .ok (.aload_n 3, 1) := by decide +kernel
theorem dX5_putTwoSided_11 : decode cX5_putTwoSided 11 = .ok (.iload_n 2, 1) := by decide +kernel
theorem dX5_putTwoSided_12 : decode cX5_putTwoSided 12 = .ok (.bipush (-2), 2) := by decide +kernel
theorem dX5_putTwoSided_14 : decode cX5_putTwoSided 14 = .ok (.iload 4, 2) := by decide +kernel
theorem dX5_putTwoSided_16 : decode cX5_putTwoSided 16 = .ok (.imul, 1) := by decide +kernel
theorem dX5_putTwoSided_17 : decode cX5_putTwoSided 17 = .ok (.iand, 1) := by decide +kernel
theorem dX5_putTwoSided_18 : decode cX5_putTwoSided 18 = .ok (.iload 4, 2) := by decide +kernel
theorem dX5_putTwoSided_20 : decode cX5_putTwoSided 20 = .ok (.invokevirtual 130, 3) := by decide +kernel
theorem dX5_putTwoSided_23 : decode cX5_putTwoSided 23 = .ok (.istore 5, 2) := by decide +kernel
theorem dX5_putTwoSided_25 : decode cX5_putTwoSided 25 = .ok (.iload_n 2, 1) := by decide +kernel
theorem dX5_putTwoSided_26 : decode cX5_putTwoSided 26 = .ok (.iload 4, 2) := by decide +kernel
theorem dX5_putTwoSided_28 : decode cX5_putTwoSided 28 = .ok (.iand, 1) := by decide +kernel
theorem dX5_putTwoSided_29 : decode cX5_putTwoSided 29 = .ok (.ifCond .ne 19, 3) := by decide +kernel
theorem dX5_putTwoSided_32 : decode cX5_putTwoSided 32 = .ok (.aload_n 0, 1) := by decide +kernel
theorem dX5_putTwoSided_33 : decode cX5_putTwoSided 33 = .ok (.iload_n 1, 1) := by decide +kernel
theorem dX5_putTwoSided_34 : decode cX5_putTwoSided 34 = .ok (.iload 5, 2) := by decide +kernel
theorem dX5_putTwoSided_36 : decode cX5_putTwoSided 36 = .ok (.iconst 0, 1) := by decide +kernel
theorem dX5_putTwoSided_37 : decode cX5_putTwoSided 37 = .ok (.aload_n 3, 1) := by decide +kernel
theorem dX5_putTwoSided_38 : decode cX5_putTwoSided 38 = .ok (.getfield 93, 3) := by decide +kernel
theorem dX5_putTwoSided_41 : decode cX5_putTwoSided 41 = .ok (.iconst 3, 1) := by decide +kernel
theorem dX5_putTwoSided_42 : decode cX5_putTwoSided 42 = .ok (.invokevirtual 116, 3) := by decide +kernel
theorem dX5_putTwoSided_45 : decode cX5_putTwoSided 45 = .ok (.goto 22, 3) := by decide +kernel
theorem dX5_putTwoSided_48 : decode cX5_putTwoSided 48 = .ok (.aload_n 0, 1) := by decide +kernel
theorem dX5_putTwoSided_49 : decode cX5_putTwoSided 49 = .ok (.iload_n 1, 1) := by decide +kernel
theorem dX5_putTwoSided_50 : decode cX5_putTwoSided 50 = .ok (.aload_n 3, 1) := by decide +kernel
theorem dX5_putTwoSided_51 : decode cX5_putTwoSided 51 = .ok (.getfield 35, 3) := by decide +kernel
theorem dX5_putTwoSided_54 : decode cX5_putTwoSided 54 = .ok (.iload 5, 2) := by decide +kernel
theorem dX5_putTwoSided_56 : decode cX5_putTwoSided 56 = .ok (.isub, 1) := by decide +kernel
theorem dX5_putTwoSided_57 : decode cX5_putTwoSided 57 = .ok (.iload 5, 2) := by decide +kernel
theorem dX5_putTwoSided_59 : decode cX5_putTwoSided 59 = .ok (.aload_n 3, 1) := by decide +kernel
theorem dX5_putTwoSided_60 : decode cX5_putTwoSided 60 = .ok (.getfield 93, 3) := by decide +kernel
theorem dX5_putTwoSided_63 : decode cX5_putTwoSided 63 = .ok (.iconst 3, 1) := by decide +kernel
theorem dX5_putTwoSided_64 : decode cX5_putTwoSided 64 = .ok (.invokevirtual 116, 3) := by decide +kernel
theorem dX5_putTwoSided_67 : decode cX5_putTwoSided 67 = .ok (.iload 4, 2) := by decide +kernel
theorem dX5_putTwoSided_69 : decode cX5_putTwoSided 69 = .ok (.iconst 2, 1) := by decide +kernel
theorem dX5_putTwoSided_70 : decode cX5_putTwoSided 70 = .ok (.imul, 1) := by decide +kernel
theorem dX5_putTwoSided_71 : decode cX5_putTwoSided 71 = .ok (.istore 4, 2) := by decide +kernel
theorem dX5_putTwoSided_73 : decode cX5_putTwoSided 73 = .ok (.goto (-70), 3) := by decide +kernel
theorem dX5_putTwoSided_76 : decode cX5_putTwoSided 76 = .ok (.return_, 1) := by decide +kernel
theorem dX5_putSign_0 : decode cX5_putSign 0 = .ok (.iload_n 1, 1) := by decide +kernel
theorem dX5_putSign_1 : decode cX5_putSign 1 = .ok (.lookupswitch 49 #[(2, 27), (3, 38)], 27) := by decide +kernel
theorem dX5_putSign_28 : decode cX5_putSign 28 = .ok (.aload_n 0, 1) := by decide +kernel
theorem dX5_putSign_29 : decode cX5_putSign 29 = .ok (.iload_n 2, 1) := by decide +kernel
theorem dX5_putSign_30 : decode cX5_putSign 30 = .ok (.iload_n 3, 1) := by decide +kernel
theorem dX5_putSign_31 : decode cX5_putSign 31 = .ok (.aload 4, 2) := by decide +kernel
theorem dX5_putSign_33 : decode cX5_putSign 33 = .ok (.invokevirtual 106, 3) := by decide +kernel
theorem dX5_putSign_36 : decode cX5_putSign 36 = .ok (.goto 37, 3) := by decide +kernel
theorem dX5_putSign_39 : decode cX5_putSign 39 = .ok (.aload_n 0, 1) := by decide +kernel
theorem dX5_putSign_40 : decode cX5_putSign 40 = .ok (.iload_n 2, 1) := by decide +kernel
theorem dX5_putSign_41 : decode cX5_putSign 41 = .ok (.iload_n 3, 1) := by decide +kernel
theorem dX5_putSign_42 : decode cX5_putSign 42 = .ok (.aload 4, 2) := by decide +kernel
theorem dX5_putSign_44 : decode cX5_putSign 44 = .ok (.invokevirtual 110, 3) := by decide +kernel
theorem dX5_putSign_47 : decode cX5_putSign 47 = .ok (.goto 26, 3) := by decide +kernel
theorem dX5_putSign_50 : decode cX5_putSign 50 = .ok (.aload_n 0, 1) := by decide +kernel
theorem dX5_putSign_51 : decode cX5_putSign 51 = .ok (.iload_n 2, 1) := by decide +kernel
theorem dX5_putSign_52 : decode cX5_putSign 52 = .ok (.aload 4, 2) := by decide +kernel
theorem dX5_putSign_54 : decode cX5_putSign 54 = .ok (.iload_n 3, 1) := by decide +kernel
theorem dX5_putSign_55 : decode cX5_putSign 55 = .ok (.invokevirtual 96, 3) := by decide +kernel
theorem dX5_putSign_58 : decode cX5_putSign 58 = .ok (.aload 4, 2) := by decide +kernel
theorem dX5_putSign_60 : decode cX5_putSign 60 = .ok (.iload_n 3, 1) := by decide +kernel
theorem dX5_putSign_61 : decode cX5_putSign 61 = .ok (.invokevirtual 113, 3) := by decide +kernel
theorem dX5_putSign_64 : decode cX5_putSign 64 = .ok (.aload 4, 2) := by decide +kernel
theorem dX5_putSign_66 : decode cX5_putSign 66 = .ok (.getfield 93, 3) := by decide +kernel
theorem dX5_putSign_69 : decode cX5_putSign 69 = .ok (.iload_n 1, 1) := by decide +kernel
theorem dX5_putSign_70 : decode cX5_putSign 70 = .ok (.invokevirtual 116, 3) := by decide +kernel
theorem dX5_putSign_73 : decode cX5_putSign 73 = .ok (.return_, 1) := by decide +kernel
theorem dX5_putHead_0 : decode cX5_putHead 0 = .ok (.aload 4, 2) := by decide +kernel
theorem dX5_putHead_2 : decode cX5_putHead 2 = .ok (.iload_n 1, 1) := by decide +kernel
theorem dX5_putHead_3 : decode cX5_putHead 3 = .ok (.iconst 4, 1) := by decide +kernel
theorem dX5_putHead_4 : decode cX5_putHead 4 = .ok (.imul, 1) := by decide +kernel
theorem dX5_putHead_5 : decode cX5_putHead 5 = .ok (.aload_n 0, 1) := by decide +kernel
theorem dX5_putHead_6 : decode cX5_putHead 6 = .ok (.getfield 28, 3) := by decide +kernel
theorem dX5_putHead_9 : decode cX5_putHead 9 = .ok (.iconst 2, 1) := by decide +kernel
theorem dX5_putHead_10 : decode cX5_putHead 10 = .ok (.idiv, 1) := by decide +kernel
theorem dX5_putHead_11 : decode cX5_putHead 11 = .ok (.iadd, 1) := by decide +kernel
theorem dX5_putHead_12 : decode cX5_putHead 12 = .ok (.invokevirtual 89, 3) := by decide +kernel
theorem dX5_putHead_15 : decode cX5_putHead 15 = .ok (.pop, 1) := by decide +kernel
theorem dX5_putHead_16 : decode cX5_putHead 16 = .ok (.aload 4, 2) := by decide +kernel
theorem dX5_putHead_18 : decode cX5_putHead 18 = .ok (.aload_n 3, 1) := by decide +kernel
theorem dX5_putHead_19 : decode cX5_putHead 19 = .ok (.getfield 93, 3) := by decide +kernel
theorem dX5_putHead_22 : decode cX5_putHead 22 = .ok (.invokevirtual 89, 3) := by decide +kernel
theorem dX5_putHead_25 : decode cX5_putHead 25 = .ok (.pop, 1) := by decide +kernel
theorem dX5_putHead_26 : decode cX5_putHead 26 = .ok (.aload 4, 2) := by decide +kernel
theorem dX5_putHead_28 : decode cX5_putHead 28 = .ok (.iload_n 2, 1) := by decide +kernel
theorem dX5_putHead_29 : decode cX5_putHead 29 = .ok (.i2l, 1) := by decide +kernel
theorem dX5_putHead_30 : decode cX5_putHead 30 = .ok (.iconst 2, 1) := by decide +kernel
theorem dX5_putHead_31 : decode cX5_putHead 31 = .ok (.invokevirtual 77, 3) := by decide +kernel
theorem dX5_putHead_34 : decode cX5_putHead 34 = .ok (.return_, 1) := by decide +kernel

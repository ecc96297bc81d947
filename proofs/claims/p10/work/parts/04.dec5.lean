theorem dX6_cut_0 : decode cX6_cut 0 = .ok (.iload_n 1, 1) := by decide +kernel
theorem dX6_cut_1 : decode cX6_cut 1 = .ok (.ifCond .lt 14, 3) := by decide +kernel
theorem dX6_cut_4 : decode cX6_cut 4 = .ok (.iload_n 1, 1) := by decide +kernel
theorem dX6_cut_5 : decode cX6_cut 5 = .ok (.aload_n 0, 1) := by decide +kernel
theorem dX6_cut_6 : decode cX6_cut 6 = .ok (.getfield 51, 3) := by decide +kernel
theorem dX6_cut_9 : decode cX6_cut 9 = .ok (.getfield 123, 3) := by decide +kernel
theorem dX6_cut_12 : decode cX6_cut 12 = .ok (.if_icmp .le 5, 3) := by decide +kernel
theorem dX6_cut_15 : decode cX6_cut 15 = .ok (.iconst (-1), 1) := by decide +kernel
theorem dX6_cut_16 : decode cX6_cut 16 = .ok (.ireturn, 1) := by decide +kernel
theorem dX6_cut_17 : decode cX6_cut 17 = .ok (.aload_n 0, 1) := by decide +kernel
theorem dX6_cut_18 : decode cX6_cut 18 = .ok (.getfield 51, 3) := by decide +kernel
theorem dX6_cut_21 : decode cX6_cut 21 = .ok (.dup, 1) := by decide +kernel
theorem dX6_cut_22 : decode cX6_cut 22 = .ok (.getfield 123, 3) := by decide +kernel
theorem dX6_cut_25 : decode cX6_cut 25 = .ok (.iload_n 1, 1) := by decide +kernel
theorem dX6_cut_26 : decode cX6_cut 26 = .ok (.isub, 1) := by decide +kernel
theorem dX6_cut_27 : decode cX6_cut 27 = .ok (.putfield 123, 3) := by decide +kernel
theorem dX6_cut_30 : decode cX6_cut 30 = .ok (.aload_n 0, 1) := by decide +kernel
theorem dX6_cut_31 : decode cX6_cut 31 = .ok (.getfield 51, 3) := by decide +kernel
theorem dX6_cut_34 : decode cX6_cut 34 = .ok (.getfield 123, 3) := by decide +kernel
theorem dX6_cut_37 : decode cX6_cut 37 = .ok (.ireturn, 1) := by decide +kernel
theorem dX6_octet_0 : decode cX6_octet 0 = .ok (.aload_n 0, 1) := by decide +kernel
theorem dX6_octet_1 : decode cX6_octet 1 = .ok (.getfield 51, 3) := by decide +kernel
theorem dX6_octet_4 : decode cX6_octet 4 = .ok (.iload_n 1, 1) := by decide +kernel
theorem dX6_octet_5 : decode cX6_octet 5 = .ok (.invokevirtual 166, 3) := by decide +kernel
theorem dX6_octet_8 : decode cX6_octet 8 = .ok (.ifCond .eq 13, 3) := by decide +kernel
theorem dX6_octet_11 : decode cX6_octet 11 = .ok (.aload_n 0, 1) := by decide +kernel
theorem dX6_octet_12 : decode cX6_octet 12 = .ok (.getfield 51, 3) := by decide +kernel
theorem dX6_octet_15 : decode cX6_octet 15 = .ok (.getfield 123, 3) := by decide +kernel
theorem dX6_octet_18 : decode cX6_octet 18 = .ok (.goto 5, 3) := by decide +kernel
theorem dX6_octet_21 : decode cX6_octet 21 = .ok (.bipush (-3), 2) := by decide +kernel
theorem dX6_octet_23 : decode cX6_octet 23 = .ok (.ireturn, 1) := by decide +kernel
theorem dX6_readIsRow_0 : decode cX6_readIsRow 0 = .ok (.iconst 0, 1) := by decide +kernel
theorem dX6_readIsRow_1 : decode cX6_readIsRow 1 = .ok (.istore_n 1, 1) := by decide +kernel
theorem dX6_readIsRow_2 : decode cX6_readIsRow 2 = .ok (.iload_n 1, 1) := by decide +kernel
theorem dX6_readIsRow_3 : decode cX6_readIsRow 3 = .ok (.aload_n 0, 1) := by decide +kernel
theorem dX6_readIsRow_4 : decode cX6_readIsRow 4 = .ok (.getfield 73, 3) := by decide +kernel
theorem dX6_readIsRow_7 : decode cX6_readIsRow 7 = .ok (.if_icmp .ge 37, 3) := by decide +kernel
theorem dX6_readIsRow_10 : decode cX6_readIsRow 10 = .ok (.iload_n 1, 1) := by decide +kernel
theorem dX6_readIsRow_11 : decode cX6_readIsRow 11 = .ok (.aload_n 0, 1) := by decide +kernel
theorem dX6_readIsRow_12 : decode cX6_readIsRow 12 = .ok (.getfield 59, 3) := by decide +kernel
theorem dX6_readIsRow_15 : decode cX6_readIsRow 15 = .ok (.arraylength, 1) := by decide +kernel
theorem dX6_readIsRow_16 : decode cX6_readIsRow 16 = .ok (.if_icmp .ge 28, 3) := by decide +kernel
theorem dX6_readIsRow_19 : decode cX6_readIsRow 19 = .ok (.aload_n 0, 1) := by decide +kernel
theorem dX6_readIsRow_20 : decode cX6_readIsRow 20 = .ok (.getfield 44, 3) := by decide +kernel
theorem dX6_readIsRow_23 : decode cX6_readIsRow 23 = .ok (.iload_n 1, 1) := by decide +kernel
theorem dX6_readIsRow_24 : decode cX6_readIsRow 24 = .ok (.invokevirtual 133, 3) := by decide +kernel
theorem dX6_readIsRow_27 : decode cX6_readIsRow 27 = .ok (.aload_n 0, 1) := by decide +kernel
theorem dX6_readIsRow_28 : decode cX6_readIsRow 28 = .ok (.getfield 59, 3) := by decide +kernel
theorem dX6_readIsRow_31 : decode cX6_readIsRow 31 = .ok (.iload_n 1, 1) := by decide +kernel
theorem dX6_readIsRow_32 : decode cX6_readIsRow 32 = .ok (.iaload, 1) := by decide +kernel
theorem dX6_readIsRow_33 : decode cX6_readIsRow 33 = .ok (.if_icmp .eq 5, 3) := by decide +kernel
theorem dX6_readIsRow_36 : decode cX6_readIsRow 36 = .ok (.iconst 0, 1) := by decide +kernel
theorem dX6_readIsRow_37 : decode cX6_readIsRow 37 = .ok (.ireturn, 1) := by decide +kernel
theorem dX6_readIsRow_38 : decode cX6_readIsRow 38 = .ok (.iinc 1 1, 3) := by decide +kernel
theorem dX6_readIsRow_41 : decode cX6_readIsRow 41 = .ok (.goto (-39), 3) := by decide +kernel
theorem dX6_readIsRow_44 : decode cX6_readIsRow 44 = .ok (.iconst 1, 1) := by decide +kernel
theorem dX6_readIsRow_45 : decode cX6_readIsRow 45 = .ok (.ireturn, 1) := by decide +kernel
theorem dX6_agree_0 : decode cX6_agree 0 = .ok (.aload_n 0, 1) := by decide +kernel
theorem dX6_agree_1 : decode cX6_agree 1 = .ok (.invokevirtual 115, 3) := by decide +kernel
theorem dX6_agree_4 : decode cX6_agree 4 = .ok (.ifCond .ne 6, 3) := by decide +kernel
theorem dX6_agree_7 : decode cX6_agree 7 = .ok (.bipush (-2), 2) := by decide +kernel
theorem dX6_agree_9 : decode cX6_agree 9 = .ok (.ireturn, 1) := by decide +kernel
theorem dX6_agree_10 : decode cX6_agree 10 = .ok (.iconst 1, 1) := by decide +kernel
theorem dX6_agree_11 : decode cX6_agree 11 = .ok (.istore_n 1, 1) := by decide +kernel
theorem dX6_agree_12 : decode cX6_agree 12 = .ok (.iconst 0, 1) := by decide +kernel
theorem dX6_agree_13 : decode cX6_agree 13 = .ok (.istore_n 2, 1) := by decide +kernel
theorem dX6_agree_14 : decode cX6_agree 14 = .ok (.iload_n 2, 1) := by decide +kernel
theorem dX6_agree_15 : decode cX6_agree 15 = .ok (.iconst 3, 1) := by decide +kernel
theorem dX6_agree_16 : decode cX6_agree 16 = .ok (.if_icmp .gt 66, 3) := by decide +kernel
theorem dX6_agree_19 : decode cX6_agree 19 = .ok (.aload_n 0, 1) := by decide +kernel
theorem dX6_agree_20 : decode cX6_agree 20 = .ok (.getfield 37, 3) := by decide +kernel
theorem dX6_agree_23 : decode cX6_agree 23 = .ok (.aload_n 0, 1) := by decide +kernel
theorem dX6_agree_24 : decode cX6_agree 24 = .ok (.getfield 59, 3) := by decide +kernel
theorem dX6_agree_27 : decode cX6_agree 27 = .ok (.aload_n 0, 1) := by decide +kernel
theorem dX6_agree_28 : decode cX6_agree 28 = .ok (.getfield 73, 3) := by decide +kernel
theorem dX6_agree_31 : decode cX6_agree 31 = .ok (.aload_n 0, 1) := by decide +kernel
theorem dX6_agree_32 : decode cX6_agree 32 = .ok (.getfield 30, 3) := by decide +kernel
theorem dX6_agree_35 : decode cX6_agree 35 = .ok (.iload_n 2, 1) := by decide +kernel
theorem dX6_agree_36 : decode cX6_agree 36 = .ok (.aload_n 0, 1) := by decide +kernel
theorem dX6_agree_37 : decode cX6_agree 37 = .ok (.getfield 66, 3) := by decide +kernel
theorem dX6_agree_40 : decode cX6_agree 40 = .ok (.aload_n 0, 1) := by decide +kernel
theorem dX6_agree_41 : decode cX6_agree 41 = .ok (.getfield 51, 3) := by decide +kernel
theorem dX6_agree_44 : decode cX6_agree 44 = .ok (.invokevirtual 119, 3) := by decide +kernel
theorem dX6_agree_47 : decode cX6_agree 47 = .ok (.aload_n 0, 1) := by decide +kernel
theorem dX6_agree_48 : decode cX6_agree 48 = .ok (.getfield 44, 3) := by decide +kernel
theorem dX6_agree_51 : decode cX6_agree 51 = .ok (.aload_n 0, 1) := by decide +kernel
theorem dX6_agree_52 : decode cX6_agree 52 = .ok (.getfield 51, 3) := by decide +kernel
theorem dX6_agree_55 : decode cX6_agree 55 = .ok (.invokevirtual 126, 3) := by decide +kernel
theorem dX6_agree_58 : decode cX6_agree 58 = .ok (.istore_n 3, 1) := by decide +kernel
theorem dX6_agree_59 : decode cX6_agree 59 = .ok (.iload_n 3, 1) := by decide +kernel
theorem dX6_agree_60 : decode cX6_agree 60 = .ok (.aload_n 0, 1) := by decide +kernel
theorem dX6_agree_61 : decode cX6_agree 61 = .ok (.getfield 73, 3) := by decide +kernel
theorem dX6_agree_64 : decode cX6_agree 64 = .ok (.if_icmp .ne 10, 3) := by decide +kernel
theorem dX6_agree_67 : decode cX6_agree 67 = .ok (.aload_n 0, 1) := by decide +kernel
theorem dX6_agree_68 : decode cX6_agree 68 = .ok (.invokevirtual 169, 3) := by decide +kernel
theorem dX6_agree_71 : decode cX6_agree 71 = .ok (.ifCond .ne 5, 3) := by decide +kernel
theorem dX6_agree_74 : decode cX6_agree 74 = .ok (.iconst 0, 1) := by decide +kernel
theorem dX6_agree_75 : decode cX6_agree 75 = .ok (.istore_n 1, 1) := by decide +kernel
theorem dX6_agree_76 : decode cX6_agree 76 = .ok (.iinc 2 1, 3) := by decide +kernel
theorem dX6_agree_79 : decode cX6_agree 79 = .ok (.goto (-65), 3) := by decide +kernel
theorem dX6_agree_82 : decode cX6_agree 82 = .ok (.iload_n 1, 1) := by decide +kernel
theorem dX6_agree_83 : decode cX6_agree 83 = .ok (.ireturn, 1) := by decide +kernel
theorem dX6_told_0 : decode cX6_told 0 = .ok (.iload_n 1, 1) := by decide +kernel
theorem dX6_told_1 : decode cX6_told 1 = .ok (.tableswitch 98 0 6 #[43, 51, 56, 64, 72, 77, 82], 43) := by decide +kernel
theorem dX6_told_44 : decode cX6_told 44 = .ok (.aload_n 0, 1) := by decide +kernel
theorem dX6_told_45 : decode cX6_told 45 = .ok (.getfield 30, 3) := by decide +kernel
theorem dX6_told_48 : decode cX6_told 48 = .ok (.getfield 172, 3) := by decide +kernel
theorem dX6_told_51 : decode cX6_told 51 = .ok (.ireturn, 1) := by decide +kernel
theorem dX6_told_52 : decode cX6_told 52 = .ok (.aload_n 0, 1) := by decide +kernel
theorem dX6_told_53 : decode cX6_told 53 = .ok (.getfield 73, 3) := by decide +kernel
theorem dX6_told_56 : decode cX6_told 56 = .ok (.ireturn, 1) := by decide +kernel
theorem dX6_told_57 : decode cX6_told 57 = .ok (.aload_n 0, 1) := by decide +kernel
theorem dX6_told_58 : decode cX6_told 58 = .ok (.getfield 51, 3) := by decide +kernel
theorem dX6_told_61 : decode cX6_told 61 = .ok (.getfield 123, 3) := by decide +kernel
theorem dX6_told_64 : decode cX6_told 64 = .ok (.ireturn, 1) := by decide +kernel
theorem dX6_told_65 : decode cX6_told 65 = .ok (.aload_n 0, 1) := by decide +kernel
theorem dX6_told_66 : decode cX6_told 66 = .ok (.getfield 44, 3) := by decide +kernel
theorem dX6_told_69 : decode cX6_told 69 = .ok (.getfield 175, 3) := by decide +kernel
theorem dX6_told_72 : decode cX6_told 72 = .ok (.ireturn, 1) := by decide +kernel
theorem dX6_told_73 : decode cX6_told 73 = .ok (.aload_n 0, 1) := by decide +kernel
theorem dX6_told_74 : decode cX6_told 74 = .ok (.getfield 62, 3) := by decide +kernel
theorem dX6_told_77 : decode cX6_told 77 = .ok (.ireturn, 1) := by decide +kernel
theorem dX6_told_78 : decode cX6_told 78 = .ok (.aload_n 0, 1) := by decide +kernel
theorem dX6_told_79 : decode cX6_told 79 = .ok (.getfield 66, 3) := by decide +kernel
theorem dX6_told_82 : decode cX6_told 82 = .ok (.ireturn, 1) := by decide +kernel
theorem dX6_told_83 : decode cX6_told 83 = .ok (.aload_n 0, 1) := by decide +kernel
theorem dX6_told_84 : decode cX6_told 84 = .ok (.getfield 30, 3) := by decide +kernel
theorem dX6_told_87 : decode cX6_told 87 = .ok (.getfield 90, 3) := by decide +kernel
theorem dX6_told_90 : decode cX6_told 90 = .ok (.ifCond .eq 7, 3) := by decide +kernel
theorem dX6_told_93 : decode cX6_told 93 = .ok (.iconst 1, 1) := by decide +kernel
theorem dX6_told_94 : decode cX6_told 94 = .ok (.goto 4, 3) := by decide +kernel
theorem dX6_told_97 : decode cX6_told 97 = .ok (.iconst 0, 1) := by decide +kernel
theorem dX6_told_98 : decode cX6_told 98 = .ok (.ireturn, 1) := by decide +kernel
theorem dX6_told_99 : decode cX6_told 99 = .ok (.iconst (-1), 1) := by decide +kernel
theorem dX6_told_100 : decode cX6_told 100 = .ok (.ireturn, 1) := by decide +kernel
theorem dX6_withRoom_0 : decode cX6_withRoom 0 = .ok (.iload_n 1, 1) := by decide +kernel
theorem dX6_withRoom_1 : decode cX6_withRoom 1 = .ok (.aload_n 0, 1) := by decide +kernel
theorem dX6_withRoom_2 : decode cX6_withRoom 2 = .ok (.arraylength, 1) := by decide +kernel
theorem dX6_withRoom_3 : decode cX6_withRoom 3 = .ok (.if_icmp .lt 8, 3) := by decide +kernel
theorem dX6_withRoom_6 : decode cX6_withRoom 6 = .ok (.iload_n 1, 1) := by decide +kernel
theorem dX6_withRoom_7 : decode cX6_withRoom 7 = .ok (.iload_n 2, 1) := by decide +kernel
theorem dX6_withRoom_8 : decode cX6_withRoom 8 = .ok (.if_icmp .lt 5, 3) := by decide +kernel
theorem dX6_withRoom_11 : decode cX6_withRoom 11 = .ok (.aload_n 0, 1) := by decide +kernel
theorem dX6_withRoom_12 : decode cX6_withRoom 12 = .ok (.areturn, 1) := by decide +kernel
theorem dX6_withRoom_13 : decode cX6_withRoom 13 = .ok (.aload_n 0, 1) := by decide +kernel
theorem dX6_withRoom_14 : decode cX6_withRoom 14 = .ok (.iconst 2, 1) := by decide +kernel
theorem dX6_withRoom_15 : decode cX6_withRoom 15 = .ok (.iload_n 1, 1) := by decide +kernel
theorem dX6_withRoom_16 : decode cX6_withRoom 16 = .ok (.imul, 1) := by decide +kernel
theorem dX6_withRoom_17 : decode cX6_withRoom 17 = .ok (.iload_n 2, 1) := by decide +kernel
theorem dX6_withRoom_18 : decode cX6_withRoom 18 = .ok (.invokestatic 15, 3) := by decide +kernel
theorem dX6_withRoom_21 : decode cX6_withRoom 21 = .ok (.invokestatic 176, 3) := by decide +kernel
theorem dX6_withRoom_24 : decode cX6_withRoom 24 = .ok (.areturn, 1) := by decide +kernel
theorem dJ7_fill_53178_0 : decode cJ7_fill_53178 0 = .ok (.iconst 0, 1) := by decide +kernel
theorem dJ7_fill_53178_1 : decode cJ7_fill_53178 1 = .ok (.istore_n 2, 1) := by decide +kernel
theorem dJ7_fill_53178_2 : decode cJ7_fill_53178 2 = .ok (.aload_n 0, 1) := by decide +kernel
theorem dJ7_fill_53178_3 : decode cJ7_fill_53178 3 = .ok (.arraylength, 1) := by decide +kernel
theorem dJ7_fill_53178_4 : decode cJ7_fill_53178 4 = .ok (.istore_n 3, 1) := by decide +kernel
theorem dJ7_fill_53178_5 : decode cJ7_fill_53178 5 = .ok (.iload_n 2, 1) := by decide +kernel
theorem dJ7_fill_53178_6 : decode cJ7_fill_53178 6 = .ok (.iload_n 3, 1) := by decide +kernel
theorem dJ7_fill_53178_7 : decode cJ7_fill_53178 7 = .ok (.if_icmp .ge 13, 3) := by decide +kernel
theorem dJ7_fill_53178_10 : decode cJ7_fill_53178 10 = .ok (.aload_n 0, 1) := by decide +kernel
theorem dJ7_fill_53178_11 : decode cJ7_fill_53178 11 = .ok (.iload_n 2, 1) := by decide +kernel
theorem dJ7_fill_53178_12 : decode cJ7_fill_53178 12 = .ok (.iload_n 1, 1) := by decide +kernel
theorem dJ7_fill_53178_13 : decode cJ7_fill_53178 13 = .ok (.iastore, 1) := by decide +kernel
theorem dJ7_fill_53178_14 : decode cJ7_fill_53178 14 = .ok (.iinc 2 1, 3) := by decide +kernel
theorem dJ7_fill_53178_17 : decode cJ7_fill_53178 17 = .ok (.goto (-12), 3) := by decide +kernel
theorem dJ7_fill_53178_20 : decode cJ7_fill_53178 20 = .ok (.return_, 1) := by decide +kernel
theorem dJ7_fill_d0a16_0 : decode cJ7_fill_d0a16 0 = .ok (.iconst 0, 1) := by decide +kernel
theorem dJ7_fill_d0a16_1 : decode cJ7_fill_d0a16 1 = .ok (.istore_n 3, 1) := by decide +kernel
theorem dJ7_fill_d0a16_2 : decode cJ7_fill_d0a16 2 = .ok (.aload_n 0, 1) := by decide +kernel
theorem dJ7_fill_d0a16_3 : decode cJ7_fill_d0a16 3 = .ok (.arraylength, 1) := by decide +kernel
theorem dJ7_fill_d0a16_4 : decode cJ7_fill_d0a16 4 = .ok (.istore 4, 2) := by decide +kernel
theorem dJ7_fill_d0a16_6 : decode cJ7_fill_d0a16 6 = .ok (.iload_n 3, 1) := by decide +kernel
theorem dJ7_fill_d0a16_7 : decode cJ7_fill_d0a16 7 = .ok (.iload 4, 2) := by decide +kernel
theorem dJ7_fill_d0a16_9 : decode cJ7_fill_d0a16 9 = .ok (.if_icmp .ge 13, 3) := by decide +kernel
theorem dJ7_fill_d0a16_12 : decode cJ7_fill_d0a16 12 = .ok (.aload_n 0, 1) := by decide +kernel
theorem dJ7_fill_d0a16_13 : decode cJ7_fill_d0a16 13 = .ok (.iload_n 3, 1) := by decide +kernel
theorem dJ7_fill_d0a16_14 : decode cJ7_fill_d0a16 14 = .ok (.lload_n 1, 1) := by decide +kernel
theorem dJ7_fill_d0a16_15 : decode cJ7_fill_d0a16 15 = .ok (.lastore, 1) := by decide +kernel
theorem dJ7_fill_d0a16_16 : decode cJ7_fill_d0a16 16 = .ok (.iinc 3 1, 3) := by decide +kernel
theorem dJ7_fill_d0a16_19 : decode cJ7_fill_d0a16 19 = .ok (.goto (-13), 3) := by decide +kernel
theorem dJ7_fill_d0a16_22 : decode cJ7_fill_d0a16 22 = .ok (.return_, 1) := by decide +kernel
theorem dJ7_copyOf_59c91_0 : decode cJ7_copyOf_59c91 0 = .ok (.iload_n 1, 1) := by decide +kernel
theorem dJ7_copyOf_59c91_1 : decode cJ7_copyOf_59c91 1 = .ok (.aload_n 0, 1) := by decide +kernel
theorem dJ7_copyOf_59c91_2 : decode cJ7_copyOf_59c91 2 = .ok (.arraylength, 1) := by decide +kernel
theorem dJ7_copyOf_59c91_3 : decode cJ7_copyOf_59c91 3 = .ok (.if_icmp .ne 11, 3) := by decide +kernel
theorem dJ7_copyOf_59c91_6 : decode cJ7_copyOf_59c91 6 = .ok (.aload_n 0, 1) := by decide +kernel
theorem dJ7_copyOf_59c91_7 : decode cJ7_copyOf_59c91 7 = .ok (.invokevirtual 316, 3) := by decide +kernel
theorem dJ7_copyOf_59c91_10 : decode cJ7_copyOf_59c91 10 = .ok (.checkcast 317, 3) := by decide +kernel
theorem dJ7_copyOf_59c91_13 : decode cJ7_copyOf_59c91 13 = .ok (.areturn, 1) := by decide +kernel
theorem dJ7_copyOf_59c91_14 : decode cJ7_copyOf_59c91 14 = .ok (.iload_n 1, 1) := by decide +kernel
theorem dJ7_copyOf_59c91_15 : decode cJ7_copyOf_59c91 15 = .ok (.newarray .int, 2) := by decide +kernel
theorem dJ7_copyOf_59c91_17 : decode cJ7_copyOf_59c91 17 = .ok (.astore_n 2, 1) := by decide +kernel
theorem dJ7_copyOf_59c91_18 : decode cJ7_copyOf_59c91 18 = .ok (.aload_n 0, 1) := by decide +kernel
theorem dJ7_copyOf_59c91_19 : decode cJ7_copyOf_59c91 19 = .ok (.iconst 0, 1) := by decide +kernel
theorem dJ7_copyOf_59c91_20 : decode cJ7_copyOf_59c91 20 = .ok (.aload_n 2, 1) := by decide +kernel
theorem dJ7_copyOf_59c91_21 : decode cJ7_copyOf_59c91 21 = .ok (.iconst 0, 1) := by decide +kernel
theorem dJ7_copyOf_59c91_22 : decode cJ7_copyOf_59c91 22 = .ok (.aload_n 0, 1) := by decide +kernel
theorem dJ7_copyOf_59c91_23 : decode cJ7_copyOf_59c91 23 = .ok (.arraylength, 1) := by decide +kernel
theorem dJ7_copyOf_59c91_24 : decode cJ7_copyOf_59c91 24 = .ok (.iload_n 1, 1) := by decide +kernel
theorem dJ7_copyOf_59c91_25 : decode cJ7_copyOf_59c91 25 = .ok (.invokestatic 304, 3) := by decide +kernel
theorem dJ7_copyOf_59c91_28 : decode cJ7_copyOf_59c91 28 = .ok (.invokestatic 150, 3) := by decide +kernel
theorem dJ7_copyOf_59c91_31 : decode cJ7_copyOf_59c91 31 = .ok (.aload_n 2, 1) := by decide +kernel
theorem dJ7_copyOf_59c91_32 : decode cJ7_copyOf_59c91 32 = .ok (.areturn, 1) := by decide +kernel

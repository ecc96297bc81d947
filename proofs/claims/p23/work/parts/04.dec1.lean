theorem dX3_takeHead_0 : decode cX3_takeHead 0 = .ok (.aload_n 0, 1) := by decide +kernel
theorem dX3_takeHead_1 : decode cX3_takeHead 1 = .ok (.aload_n 1, 1) := by decide +kernel
theorem dX3_takeHead_2 : decode cX3_takeHead 2 = .ok (.iconst 1, 1) := by decide +kernel
theorem dX3_takeHead_3 : decode cX3_takeHead 3 = .ok (.invokevirtual 61, 3) := by decide +kernel
theorem dX3_takeHead_6 : decode cX3_takeHead 6 = .ok (.l2i, 1) := by decide +kernel
theorem dX3_takeHead_7 : decode cX3_takeHead 7 = .ok (.istore_n 2, 1) := by decide +kernel
theorem dX3_takeHead_8 : decode cX3_takeHead 8 = .ok (.aload_n 0, 1) := by decide +kernel
theorem dX3_takeHead_9 : decode cX3_takeHead 9 = .ok (.getfield 32, 3) := by decide +kernel
theorem dX3_takeHead_12 : decode cX3_takeHead 12 = .ok (.ifCond .ne 22, 3) := by decide +kernel
theorem dX3_takeHead_15 : decode cX3_takeHead 15 = .ok (.iload_n 2, 1) := by decide +kernel
theorem dX3_takeHead_16 : decode cX3_takeHead 16 = .ok (.iconst 2, 1) := by decide +kernel
theorem dX3_takeHead_17 : decode cX3_takeHead 17 = .ok (.ishr, 1) := by decide +kernel
theorem dX3_takeHead_18 : decode cX3_takeHead 18 = .ok (.iconst 3, 1) := by decide +kernel
theorem dX3_takeHead_19 : decode cX3_takeHead 19 = .ok (.if_icmp .gt 10, 3) := by decide +kernel
theorem dX3_takeHead_22 : decode cX3_takeHead 22 = .ok (.iload_n 2, 1) := by decide +kernel
theorem dX3_takeHead_23 : decode cX3_takeHead 23 = .ok (.iconst 3, 1) := by decide +kernel
theorem dX3_takeHead_24 : decode cX3_takeHead 24 = .ok (.iand, 1) := by decide +kernel
theorem dX3_takeHead_25 : decode cX3_takeHead 25 = .ok (.iconst 3, 1) := by decide +kernel
theorem dX3_takeHead_26 : decode cX3_takeHead 26 = .ok (.if_icmp .ne 8, 3) := by decide +kernel
theorem dX3_takeHead_29 : decode cX3_takeHead 29 = .ok (.aload_n 0, 1) := by decide +kernel
theorem dX3_takeHead_30 : decode cX3_takeHead 30 = .ok (.iconst 2, 1) := by decide +kernel
theorem dX3_takeHead_31 : decode cX3_takeHead 31 = .ok (.putfield 32, 3) := by decide +kernel
theorem dX3_takeHead_34 : decode cX3_takeHead 34 = .ok (.aload_n 0, 1) := by decide +kernel
theorem dX3_takeHead_35 : decode cX3_takeHead 35 = .ok (.getfield 32, 3) := by decide +kernel
theorem dX3_takeHead_38 : decode cX3_takeHead 38 = .ok (.ifCond .eq 4, 3) := by decide +kernel
theorem dX3_takeHead_41 : decode cX3_takeHead 41 = .ok (.return_, 1) := by decide +kernel
theorem dX3_takeHead_42 : decode cX3_takeHead 42 = .ok (.aload_n 0, 1) := by decide +kernel
theorem dX3_takeHead_43 : decode cX3_takeHead 43 = .ok (.aload_n 1, 1) := by decide +kernel
theorem dX3_takeHead_44 : decode cX3_takeHead 44 = .ok (.iconst 1, 1) := by decide +kernel
theorem dX3_takeHead_45 : decode cX3_takeHead 45 = .ok (.invokevirtual 61, 3) := by decide +kernel
theorem dX3_takeHead_48 : decode cX3_takeHead 48 = .ok (.l2i, 1) := by decide +kernel
theorem dX3_takeHead_49 : decode cX3_takeHead 49 = .ok (.istore_n 3, 1) := by decide +kernel
theorem dX3_takeHead_50 : decode cX3_takeHead 50 = .ok (.aload_n 0, 1) := by decide +kernel
theorem dX3_takeHead_51 : decode cX3_takeHead 51 = .ok (.getfield 32, 3) := by decide +kernel
theorem dX3_takeHead_54 : decode cX3_takeHead 54 = .ok (.ifCond .ne 19, 3) := by decide +kernel
theorem dX3_takeHead_57 : decode cX3_takeHead 57 = .ok (.iload_n 3, 1) := by decide +kernel
theorem dX3_takeHead_58 : decode cX3_takeHead 58 = .ok (.iconst 5, 1) := by decide +kernel
theorem dX3_takeHead_59 : decode cX3_takeHead 59 = .ok (.if_icmp .lt 9, 3) := by decide +kernel
theorem dX3_takeHead_62 : decode cX3_takeHead 62 = .ok (.iload_n 3, 1) := by decide +kernel
theorem dX3_takeHead_63 : decode cX3_takeHead 63 = .ok (.bipush 12, 2) := by decide +kernel
theorem dX3_takeHead_65 : decode cX3_takeHead 65 = .ok (.if_icmp .le 8, 3) := by decide +kernel
theorem dX3_takeHead_68 : decode cX3_takeHead 68 = .ok (.aload_n 0, 1) := by decide +kernel
theorem dX3_takeHead_69 : decode cX3_takeHead 69 = .ok (.iconst 2, 1) := by decide +kernel
theorem dX3_takeHead_70 : decode cX3_takeHead 70 = .ok (.putfield 32, 3) := by decide +kernel
theorem dX3_takeHead_73 : decode cX3_takeHead 73 = .ok (.aload_n 0, 1) := by decide +kernel
theorem dX3_takeHead_74 : decode cX3_takeHead 74 = .ok (.getfield 32, 3) := by decide +kernel
theorem dX3_takeHead_77 : decode cX3_takeHead 77 = .ok (.ifCond .eq 4, 3) := by decide +kernel
theorem dX3_takeHead_80 : decode cX3_takeHead 80 = .ok (.return_, 1) := by decide +kernel
theorem dX3_takeHead_81 : decode cX3_takeHead 81 = .ok (.aload_n 0, 1) := by decide +kernel
theorem dX3_takeHead_82 : decode cX3_takeHead 82 = .ok (.iload_n 2, 1) := by decide +kernel
theorem dX3_takeHead_83 : decode cX3_takeHead 83 = .ok (.iconst 2, 1) := by decide +kernel
theorem dX3_takeHead_84 : decode cX3_takeHead 84 = .ok (.ishr, 1) := by decide +kernel
theorem dX3_takeHead_85 : decode cX3_takeHead 85 = .ok (.putfield 65, 3) := by decide +kernel
theorem dX3_takeHead_88 : decode cX3_takeHead 88 = .ok (.aload_n 0, 1) := by decide +kernel
theorem dX3_takeHead_89 : decode cX3_takeHead 89 = .ok (.iconst 1, 1) := by decide +kernel
theorem dX3_takeHead_90 : decode cX3_takeHead 90 = .ok (.iload_n 2, 1) := by decide +kernel
theorem dX3_takeHead_91 : decode cX3_takeHead 91 = .ok (.iconst 3, 1) := by decide +kernel
theorem dX3_takeHead_92 : decode cX3_takeHead 92 = .ok (.iand, 1) := by decide +kernel
theorem dX3_takeHead_93 : decode cX3_takeHead 93 = .ok (.ishl, 1) := by decide +kernel
theorem dX3_takeHead_94 : decode cX3_takeHead 94 = .ok (.putfield 68, 3) := by decide +kernel
theorem dX3_takeHead_97 : decode cX3_takeHead 97 = .ok (.aload_n 0, 1) := by decide +kernel
theorem dX3_takeHead_98 : decode cX3_takeHead 98 = .ok (.getfield 14, 3) := by decide +kernel
theorem dX3_takeHead_101 : decode cX3_takeHead 101 = .ok (.iload_n 3, 1) := by decide +kernel
theorem dX3_takeHead_102 : decode cX3_takeHead 102 = .ok (.invokevirtual 71, 3) := by decide +kernel
theorem dX3_takeHead_105 : decode cX3_takeHead 105 = .ok (.aload_n 0, 1) := by decide +kernel
theorem dX3_takeHead_106 : decode cX3_takeHead 106 = .ok (.aload_n 0, 1) := by decide +kernel
theorem dX3_takeHead_107 : decode cX3_takeHead 107 = .ok (.aload_n 1, 1) := by decide +kernel
theorem dX3_takeHead_108 : decode cX3_takeHead 108 = .ok (.iconst 2, 1) := by decide +kernel
theorem dX3_takeHead_109 : decode cX3_takeHead 109 = .ok (.invokevirtual 61, 3) := by decide +kernel
theorem dX3_takeHead_112 : decode cX3_takeHead 112 = .ok (.l2i, 1) := by decide +kernel
theorem dX3_takeHead_113 : decode cX3_takeHead 113 = .ok (.putfield 74, 3) := by decide +kernel
theorem dX3_takeHead_116 : decode cX3_takeHead 116 = .ok (.return_, 1) := by decide +kernel
theorem dX3_nextBits_0 : decode cX3_nextBits 0 = .ok (.iconst 0, 1) := by decide +kernel
theorem dX3_nextBits_1 : decode cX3_nextBits 1 = .ok (.istore_n 3, 1) := by decide +kernel
theorem dX3_nextBits_2 : decode cX3_nextBits 2 = .ok (.iconst 0, 1) := by decide +kernel
theorem dX3_nextBits_3 : decode cX3_nextBits 3 = .ok (.istore 4, 2) := by decide +kernel
theorem dX3_nextBits_5 : decode cX3_nextBits 5 = .ok (.iload 4, 2) := by decide +kernel
theorem dX3_nextBits_7 : decode cX3_nextBits 7 = .ok (.iload_n 2, 1) := by decide +kernel
theorem dX3_nextBits_8 : decode cX3_nextBits 8 = .ok (.if_icmp .ge 68, 3) := by decide +kernel
theorem dX3_nextBits_11 : decode cX3_nextBits 11 = .ok (.aload_n 0, 1) := by decide +kernel
theorem dX3_nextBits_12 : decode cX3_nextBits 12 = .ok (.getfield 38, 3) := by decide +kernel
theorem dX3_nextBits_15 : decode cX3_nextBits 15 = .ok (.ifCond .ne 29, 3) := by decide +kernel
theorem dX3_nextBits_18 : decode cX3_nextBits 18 = .ok (.aload_n 0, 1) := by decide +kernel
theorem dX3_nextBits_19 : decode cX3_nextBits 19 = .ok (.aload_n 0, 1) := by decide +kernel
theorem dX3_nextBits_20 : decode cX3_nextBits 20 = .ok (.aload_n 1, 1) := by decide +kernel
theorem dX3_nextBits_21 : decode cX3_nextBits 21 = .ok (.iconst 1, 1) := by decide +kernel
theorem dX3_nextBits_22 : decode cX3_nextBits 22 = .ok (.invokevirtual 61, 3) := by decide +kernel
theorem dX3_nextBits_25 : decode cX3_nextBits 25 = .ok (.l2i, 1) := by decide +kernel
theorem dX3_nextBits_26 : decode cX3_nextBits 26 = .ok (.putfield 167, 3) := by decide +kernel
theorem dX3_nextBits_29 : decode cX3_nextBits 29 = .ok (.aload_n 0, 1) := by decide +kernel
theorem dX3_nextBits_30 : decode cX3_nextBits 30 = .ok (.getfield 32, 3) := by decide +kernel
theorem dX3_nextBits_33 : decode cX3_nextBits 33 = .ok (.ifCond .eq 5, 3) := by decide +kernel
theorem dX3_nextBits_36 : decode cX3_nextBits 36 = .ok (.iconst (-1), 1) := by decide +kernel
theorem dX3_nextBits_37 : decode cX3_nextBits 37 = .ok (.ireturn, 1) := by decide +kernel
theorem dX3_nextBits_38 : decode cX3_nextBits 38 = .ok (.aload_n 0, 1) := by decide +kernel
theorem dX3_nextBits_39 : decode cX3_nextBits 39 = .ok (.bipush 8, 2) := by decide +kernel
theorem dX3_nextBits_41 : decode cX3_nextBits 41 = .ok (.putfield 38, 3) := by decide +kernel
theorem dX3_nextBits_44 : decode cX3_nextBits 44 = .ok (.aload_n 0, 1) := by decide +kernel
theorem dX3_nextBits_45 : decode cX3_nextBits 45 = .ok (.dup, 1) := by decide +kernel
theorem dX3_nextBits_46 : decode cX3_nextBits 46 = .ok (.getfield 38, 3) := by decide +kernel
theorem dX3_nextBits_49 : decode cX3_nextBits 49 = .ok (.iconst 1, 1) := by decide +kernel
theorem dX3_nextBits_50 : decode cX3_nextBits 50 = .ok (.isub, 1) := by decide +kernel
theorem dX3_nextBits_51 : decode cX3_nextBits 51 = .ok (.putfield 38, 3) := by decide +kernel
theorem dX3_nextBits_54 : decode cX3_nextBits 54 = .ok (.iconst 2, 1) := by decide +kernel
theorem dX3_nextBits_55 : decode cX3_nextBits 55 = .ok (.iload_n 3, 1) := by decide +kernel
theorem dX3_nextBits_56 : decode cX3_nextBits 56 = .ok (.imul, 1) := by decide +kernel
theorem dX3_nextBits_57 : decode cX3_nextBits 57 = .ok (.aload_n 0, 1) := by decide +kernel
theorem dX3_nextBits_58 : decode cX3_nextBits 58 = .ok (.getfield 167, 3) := by decide +kernel
theorem dX3_nextBits_61 : decode cX3_nextBits 61 = .ok (.aload_n 0, 1) := by decide +kernel
theorem dX3_nextBits_62 : decode cX3_nextBits 62 = .ok (.getfield 38, 3) := by decide +kernel
theorem dX3_nextBits_65 : decode cX3_nextBits 65 = .ok (.ishr, 1) := by decide +kernel
theorem dX3_nextBits_66 : decode cX3_nextBits 66 = .ok (.iconst 1, 1) := by decide +kernel
theorem dX3_nextBits_67 : decode cX3_nextBits 67 = .ok (.iand, 1) := by decide +kernel
theorem dX3_nextBits_68 : decode cX3_nextBits 68 = .ok (.iadd, 1) := by decide +kernel
theorem dX3_nextBits_69 : decode cX3_nextBits 69 = .ok (.istore_n 3, 1) := by decide +kernel
theorem dX3_nextBits_70 : decode cX3_nextBits 70 = .ok (.iinc 4 1, 3) := by decide +kernel
theorem dX3_nextBits_73 : decode cX3_nextBits 73 = .ok (.goto (-68), 3) := by decide +kernel
theorem dX3_nextBits_76 : decode cX3_nextBits 76 = .ok (.iload_n 3, 1) := by decide +kernel
theorem dX3_nextBits_77 : decode cX3_nextBits 77 = .ok (.ireturn, 1) := by decide +kernel
theorem dX6_isSign_0 : decode cX6_isSign 0 = .ok (.iload_n 0, 1) := by decide +kernel
theorem dX6_isSign_1 : decode cX6_isSign 1 = .ok (.ifCond .lt 13, 3) := by decide +kernel
theorem dX6_isSign_4 : decode cX6_isSign 4 = .ok (.iload_n 0, 1) := by decide +kernel
theorem dX6_isSign_5 : decode cX6_isSign 5 = .ok (.bipush 32, 2) := by decide +kernel
theorem dX6_isSign_7 : decode cX6_isSign 7 = .ok (.if_icmp .ge 7, 3) := by decide +kernel
theorem dX6_isSign_10 : decode cX6_isSign 10 = .ok (.iconst 1, 1) := by decide +kernel
theorem dX6_isSign_11 : decode cX6_isSign 11 = .ok (.goto 4, 3) := by decide +kernel
theorem dX6_isSign_14 : decode cX6_isSign 14 = .ok (.iconst 0, 1) := by decide +kernel
theorem dX6_isSign_15 : decode cX6_isSign 15 = .ok (.ireturn, 1) := by decide +kernel
theorem dX4_give_0 : decode cX4_give 0 = .ok (.iload_n 1, 1) := by decide +kernel
theorem dX4_give_1 : decode cX4_give 1 = .ok (.invokestatic 57, 3) := by decide +kernel
theorem dX4_give_4 : decode cX4_give 4 = .ok (.ifCond .eq 10, 3) := by decide +kernel
theorem dX4_give_7 : decode cX4_give 7 = .ok (.aload_n 0, 1) := by decide +kernel
theorem dX4_give_8 : decode cX4_give 8 = .ok (.getfield 9, 3) := by decide +kernel
theorem dX4_give_11 : decode cX4_give 11 = .ok (.iload_n 1, 1) := by decide +kernel
theorem dX4_give_12 : decode cX4_give 12 = .ok (.iload_n 2, 1) := by decide +kernel
theorem dX4_give_13 : decode cX4_give 13 = .ok (.iastore, 1) := by decide +kernel
theorem dX4_give_14 : decode cX4_give 14 = .ok (.return_, 1) := by decide +kernel
theorem dX3_restIsSet_0 : decode cX3_restIsSet 0 = .ok (.aload_n 0, 1) := by decide +kernel
theorem dX3_restIsSet_1 : decode cX3_restIsSet 1 = .ok (.getfield 167, 3) := by decide +kernel
theorem dX3_restIsSet_4 : decode cX3_restIsSet 4 = .ok (.iconst 1, 1) := by decide +kernel
theorem dX3_restIsSet_5 : decode cX3_restIsSet 5 = .ok (.aload_n 0, 1) := by decide +kernel
theorem dX3_restIsSet_6 : decode cX3_restIsSet 6 = .ok (.getfield 38, 3) := by decide +kernel
theorem dX3_restIsSet_9 : decode cX3_restIsSet 9 = .ok (.ishl, 1) := by decide +kernel
theorem dX3_restIsSet_10 : decode cX3_restIsSet 10 = .ok (.iconst 1, 1) := by decide +kernel
theorem dX3_restIsSet_11 : decode cX3_restIsSet 11 = .ok (.isub, 1) := by decide +kernel
theorem dX3_restIsSet_12 : decode cX3_restIsSet 12 = .ok (.iand, 1) := by decide +kernel
theorem dX3_restIsSet_13 : decode cX3_restIsSet 13 = .ok (.ifCond .eq 7, 3) := by decide +kernel
theorem dX3_restIsSet_16 : decode cX3_restIsSet 16 = .ok (.iconst 1, 1) := by decide +kernel
theorem dX3_restIsSet_17 : decode cX3_restIsSet 17 = .ok (.goto 4, 3) := by decide +kernel
theorem dX3_restIsSet_20 : decode cX3_restIsSet 20 = .ok (.iconst 0, 1) := by decide +kernel
theorem dX3_restIsSet_21 : decode cX3_restIsSet 21 = .ok (.ireturn, 1) := by decide +kernel
theorem dX4_finish_0 : decode cX4_finish 0 = .ok (.iconst 0, 1) := by decide +kernel
theorem dX4_finish_1 : decode cX4_finish 1 = .ok (.istore_n 1, 1) := by decide +kernel
theorem dX4_finish_2 : decode cX4_finish 2 = .ok (.iconst 0, 1) := by decide +kernel
theorem dX4_finish_3 : decode cX4_finish 3 = .ok (.istore_n 2, 1) := by decide +kernel
theorem dX4_finish_4 : decode cX4_finish 4 = .ok (.iload_n 2, 1) := by decide +kernel
theorem dX4_finish_5 : decode cX4_finish 5 = .ok (.bipush 32, 2) := by decide +kernel
theorem dX4_finish_7 : decode cX4_finish 7 = .ok (.if_icmp .ge 25, 3) := by decide +kernel
theorem dX4_finish_10 : decode cX4_finish 10 = .ok (.aload_n 0, 1) := by decide +kernel
theorem dX4_finish_11 : decode cX4_finish 11 = .ok (.getfield 15, 3) := by decide +kernel
theorem dX4_finish_14 : decode cX4_finish 14 = .ok (.iload_n 2, 1) := by decide +kernel
theorem dX4_finish_15 : decode cX4_finish 15 = .ok (.iload_n 1, 1) := by decide +kernel
theorem dX4_finish_16 : decode cX4_finish 16 = .ok (.iastore, 1) := by decide +kernel
theorem dX4_finish_17 : decode cX4_finish 17 = .ok (.iload_n 1, 1) := by decide +kernel
theorem dX4_finish_18 : decode cX4_finish 18 = .ok (.aload_n 0, 1) := by decide +kernel
theorem dX4_finish_19 : decode cX4_finish 19 = .ok (.getfield 9, 3) := by decide +kernel
theorem dX4_finish_22 : decode cX4_finish 22 = .ok (.iload_n 2, 1) := by decide +kernel
theorem dX4_finish_23 : decode cX4_finish 23 = .ok (.iaload, 1) := by decide +kernel
theorem dX4_finish_24 : decode cX4_finish 24 = .ok (.iadd, 1) := by decide +kernel
theorem dX4_finish_25 : decode cX4_finish 25 = .ok (.istore_n 1, 1) := by decide +kernel
theorem dX4_finish_26 : decode cX4_finish 26 = .ok (.iinc 2 1, 3) := by decide +kernel
theorem dX4_finish_29 : decode cX4_finish 29 = .ok (.goto (-25), 3) := by decide +kernel
theorem dX4_finish_32 : decode cX4_finish 32 = .ok (.aload_n 0, 1) := by decide +kernel
theorem dX4_finish_33 : decode cX4_finish 33 = .ok (.getfield 15, 3) := by decide +kernel
theorem dX4_finish_36 : decode cX4_finish 36 = .ok (.bipush 32, 2) := by decide +kernel
theorem dX4_finish_38 : decode cX4_finish 38 = .ok (.iload_n 1, 1) := by decide +kernel
theorem dX4_finish_39 : decode cX4_finish 39 = .ok (.iastore, 1) := by decide +kernel
theorem dX4_finish_40 : decode cX4_finish 40 = .ok (.aload_n 0, 1) := by decide +kernel
theorem dX4_finish_41 : decode cX4_finish 41 = .ok (.iload_n 1, 1) := by decide +kernel
theorem dX4_finish_42 : decode cX4_finish 42 = .ok (.aload_n 0, 1) := by decide +kernel
theorem dX4_finish_43 : decode cX4_finish 43 = .ok (.getfield 38, 3) := by decide +kernel
theorem dX4_finish_46 : decode cX4_finish 46 = .ok (.if_icmp .ne 7, 3) := by decide +kernel
theorem dX4_finish_49 : decode cX4_finish 49 = .ok (.iconst 1, 1) := by decide +kernel
theorem dX4_finish_50 : decode cX4_finish 50 = .ok (.goto 4, 3) := by decide +kernel
theorem dX4_finish_53 : decode cX4_finish 53 = .ok (.iconst 0, 1) := by decide +kernel
theorem dX4_finish_54 : decode cX4_finish 54 = .ok (.putfield 47, 3) := by decide +kernel
theorem dX4_finish_57 : decode cX4_finish 57 = .ok (.return_, 1) := by decide +kernel
theorem dX3_takeTable_0 : decode cX3_takeTable 0 = .ok (.aload_n 0, 1) := by decide +kernel
theorem dX3_takeTable_1 : decode cX3_takeTable 1 = .ok (.getfield 14, 3) := by decide +kernel
theorem dX3_takeTable_4 : decode cX3_takeTable 4 = .ok (.getfield 77, 3) := by decide +kernel
theorem dX3_takeTable_7 : decode cX3_takeTable 7 = .ok (.istore_n 2, 1) := by decide +kernel
theorem dX3_takeTable_8 : decode cX3_takeTable 8 = .ok (.iconst 0, 1) := by decide +kernel
theorem dX3_takeTable_9 : decode cX3_takeTable 9 = .ok (.istore_n 3, 1) := by decide +kernel
theorem dX3_takeTable_10 : decode cX3_takeTable 10 = .ok (.iload_n 3, 1) := by decide +kernel
theorem dX3_takeTable_11 : decode cX3_takeTable 11 = .ok (.bipush 32, 2) := by decide +kernel
theorem dX3_takeTable_13 : decode cX3_takeTable 13 = .ok (.if_icmp .ge 47, 3) := by decide +kernel
theorem dX3_takeTable_16 : decode cX3_takeTable 16 = .ok (.iload_n 2, 1) := by decide +kernel
theorem dX3_takeTable_17 : decode cX3_takeTable 17 = .ok (.ifCond .le 43, 3) := by decide +kernel
theorem dX3_takeTable_20 : decode cX3_takeTable 20 = .ok (.aload_n 0, 1) := by decide +kernel
theorem dX3_takeTable_21 : decode cX3_takeTable 21 = .ok (.aload_n 1, 1) := by decide +kernel
theorem dX3_takeTable_22 : decode cX3_takeTable 22 = .ok (.iload_n 2, 1) := by decide +kernel
theorem dX3_takeTable_23 : decode cX3_takeTable 23 = .ok (.invokestatic 80, 3) := by decide +kernel
theorem dX3_takeTable_26 : decode cX3_takeTable 26 = .ok (.invokevirtual 84, 3) := by decide +kernel
theorem dX3_takeTable_29 : decode cX3_takeTable 29 = .ok (.istore 4, 2) := by decide +kernel
theorem dX3_takeTable_31 : decode cX3_takeTable 31 = .ok (.aload_n 0, 1) := by decide +kernel
theorem dX3_takeTable_32 : decode cX3_takeTable 32 = .ok (.getfield 32, 3) := by decide +kernel
theorem dX3_takeTable_35 : decode cX3_takeTable 35 = .ok (.ifCond .eq 4, 3) := by decide +kernel
theorem dX3_takeTable_38 : decode cX3_takeTable 38 = .ok (.return_, 1) := by decide +kernel
theorem dX3_takeTable_39 : decode cX3_takeTable 39 = .ok (.aload_n 0, 1) := by decide +kernel
theorem dX3_takeTable_40 : decode cX3_takeTable 40 = .ok (.getfield 14, 3) := by decide +kernel
theorem dX3_takeTable_43 : decode cX3_takeTable 43 = .ok (.iload_n 3, 1) := by decide +kernel
theorem dX3_takeTable_44 : decode cX3_takeTable 44 = .ok (.iload 4, 2) := by decide +kernel
theorem dX3_takeTable_46 : decode cX3_takeTable 46 = .ok (.invokevirtual 88, 3) := by decide +kernel
theorem dX3_takeTable_49 : decode cX3_takeTable 49 = .ok (.iload_n 2, 1) := by decide +kernel
theorem dX3_takeTable_50 : decode cX3_takeTable 50 = .ok (.iload 4, 2) := by decide +kernel
theorem dX3_takeTable_52 : decode cX3_takeTable 52 = .ok (.isub, 1) := by decide +kernel
theorem dX3_takeTable_53 : decode cX3_takeTable 53 = .ok (.istore_n 2, 1) := by decide +kernel
theorem dX3_takeTable_54 : decode cX3_takeTable 54 = .ok (.iinc 3 1, 3) := by decide +kernel
theorem dX3_takeTable_57 : decode cX3_takeTable 57 = .ok (.goto (-47), 3) := by decide +kernel
theorem dX3_takeTable_60 : decode cX3_takeTable 60 = .ok (.iload_n 2, 1) := by decide +kernel
theorem dX3_takeTable_61 : decode cX3_takeTable 61 = .ok (.ifCond .ne 10, 3) := by decide +kernel
theorem dX3_takeTable_64 : decode cX3_takeTable 64 = .ok (.aload_n 0, 1) := by decide +kernel
theorem dX3_takeTable_65 : decode cX3_takeTable 65 = .ok (.invokevirtual 92, 3) := by decide +kernel
theorem dX3_takeTable_68 : decode cX3_takeTable 68 = .ok (.ifCond .eq 9, 3) := by decide +kernel
theorem dX3_takeTable_71 : decode cX3_takeTable 71 = .ok (.aload_n 0, 1) := by decide +kernel
theorem dX3_takeTable_72 : decode cX3_takeTable 72 = .ok (.iconst 3, 1) := by decide +kernel
theorem dX3_takeTable_73 : decode cX3_takeTable 73 = .ok (.putfield 32, 3) := by decide +kernel
theorem dX3_takeTable_76 : decode cX3_takeTable 76 = .ok (.return_, 1) := by decide +kernel
theorem dX3_takeTable_77 : decode cX3_takeTable 77 = .ok (.aload_n 0, 1) := by decide +kernel
theorem dX3_takeTable_78 : decode cX3_takeTable 78 = .ok (.iconst 0, 1) := by decide +kernel
theorem dX3_takeTable_79 : decode cX3_takeTable 79 = .ok (.putfield 38, 3) := by decide +kernel
theorem dX3_takeTable_82 : decode cX3_takeTable 82 = .ok (.aload_n 0, 1) := by decide +kernel
theorem dX3_takeTable_83 : decode cX3_takeTable 83 = .ok (.getfield 14, 3) := by decide +kernel
theorem dX3_takeTable_86 : decode cX3_takeTable 86 = .ok (.invokevirtual 96, 3) := by decide +kernel
theorem dX3_takeTable_89 : decode cX3_takeTable 89 = .ok (.return_, 1) := by decide +kernel
theorem dX6_firstState_0 : decode cX6_firstState 0 = .ok (.iload_n 0, 1) := by decide +kernel
theorem dX6_firstState_1 : decode cX6_firstState 1 = .ok (.iconst 2, 1) := by decide +kernel
theorem dX6_firstState_2 : decode cX6_firstState 2 = .ok (.if_icmp .ne 6, 3) := by decide +kernel
theorem dX6_firstState_5 : decode cX6_firstState 5 = .ok (.iload_n 1, 1) := by decide +kernel
theorem dX6_firstState_6 : decode cX6_firstState 6 = .ok (.i2l, 1) := by decide +kernel
theorem dX6_firstState_7 : decode cX6_firstState 7 = .ok (.lreturn, 1) := by decide +kernel
theorem dX6_firstState_8 : decode cX6_firstState 8 = .ok (.iload_n 0, 1) := by decide +kernel
theorem dX6_firstState_9 : decode cX6_firstState 9 = .ok (.iconst 1, 1) := by decide +kernel
theorem dX6_firstState_10 : decode cX6_firstState 10 = .ok (.if_icmp .ne 9, 3) := by decide +kernel
theorem dX6_firstState_13 : decode cX6_firstState 13 = .ok (.ldc2_w 180, 3) := by decide +kernel
theorem dX6_firstState_16 : decode cX6_firstState 16 = .ok (.goto 6, 3) := by decide +kernel
theorem dX6_firstState_19 : decode cX6_firstState 19 = .ok (.ldc2_w 182, 3) := by decide +kernel
theorem dX6_firstState_22 : decode cX6_firstState 22 = .ok (.lreturn, 1) := by decide +kernel
theorem dX6_lastState_0 : decode cX6_lastState 0 = .ok (.iload_n 0, 1) := by decide +kernel
theorem dX6_lastState_1 : decode cX6_lastState 1 = .ok (.iconst 2, 1) := by decide +kernel
theorem dX6_lastState_2 : decode cX6_lastState 2 = .ok (.if_icmp .ne 12, 3) := by decide +kernel
theorem dX6_lastState_5 : decode cX6_lastState 5 = .ok (.ldc2_w 184, 3) := by decide +kernel
theorem dX6_lastState_8 : decode cX6_lastState 8 = .ok (.iload_n 1, 1) := by decide +kernel
theorem dX6_lastState_9 : decode cX6_lastState 9 = .ok (.i2l, 1) := by decide +kernel
theorem dX6_lastState_10 : decode cX6_lastState 10 = .ok (.lmul, 1) := by decide +kernel
theorem dX6_lastState_11 : decode cX6_lastState 11 = .ok (.lconst 1, 1) := by decide +kernel
theorem dX6_lastState_12 : decode cX6_lastState 12 = .ok (.lsub, 1) := by decide +kernel
theorem dX6_lastState_13 : decode cX6_lastState 13 = .ok (.lreturn, 1) := by decide +kernel
theorem dX6_lastState_14 : decode cX6_lastState 14 = .ok (.iload_n 0, 1) := by decide +kernel
theorem dX6_lastState_15 : decode cX6_lastState 15 = .ok (.iconst 1, 1) := by decide +kernel
theorem dX6_lastState_16 : decode cX6_lastState 16 = .ok (.if_icmp .ne 9, 3) := by decide +kernel
theorem dX6_lastState_19 : decode cX6_lastState 19 = .ok (.ldc2_w 186, 3) := by decide +kernel
theorem dX6_lastState_22 : decode cX6_lastState 22 = .ok (.goto 6, 3) := by decide +kernel
theorem dX6_lastState_25 : decode cX6_lastState 25 = .ok (.ldc2_w 188, 3) := by decide +kernel
theorem dX6_lastState_28 : decode cX6_lastState 28 = .ok (.lreturn, 1) := by decide +kernel
theorem dX6_stateWidth_0 : decode cX6_stateWidth 0 = .ok (.iload_n 0, 1) := by decide +kernel
theorem dX6_stateWidth_1 : decode cX6_stateWidth 1 = .ok (.iconst 2, 1) := by decide +kernel
theorem dX6_stateWidth_2 : decode cX6_stateWidth 2 = .ok (.if_icmp .ne 5, 3) := by decide +kernel
theorem dX6_stateWidth_5 : decode cX6_stateWidth 5 = .ok (.iconst 2, 1) := by decide +kernel
theorem dX6_stateWidth_6 : decode cX6_stateWidth 6 = .ok (.ireturn, 1) := by decide +kernel
theorem dX6_stateWidth_7 : decode cX6_stateWidth 7 = .ok (.iload_n 0, 1) := by decide +kernel
theorem dX6_stateWidth_8 : decode cX6_stateWidth 8 = .ok (.iconst 1, 1) := by decide +kernel
theorem dX6_stateWidth_9 : decode cX6_stateWidth 9 = .ok (.if_icmp .ne 8, 3) := by decide +kernel
theorem dX6_stateWidth_12 : decode cX6_stateWidth 12 = .ok (.bipush 8, 2) := by decide +kernel
theorem dX6_stateWidth_14 : decode cX6_stateWidth 14 = .ok (.goto 4, 3) := by decide +kernel
theorem dX6_stateWidth_17 : decode cX6_stateWidth 17 = .ok (.iconst 4, 1) := by decide +kernel
theorem dX6_stateWidth_18 : decode cX6_stateWidth 18 = .ok (.ireturn, 1) := by decide +kernel
theorem dX3_takeStates_0 : decode cX3_takeStates 0 = .ok (.aload_n 0, 1) := by decide +kernel
theorem dX3_takeStates_1 : decode cX3_takeStates 1 = .ok (.getfield 65, 3) := by decide +kernel
theorem dX3_takeStates_4 : decode cX3_takeStates 4 = .ok (.aload_n 0, 1) := by decide +kernel
theorem dX3_takeStates_5 : decode cX3_takeStates 5 = .ok (.getfield 14, 3) := by decide +kernel
theorem dX3_takeStates_8 : decode cX3_takeStates 8 = .ok (.getfield 77, 3) := by decide +kernel
theorem dX3_takeStates_11 : decode cX3_takeStates 11 = .ok (.invokestatic 99, 3) := by decide +kernel
theorem dX3_takeStates_14 : decode cX3_takeStates 14 = .ok (.lstore_n 2, 1) := by decide +kernel
theorem dX3_takeStates_15 : decode cX3_takeStates 15 = .ok (.aload_n 0, 1) := by decide +kernel
theorem dX3_takeStates_16 : decode cX3_takeStates 16 = .ok (.getfield 65, 3) := by decide +kernel
theorem dX3_takeStates_19 : decode cX3_takeStates 19 = .ok (.aload_n 0, 1) := by decide +kernel
theorem dX3_takeStates_20 : decode cX3_takeStates 20 = .ok (.getfield 14, 3) := by decide +kernel
theorem dX3_takeStates_23 : decode cX3_takeStates 23 = .ok (.getfield 77, 3) := by decide +kernel
theorem dX3_takeStates_26 : decode cX3_takeStates 26 = .ok (.invokestatic 103, 3) := by decide +kernel
theorem dX3_takeStates_29 : decode cX3_takeStates 29 = .ok (.lstore 4, 2) := by decide +kernel
theorem dX3_takeStates_31 : decode cX3_takeStates 31 = .ok (.iconst 0, 1) := by decide +kernel
theorem dX3_takeStates_32 : decode cX3_takeStates 32 = .ok (.istore 6, 2) := by decide +kernel
theorem dX3_takeStates_34 : decode cX3_takeStates 34 = .ok (.iload 6, 2) := by decide +kernel
theorem dX3_takeStates_36 : decode cX3_takeStates 36 = .ok (.aload_n 0, 1) := by decide +kernel
theorem dX3_takeStates_37 : decode cX3_takeStates 37 = .ok (.getfield 68, 3) := by decide +kernel
theorem dX3_takeStates_40 : decode cX3_takeStates 40 = .ok (.if_icmp .ge 79, 3) := by decide +kernel
theorem dX3_takeStates_43 : decode cX3_takeStates 43 = .ok (.iload 6, 2) := by decide +kernel
theorem dX3_takeStates_45 : decode cX3_takeStates 45 = .ok (.iconst 4, 1) := by decide +kernel
theorem dX3_takeStates_46 : decode cX3_takeStates 46 = .ok (.if_icmp .ge 73, 3) := by decide +kernel
theorem dX3_takeStates_49 : decode cX3_takeStates 49 = .ok (.aload_n 0, 1) := by decide +kernel
theorem dX3_takeStates_50 : decode cX3_takeStates 50 = .ok (.getfield 20, 3) := by decide +kernel
theorem dX3_takeStates_53 : decode cX3_takeStates 53 = .ok (.iload 6, 2) := by decide +kernel
theorem dX3_takeStates_55 : decode cX3_takeStates 55 = .ok (.aload_n 0, 1) := by decide +kernel
theorem dX3_takeStates_56 : decode cX3_takeStates 56 = .ok (.aload_n 1, 1) := by decide +kernel
theorem dX3_takeStates_57 : decode cX3_takeStates 57 = .ok (.aload_n 0, 1) := by decide +kernel
theorem dX3_takeStates_58 : decode cX3_takeStates 58 = .ok (.getfield 65, 3) := by decide +kernel
theorem dX3_takeStates_61 : decode cX3_takeStates 61 = .ok (.invokestatic 106, 3) := by decide +kernel
theorem dX3_takeStates_64 : decode cX3_takeStates 64 = .ok (.invokevirtual 61, 3) := by decide +kernel
theorem dX3_takeStates_67 : decode cX3_takeStates 67 = .ok (.lastore, 1) := by decide +kernel
theorem dX3_takeStates_68 : decode cX3_takeStates 68 = .ok (.aload_n 0, 1) := by decide +kernel
theorem dX3_takeStates_69 : decode cX3_takeStates 69 = .ok (.getfield 32, 3) := by decide +kernel
theorem dX3_takeStates_72 : decode cX3_takeStates 72 = .ok (.ifCond .ne 33, 3) := by decide +kernel
theorem dX3_takeStates_75 : decode cX3_takeStates 75 = .ok (.aload_n 0, 1) := by decide +kernel
theorem dX3_takeStates_76 : decode cX3_takeStates 76 = .ok (.getfield 20, 3) := by decide +kernel
theorem dX3_takeStates_79 : decode cX3_takeStates 79 = .ok (.iload 6, 2) := by decide +kernel
theorem dX3_takeStates_81 : decode cX3_takeStates 81 = .ok (.laload, 1) := by decide +kernel
theorem dX3_takeStates_82 : decode cX3_takeStates 82 = .ok (.lload_n 2, 1) := by decide +kernel
theorem dX3_takeStates_83 : decode cX3_takeStates 83 = .ok (.lcmp, 1) := by decide +kernel
theorem dX3_takeStates_84 : decode cX3_takeStates 84 = .ok (.ifCond .lt 16, 3) := by decide +kernel
theorem dX3_takeStates_87 : decode cX3_takeStates 87 = .ok (.aload_n 0, 1) := by decide +kernel
theorem dX3_takeStates_88 : decode cX3_takeStates 88 = .ok (.getfield 20, 3) := by decide +kernel
theorem dX3_takeStates_91 : decode cX3_takeStates 91 = .ok (.iload 6, 2) := by decide +kernel
theorem dX3_takeStates_93 : decode cX3_takeStates 93 = .ok (.laload, 1) := by decide +kernel
theorem dX3_takeStates_94 : decode cX3_takeStates 94 = .ok (.lload 4, 2) := by decide +kernel
theorem dX3_takeStates_96 : decode cX3_takeStates 96 = .ok (.lcmp, 1) := by decide +kernel
theorem dX3_takeStates_97 : decode cX3_takeStates 97 = .ok (.ifCond .le 8, 3) := by decide +kernel
theorem dX3_takeStates_100 : decode cX3_takeStates 100 = .ok (.aload_n 0, 1) := by decide +kernel
theorem dX3_takeStates_101 : decode cX3_takeStates 101 = .ok (.iconst 4, 1) := by decide +kernel
theorem dX3_takeStates_102 : decode cX3_takeStates 102 = .ok (.putfield 32, 3) := by decide +kernel
theorem dX3_takeStates_105 : decode cX3_takeStates 105 = .ok (.aload_n 0, 1) := by decide +kernel
theorem dX3_takeStates_106 : decode cX3_takeStates 106 = .ok (.getfield 32, 3) := by decide +kernel
theorem dX3_takeStates_109 : decode cX3_takeStates 109 = .ok (.ifCond .eq 4, 3) := by decide +kernel
theorem dX3_takeStates_112 : decode cX3_takeStates 112 = .ok (.return_, 1) := by decide +kernel
theorem dX3_takeStates_113 : decode cX3_takeStates 113 = .ok (.iinc 6 1, 3) := by decide +kernel
theorem dX3_takeStates_116 : decode cX3_takeStates 116 = .ok (.goto (-82), 3) := by decide +kernel
theorem dX3_takeStates_119 : decode cX3_takeStates 119 = .ok (.aload_n 0, 1) := by decide +kernel
theorem dX3_takeStates_120 : decode cX3_takeStates 120 = .ok (.iconst 1, 1) := by decide +kernel
theorem dX3_takeStates_121 : decode cX3_takeStates 121 = .ok (.putfield 41, 3) := by decide +kernel
theorem dX3_takeStates_124 : decode cX3_takeStates 124 = .ok (.return_, 1) := by decide +kernel
theorem dX4_numberPlaces_0 : decode cX4_numberPlaces 0 = .ok (.aload_n 0, 1) := by decide +kernel
theorem dX4_numberPlaces_1 : decode cX4_numberPlaces 1 = .ok (.getfield 22, 3) := by decide +kernel
theorem dX4_numberPlaces_4 : decode cX4_numberPlaces 4 = .ok (.iconst 0, 1) := by decide +kernel
theorem dX4_numberPlaces_5 : decode cX4_numberPlaces 5 = .ok (.invokestatic 41, 3) := by decide +kernel
theorem dX4_numberPlaces_8 : decode cX4_numberPlaces 8 = .ok (.iconst 0, 1) := by decide +kernel
theorem dX4_numberPlaces_9 : decode cX4_numberPlaces 9 = .ok (.istore_n 1, 1) := by decide +kernel
theorem dX4_numberPlaces_10 : decode cX4_numberPlaces 10 = .ok (.iload_n 1, 1) := by decide +kernel
theorem dX4_numberPlaces_11 : decode cX4_numberPlaces 11 = .ok (.aload_n 0, 1) := by decide +kernel
theorem dX4_numberPlaces_12 : decode cX4_numberPlaces 12 = .ok (.getfield 38, 3) := by decide +kernel
theorem dX4_numberPlaces_15 : decode cX4_numberPlaces 15 = .ok (.if_icmp .ge 84, 3) := by decide +kernel
theorem dX4_numberPlaces_18 : decode cX4_numberPlaces 18 = .ok (.iload_n 1, 1) := by decide +kernel
theorem dX4_numberPlaces_19 : decode cX4_numberPlaces 19 = .ok (.aload_n 0, 1) := by decide +kernel
theorem dX4_numberPlaces_20 : decode cX4_numberPlaces 20 = .ok (.getfield 25, 3) := by decide +kernel
theorem dX4_numberPlaces_23 : decode cX4_numberPlaces 23 = .ok (.arraylength, 1) := by decide +kernel
theorem dX4_numberPlaces_24 : decode cX4_numberPlaces 24 = .ok (.if_icmp .ge 75, 3) := by decide +kernel
theorem dX4_numberPlaces_27 : decode cX4_numberPlaces 27 = .ok (.aload_n 0, 1) := by decide +kernel
theorem dX4_numberPlaces_28 : decode cX4_numberPlaces 28 = .ok (.getfield 25, 3) := by decide +kernel
theorem dX4_numberPlaces_31 : decode cX4_numberPlaces 31 = .ok (.iload_n 1, 1) := by decide +kernel
theorem dX4_numberPlaces_32 : decode cX4_numberPlaces 32 = .ok (.iaload, 1) := by decide +kernel
theorem dX4_numberPlaces_33 : decode cX4_numberPlaces 33 = .ok (.istore_n 2, 1) := by decide +kernel
theorem dX4_numberPlaces_34 : decode cX4_numberPlaces 34 = .ok (.aload_n 0, 1) := by decide +kernel
theorem dX4_numberPlaces_35 : decode cX4_numberPlaces 35 = .ok (.getfield 15, 3) := by decide +kernel
theorem dX4_numberPlaces_38 : decode cX4_numberPlaces 38 = .ok (.iload_n 2, 1) := by decide +kernel
theorem dX4_numberPlaces_39 : decode cX4_numberPlaces 39 = .ok (.iaload, 1) := by decide +kernel
theorem dX4_numberPlaces_40 : decode cX4_numberPlaces 40 = .ok (.aload_n 0, 1) := by decide +kernel
theorem dX4_numberPlaces_41 : decode cX4_numberPlaces 41 = .ok (.getfield 22, 3) := by decide +kernel
theorem dX4_numberPlaces_44 : decode cX4_numberPlaces 44 = .ok (.iload_n 2, 1) := by decide +kernel
theorem dX4_numberPlaces_45 : decode cX4_numberPlaces 45 = .ok (.iaload, 1) := by decide +kernel
theorem dX4_numberPlaces_46 : decode cX4_numberPlaces 46 = .ok (.iadd, 1) := by decide +kernel
theorem dX4_numberPlaces_47 : decode cX4_numberPlaces 47 = .ok (.istore_n 3, 1) := by decide +kernel
theorem dX4_numberPlaces_48 : decode cX4_numberPlaces 48 = .ok (.aload_n 0, 1) := by decide +kernel
theorem dX4_numberPlaces_49 : decode cX4_numberPlaces 49 = .ok (.getfield 28, 3) := by decide +kernel
theorem dX4_numberPlaces_52 : decode cX4_numberPlaces 52 = .ok (.iload_n 1, 1) := by decide +kernel
theorem dX4_numberPlaces_53 : decode cX4_numberPlaces 53 = .ok (.aload_n 0, 1) := by decide +kernel
theorem dX4_numberPlaces_54 : decode cX4_numberPlaces 54 = .ok (.getfield 9, 3) := by decide +kernel
theorem dX4_numberPlaces_57 : decode cX4_numberPlaces 57 = .ok (.iload_n 2, 1) := by decide +kernel
theorem dX4_numberPlaces_58 : decode cX4_numberPlaces 58 = .ok (.iaload, 1) := by decide +kernel
theorem dX4_numberPlaces_59 : decode cX4_numberPlaces 59 = .ok (.aload_n 0, 1) := by decide +kernel
theorem dX4_numberPlaces_60 : decode cX4_numberPlaces 60 = .ok (.getfield 22, 3) := by decide +kernel
theorem dX4_numberPlaces_63 : decode cX4_numberPlaces 63 = .ok (.iload_n 2, 1) := by decide +kernel
theorem dX4_numberPlaces_64 : decode cX4_numberPlaces 64 = .ok (.iaload, 1) := by decide +kernel
theorem dX4_numberPlaces_65 : decode cX4_numberPlaces 65 = .ok (.iadd, 1) := by decide +kernel
theorem dX4_numberPlaces_66 : decode cX4_numberPlaces 66 = .ok (.iastore, 1) := by decide +kernel
theorem dX4_numberPlaces_67 : decode cX4_numberPlaces 67 = .ok (.iload_n 3, 1) := by decide +kernel
theorem dX4_numberPlaces_68 : decode cX4_numberPlaces 68 = .ok (.aload_n 0, 1) := by decide +kernel
theorem dX4_numberPlaces_69 : decode cX4_numberPlaces 69 = .ok (.getfield 31, 3) := by decide +kernel
theorem dX4_numberPlaces_72 : decode cX4_numberPlaces 72 = .ok (.arraylength, 1) := by decide +kernel
theorem dX4_numberPlaces_73 : decode cX4_numberPlaces 73 = .ok (.if_icmp .ge 10, 3) := by decide +kernel
theorem dX4_numberPlaces_76 : decode cX4_numberPlaces 76 = .ok (.aload_n 0, 1) := by decide +kernel
theorem dX4_numberPlaces_77 : decode cX4_numberPlaces 77 = .ok (.getfield 31, 3) := by decide +kernel
theorem dX4_numberPlaces_80 : decode cX4_numberPlaces 80 = .ok (.iload_n 3, 1) := by decide +kernel
theorem dX4_numberPlaces_81 : decode cX4_numberPlaces 81 = .ok (.iload_n 1, 1) := by decide +kernel
theorem dX4_numberPlaces_82 : decode cX4_numberPlaces 82 = .ok (.iastore, 1) := by decide +kernel
theorem dX4_numberPlaces_83 : decode cX4_numberPlaces 83 = .ok (.aload_n 0, 1) := by decide +kernel
theorem dX4_numberPlaces_84 : decode cX4_numberPlaces 84 = .ok (.getfield 22, 3) := by decide +kernel
theorem dX4_numberPlaces_87 : decode cX4_numberPlaces 87 = .ok (.iload_n 2, 1) := by decide +kernel
theorem dX4_numberPlaces_88 : decode cX4_numberPlaces 88 = .ok (.dup2, 1) := by decide +kernel
theorem dX4_numberPlaces_89 : decode cX4_numberPlaces 89 = .ok (.iaload, 1) := by decide +kernel
theorem dX4_numberPlaces_90 : decode cX4_numberPlaces 90 = .ok (.iconst 1, 1) := by decide +kernel
theorem dX4_numberPlaces_91 : decode cX4_numberPlaces 91 = .ok (.iadd, 1) := by decide +kernel
theorem dX4_numberPlaces_92 : decode cX4_numberPlaces 92 = .ok (.iastore, 1) := by decide +kernel
theorem dX4_numberPlaces_93 : decode cX4_numberPlaces 93 = .ok (.iinc 1 1, 3) := by decide +kernel
theorem dX4_numberPlaces_96 : decode cX4_numberPlaces 96 = .ok (.goto (-86), 3) := by decide +kernel
theorem dX4_numberPlaces_99 : decode cX4_numberPlaces 99 = .ok (.return_, 1) := by decide +kernel
theorem dX4_makeSpread_0 : decode cX4_makeSpread 0 = .ok (.aload_n 0, 1) := by decide +kernel
theorem dX4_makeSpread_1 : decode cX4_makeSpread 1 = .ok (.getfield 51, 3) := by decide +kernel
theorem dX4_makeSpread_4 : decode cX4_makeSpread 4 = .ok (.ifCond .eq 4, 3) := by decide +kernel
theorem dX4_makeSpread_7 : decode cX4_makeSpread 7 = .ok (.return_, 1) := by decide +kernel
theorem dX4_makeSpread_8 : decode cX4_makeSpread 8 = .ok (.aload_n 0, 1) := by decide +kernel
theorem dX4_makeSpread_9 : decode cX4_makeSpread 9 = .ok (.getfield 25, 3) := by decide +kernel
theorem dX4_makeSpread_12 : decode cX4_makeSpread 12 = .ok (.arraylength, 1) := by decide +kernel
theorem dX4_makeSpread_13 : decode cX4_makeSpread 13 = .ok (.aload_n 0, 1) := by decide +kernel
theorem dX4_makeSpread_14 : decode cX4_makeSpread 14 = .ok (.getfield 38, 3) := by decide +kernel
theorem dX4_makeSpread_17 : decode cX4_makeSpread 17 = .ok (.if_icmp .ge 33, 3) := by decide +kernel
theorem dX4_makeSpread_20 : decode cX4_makeSpread 20 = .ok (.aload_n 0, 1) := by decide +kernel
theorem dX4_makeSpread_21 : decode cX4_makeSpread 21 = .ok (.aload_n 0, 1) := by decide +kernel
theorem dX4_makeSpread_22 : decode cX4_makeSpread 22 = .ok (.getfield 38, 3) := by decide +kernel
theorem dX4_makeSpread_25 : decode cX4_makeSpread 25 = .ok (.newarray .int, 2) := by decide +kernel
theorem dX4_makeSpread_27 : decode cX4_makeSpread 27 = .ok (.putfield 25, 3) := by decide +kernel
theorem dX4_makeSpread_30 : decode cX4_makeSpread 30 = .ok (.aload_n 0, 1) := by decide +kernel
theorem dX4_makeSpread_31 : decode cX4_makeSpread 31 = .ok (.aload_n 0, 1) := by decide +kernel
theorem dX4_makeSpread_32 : decode cX4_makeSpread 32 = .ok (.getfield 38, 3) := by decide +kernel
theorem dX4_makeSpread_35 : decode cX4_makeSpread 35 = .ok (.newarray .int, 2) := by decide +kernel
theorem dX4_makeSpread_37 : decode cX4_makeSpread 37 = .ok (.putfield 28, 3) := by decide +kernel
theorem dX4_makeSpread_40 : decode cX4_makeSpread 40 = .ok (.aload_n 0, 1) := by decide +kernel
theorem dX4_makeSpread_41 : decode cX4_makeSpread 41 = .ok (.aload_n 0, 1) := by decide +kernel
theorem dX4_makeSpread_42 : decode cX4_makeSpread 42 = .ok (.getfield 38, 3) := by decide +kernel
theorem dX4_makeSpread_45 : decode cX4_makeSpread 45 = .ok (.newarray .int, 2) := by decide +kernel
theorem dX4_makeSpread_47 : decode cX4_makeSpread 47 = .ok (.putfield 31, 3) := by decide +kernel
theorem dX4_makeSpread_50 : decode cX4_makeSpread 50 = .ok (.aload_n 0, 1) := by decide +kernel
theorem dX4_makeSpread_51 : decode cX4_makeSpread 51 = .ok (.getfield 38, 3) := by decide +kernel
theorem dX4_makeSpread_54 : decode cX4_makeSpread 54 = .ok (.iconst 2, 1) := by decide +kernel
theorem dX4_makeSpread_55 : decode cX4_makeSpread 55 = .ok (.idiv, 1) := by decide +kernel
theorem dX4_makeSpread_56 : decode cX4_makeSpread 56 = .ok (.aload_n 0, 1) := by decide +kernel
theorem dX4_makeSpread_57 : decode cX4_makeSpread 57 = .ok (.getfield 38, 3) := by decide +kernel
theorem dX4_makeSpread_60 : decode cX4_makeSpread 60 = .ok (.bipush 8, 2) := by decide +kernel
theorem dX4_makeSpread_62 : decode cX4_makeSpread 62 = .ok (.idiv, 1) := by decide +kernel
theorem dX4_makeSpread_63 : decode cX4_makeSpread 63 = .ok (.iadd, 1) := by decide +kernel
theorem dX4_makeSpread_64 : decode cX4_makeSpread 64 = .ok (.iconst 3, 1) := by decide +kernel
theorem dX4_makeSpread_65 : decode cX4_makeSpread 65 = .ok (.iadd, 1) := by decide +kernel
theorem dX4_makeSpread_66 : decode cX4_makeSpread 66 = .ok (.istore_n 1, 1) := by decide +kernel
theorem dX4_makeSpread_67 : decode cX4_makeSpread 67 = .ok (.iconst 0, 1) := by decide +kernel
theorem dX4_makeSpread_68 : decode cX4_makeSpread 68 = .ok (.istore_n 2, 1) := by decide +kernel
theorem dX4_makeSpread_69 : decode cX4_makeSpread 69 = .ok (.iconst 0, 1) := by decide +kernel
theorem dX4_makeSpread_70 : decode cX4_makeSpread 70 = .ok (.istore_n 3, 1) := by decide +kernel
theorem dX4_makeSpread_71 : decode cX4_makeSpread 71 = .ok (.iload_n 3, 1) := by decide +kernel
theorem dX4_makeSpread_72 : decode cX4_makeSpread 72 = .ok (.bipush 32, 2) := by decide +kernel
theorem dX4_makeSpread_74 : decode cX4_makeSpread 74 = .ok (.if_icmp .ge 56, 3) := by decide +kernel
theorem dX4_makeSpread_77 : decode cX4_makeSpread 77 = .ok (.iconst 0, 1) := by decide +kernel
theorem dX4_makeSpread_78 : decode cX4_makeSpread 78 = .ok (.istore 4, 2) := by decide +kernel
theorem dX4_makeSpread_80 : decode cX4_makeSpread 80 = .ok (.iload 4, 2) := by decide +kernel
theorem dX4_makeSpread_82 : decode cX4_makeSpread 82 = .ok (.aload_n 0, 1) := by decide +kernel
theorem dX4_makeSpread_83 : decode cX4_makeSpread 83 = .ok (.getfield 9, 3) := by decide +kernel
theorem dX4_makeSpread_86 : decode cX4_makeSpread 86 = .ok (.iload_n 3, 1) := by decide +kernel
theorem dX4_makeSpread_87 : decode cX4_makeSpread 87 = .ok (.iaload, 1) := by decide +kernel
theorem dX4_makeSpread_88 : decode cX4_makeSpread 88 = .ok (.if_icmp .ge 36, 3) := by decide +kernel
theorem dX4_makeSpread_91 : decode cX4_makeSpread 91 = .ok (.iload 4, 2) := by decide +kernel
theorem dX4_makeSpread_93 : decode cX4_makeSpread 93 = .ok (.aload_n 0, 1) := by decide +kernel
theorem dX4_makeSpread_94 : decode cX4_makeSpread 94 = .ok (.getfield 38, 3) := by decide +kernel
theorem dX4_makeSpread_97 : decode cX4_makeSpread 97 = .ok (.if_icmp .ge 27, 3) := by decide +kernel
theorem dX4_makeSpread_100 : decode cX4_makeSpread 100 = .ok (.aload_n 0, 1) := by decide +kernel
theorem dX4_makeSpread_101 : decode cX4_makeSpread 101 = .ok (.getfield 25, 3) := by decide +kernel
theorem dX4_makeSpread_104 : decode cX4_makeSpread 104 = .ok (.iload_n 2, 1) := by decide +kernel
theorem dX4_makeSpread_105 : decode cX4_makeSpread 105 = .ok (.iload_n 3, 1) := by decide +kernel
theorem dX4_makeSpread_106 : decode cX4_makeSpread 106 = .ok (.iastore, 1) := by decide +kernel
theorem dX4_makeSpread_107 : decode cX4_makeSpread 107 = .ok (.iload_n 2, 1) := by decide +kernel
theorem dX4_makeSpread_108 : decode cX4_makeSpread 108 = .ok (.iload_n 1, 1) := by decide +kernel
theorem dX4_makeSpread_109 : decode cX4_makeSpread 109 = .ok (.iadd, 1) := by decide +kernel
theorem dX4_makeSpread_110 : decode cX4_makeSpread 110 = .ok (.aload_n 0, 1) := by decide +kernel
theorem dX4_makeSpread_111 : decode cX4_makeSpread 111 = .ok (.getfield 38, 3) := by decide +kernel
theorem dX4_makeSpread_114 : decode cX4_makeSpread 114 = .ok (.iconst 1, 1) := by decide +kernel
theorem dX4_makeSpread_115 : decode cX4_makeSpread 115 = .ok (.isub, 1) := by decide +kernel
theorem dX4_makeSpread_116 : decode cX4_makeSpread 116 = .ok (.iand, 1) := by decide +kernel
theorem dX4_makeSpread_117 : decode cX4_makeSpread 117 = .ok (.istore_n 2, 1) := by decide +kernel
theorem dX4_makeSpread_118 : decode cX4_makeSpread 118 = .ok (.iinc 4 1, 3) := by decide +kernel
theorem dX4_makeSpread_121 : decode cX4_makeSpread 121 = .ok (.goto (-41), 3) := by decide +kernel
theorem dX4_makeSpread_124 : decode cX4_makeSpread 124 = .ok (.iinc 3 1, 3) := by decide +kernel
theorem dX4_makeSpread_127 : decode cX4_makeSpread 127 = .ok (.goto (-56), 3) := by decide +kernel
theorem dX4_makeSpread_130 : decode cX4_makeSpread 130 = .ok (.aload_n 0, 1) := by decide +kernel
theorem dX4_makeSpread_131 : decode cX4_makeSpread 131 = .ok (.invokevirtual 87, 3) := by decide +kernel
theorem dX4_makeSpread_134 : decode cX4_makeSpread 134 = .ok (.aload_n 0, 1) := by decide +kernel
theorem dX4_makeSpread_135 : decode cX4_makeSpread 135 = .ok (.iconst 1, 1) := by decide +kernel
theorem dX4_makeSpread_136 : decode cX4_makeSpread 136 = .ok (.putfield 51, 3) := by decide +kernel
theorem dX4_makeSpread_139 : decode cX4_makeSpread 139 = .ok (.return_, 1) := by decide +kernel
theorem dX3_restOf_0 : decode cX3_restOf 0 = .ok (.aload_n 0, 1) := by decide +kernel
theorem dX3_restOf_1 : decode cX3_restOf 1 = .ok (.getfield 20, 3) := by decide +kernel
theorem dX3_restOf_4 : decode cX3_restOf 4 = .ok (.iload_n 1, 1) := by decide +kernel
theorem dX3_restOf_5 : decode cX3_restOf 5 = .ok (.laload, 1) := by decide +kernel
theorem dX3_restOf_6 : decode cX3_restOf 6 = .ok (.l2i, 1) := by decide +kernel
theorem dX3_restOf_7 : decode cX3_restOf 7 = .ok (.aload_n 0, 1) := by decide +kernel
theorem dX3_restOf_8 : decode cX3_restOf 8 = .ok (.getfield 14, 3) := by decide +kernel
theorem dX3_restOf_11 : decode cX3_restOf 11 = .ok (.getfield 77, 3) := by decide +kernel
theorem dX3_restOf_14 : decode cX3_restOf 14 = .ok (.iconst 1, 1) := by decide +kernel
theorem dX3_restOf_15 : decode cX3_restOf 15 = .ok (.isub, 1) := by decide +kernel
theorem dX3_restOf_16 : decode cX3_restOf 16 = .ok (.iand, 1) := by decide +kernel
theorem dX3_restOf_17 : decode cX3_restOf 17 = .ok (.ireturn, 1) := by decide +kernel

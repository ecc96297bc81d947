theorem dX7_form_0 : decode cX7_form 0 = .ok (.aload_n 0, 1) := by decide +kernel
theorem dX7_form_1 : decode cX7_form 1 = .ok (.iconst 0, 1) := by decide +kernel
theorem dX7_form_2 : decode cX7_form 2 = .ok (.putfield 62, 3) := by decide +kernel
theorem dX7_form_5 : decode cX7_form 5 = .ok (.iload_n 1, 1) := by decide +kernel
theorem dX7_form_6 : decode cX7_form 6 = .ok (.ifCond .lt 8, 3) := by decide +kernel
theorem dX7_form_9 : decode cX7_form 9 = .ok (.iload_n 1, 1) := by decide +kernel
theorem dX7_form_10 : decode cX7_form 10 = .ok (.iconst 3, 1) := by decide +kernel
theorem dX7_form_11 : decode cX7_form 11 = .ok (.if_icmp .le 5, 3) := by decide +kernel
theorem dX7_form_14 : decode cX7_form 14 = .ok (.iconst (-1), 1) := by decide +kernel
theorem dX7_form_15 : decode cX7_form 15 = .ok (.ireturn, 1) := by decide +kernel
theorem dX7_form_16 : decode cX7_form 16 = .ok (.aload_n 0, 1) := by decide +kernel
theorem dX7_form_17 : decode cX7_form 17 = .ok (.getfield 91, 3) := by decide +kernel
theorem dX7_form_20 : decode cX7_form 20 = .ok (.istore_n 2, 1) := by decide +kernel
theorem dX7_form_21 : decode cX7_form 21 = .ok (.aload_n 0, 1) := by decide +kernel
theorem dX7_form_22 : decode cX7_form 22 = .ok (.iload_n 1, 1) := by decide +kernel
theorem dX7_form_23 : decode cX7_form 23 = .ok (.putfield 91, 3) := by decide +kernel
theorem dX7_form_26 : decode cX7_form 26 = .ok (.iload_n 2, 1) := by decide +kernel
theorem dX7_form_27 : decode cX7_form 27 = .ok (.ireturn, 1) := by decide +kernel
theorem dX7_clear_0 : decode cX7_clear 0 = .ok (.aload_n 0, 1) := by decide +kernel
theorem dX7_clear_1 : decode cX7_clear 1 = .ok (.iconst 0, 1) := by decide +kernel
theorem dX7_clear_2 : decode cX7_clear 2 = .ok (.putfield 62, 3) := by decide +kernel
theorem dX7_clear_5 : decode cX7_clear 5 = .ok (.aload_n 0, 1) := by decide +kernel
theorem dX7_clear_6 : decode cX7_clear 6 = .ok (.getfield 65, 3) := by decide +kernel
theorem dX7_clear_9 : decode cX7_clear 9 = .ok (.istore_n 1, 1) := by decide +kernel
theorem dX7_clear_10 : decode cX7_clear 10 = .ok (.aload_n 0, 1) := by decide +kernel
theorem dX7_clear_11 : decode cX7_clear 11 = .ok (.iconst 0, 1) := by decide +kernel
theorem dX7_clear_12 : decode cX7_clear 12 = .ok (.putfield 65, 3) := by decide +kernel
theorem dX7_clear_15 : decode cX7_clear 15 = .ok (.iload_n 1, 1) := by decide +kernel
theorem dX7_clear_16 : decode cX7_clear 16 = .ok (.ireturn, 1) := by decide +kernel
theorem dX7_signsCounted_0 : decode cX7_signsCounted 0 = .ok (.iconst 0, 1) := by decide +kernel
theorem dX7_signsCounted_1 : decode cX7_signsCounted 1 = .ok (.istore_n 1, 1) := by decide +kernel
theorem dX7_signsCounted_2 : decode cX7_signsCounted 2 = .ok (.iconst 0, 1) := by decide +kernel
theorem dX7_signsCounted_3 : decode cX7_signsCounted 3 = .ok (.istore_n 2, 1) := by decide +kernel
theorem dX7_signsCounted_4 : decode cX7_signsCounted 4 = .ok (.iload_n 2, 1) := by decide +kernel
theorem dX7_signsCounted_5 : decode cX7_signsCounted 5 = .ok (.bipush 32, 2) := by decide +kernel
theorem dX7_signsCounted_7 : decode cX7_signsCounted 7 = .ok (.if_icmp .ge 26, 3) := by decide +kernel
theorem dX7_signsCounted_10 : decode cX7_signsCounted 10 = .ok (.iload_n 1, 1) := by decide +kernel
theorem dX7_signsCounted_11 : decode cX7_signsCounted 11 = .ok (.aload_n 0, 1) := by decide +kernel
theorem dX7_signsCounted_12 : decode cX7_signsCounted 12 = .ok (.getfield 17, 3) := by decide +kernel
theorem dX7_signsCounted_15 : decode cX7_signsCounted 15 = .ok (.iload_n 2, 1) := by decide +kernel
theorem dX7_signsCounted_16 : decode cX7_signsCounted 16 = .ok (.iaload, 1) := by decide +kernel
theorem dX7_signsCounted_17 : decode cX7_signsCounted 17 = .ok (.ifCond .le 7, 3) := by decide +kernel
theorem dX7_signsCounted_20 : decode cX7_signsCounted 20 = .ok (.iconst 1, 1) := by decide +kernel
theorem dX7_signsCounted_21 : decode cX7_signsCounted 21 = .ok (.goto 4, 3) := by decide +kernel
theorem dX7_signsCounted_24 : decode cX7_signsCounted 24 = .ok (.iconst 0, 1) := by decide +kernel
theorem dX7_signsCounted_25 : decode cX7_signsCounted 25 = .ok (.iadd, 1) := by decide +kernel
theorem dX7_signsCounted_26 : decode cX7_signsCounted 26 = .ok (.istore_n 1, 1) := by decide +kernel
theorem dX7_signsCounted_27 : decode cX7_signsCounted 27 = .ok (.iinc 2 1, 3) := by decide +kernel
theorem dX7_signsCounted_30 : decode cX7_signsCounted 30 = .ok (.goto (-26), 3) := by decide +kernel
theorem dX7_signsCounted_33 : decode cX7_signsCounted 33 = .ok (.iload_n 1, 1) := by decide +kernel
theorem dX7_signsCounted_34 : decode cX7_signsCounted 34 = .ok (.ireturn, 1) := by decide +kernel
theorem dX7_fail_0 : decode cX7_fail 0 = .ok (.aload_n 0, 1) := by decide +kernel
theorem dX7_fail_1 : decode cX7_fail 1 = .ok (.getfield 162, 3) := by decide +kernel
theorem dX7_fail_4 : decode cX7_fail 4 = .ok (.ifCond .ne 8, 3) := by decide +kernel
theorem dX7_fail_7 : decode cX7_fail 7 = .ok (.aload_n 0, 1) := by decide +kernel
theorem dX7_fail_8 : decode cX7_fail 8 = .ok (.iload_n 1, 1) := by decide +kernel
theorem dX7_fail_9 : decode cX7_fail 9 = .ok (.putfield 162, 3) := by decide +kernel
theorem dX7_fail_12 : decode cX7_fail 12 = .ok (.return_, 1) := by decide +kernel
theorem dX7_next_0 : decode cX7_next 0 = .ok (.aload_n 0, 1) := by decide +kernel
theorem dX7_next_1 : decode cX7_next 1 = .ok (.getfield 162, 3) := by decide +kernel
theorem dX7_next_4 : decode cX7_next 4 = .ok (.ifCond .le 5, 3) := by decide +kernel
theorem dX7_next_7 : decode cX7_next 7 = .ok (.iconst 0, 1) := by decide +kernel
theorem dX7_next_8 : decode cX7_next 8 = .ok (.ireturn, 1) := by decide +kernel
theorem dX7_next_9 : decode cX7_next 9 = .ok (.aload_n 0, 1) := by decide +kernel
theorem dX7_next_10 : decode cX7_next 10 = .ok (.getfield 165, 3) := by decide +kernel
theorem dX7_next_13 : decode cX7_next 13 = .ok (.aload_n 0, 1) := by decide +kernel
theorem dX7_next_14 : decode cX7_next 14 = .ok (.getfield 96, 3) := by decide +kernel
theorem dX7_next_17 : decode cX7_next 17 = .ok (.if_icmp .lt 10, 3) := by decide +kernel
theorem dX7_next_20 : decode cX7_next 20 = .ok (.aload_n 0, 1) := by decide +kernel
theorem dX7_next_21 : decode cX7_next 21 = .ok (.iconst 1, 1) := by decide +kernel
theorem dX7_next_22 : decode cX7_next 22 = .ok (.invokevirtual 168, 3) := by decide +kernel
theorem dX7_next_25 : decode cX7_next 25 = .ok (.iconst 0, 1) := by decide +kernel
theorem dX7_next_26 : decode cX7_next 26 = .ok (.ireturn, 1) := by decide +kernel
theorem dX7_next_27 : decode cX7_next 27 = .ok (.aload_n 0, 1) := by decide +kernel
theorem dX7_next_28 : decode cX7_next 28 = .ok (.dup, 1) := by decide +kernel
theorem dX7_next_29 : decode cX7_next 29 = .ok (.getfield 165, 3) := by decide +kernel
theorem dX7_next_32 : decode cX7_next 32 = .ok (.iconst 1, 1) := by decide +kernel
theorem dX7_next_33 : decode cX7_next 33 = .ok (.iadd, 1) := by decide +kernel
theorem dX7_next_34 : decode cX7_next 34 = .ok (.putfield 165, 3) := by decide +kernel
theorem dX7_next_37 : decode cX7_next 37 = .ok (.aload_n 0, 1) := by decide +kernel
theorem dX7_next_38 : decode cX7_next 38 = .ok (.getfield 38, 3) := by decide +kernel
theorem dX7_next_41 : decode cX7_next 41 = .ok (.aload_n 0, 1) := by decide +kernel
theorem dX7_next_42 : decode cX7_next 42 = .ok (.getfield 165, 3) := by decide +kernel
theorem dX7_next_45 : decode cX7_next 45 = .ok (.iconst 1, 1) := by decide +kernel
theorem dX7_next_46 : decode cX7_next 46 = .ok (.isub, 1) := by decide +kernel
theorem dX7_next_47 : decode cX7_next 47 = .ok (.iaload, 1) := by decide +kernel
theorem dX7_next_48 : decode cX7_next 48 = .ok (.ireturn, 1) := by decide +kernel
theorem dX7_nextWide_0 : decode cX7_nextWide 0 = .ok (.lconst 0, 1) := by decide +kernel
theorem dX7_nextWide_1 : decode cX7_nextWide 1 = .ok (.lstore_n 2, 1) := by decide +kernel
theorem dX7_nextWide_2 : decode cX7_nextWide 2 = .ok (.iconst 0, 1) := by decide +kernel
theorem dX7_nextWide_3 : decode cX7_nextWide 3 = .ok (.istore 4, 2) := by decide +kernel
theorem dX7_nextWide_5 : decode cX7_nextWide 5 = .ok (.iload 4, 2) := by decide +kernel
theorem dX7_nextWide_7 : decode cX7_nextWide 7 = .ok (.iload_n 1, 1) := by decide +kernel
theorem dX7_nextWide_8 : decode cX7_nextWide 8 = .ok (.if_icmp .ge 20, 3) := by decide +kernel
theorem dX7_nextWide_11 : decode cX7_nextWide 11 = .ok (.lload_n 2, 1) := by decide +kernel
theorem dX7_nextWide_12 : decode cX7_nextWide 12 = .ok (.bipush 8, 2) := by decide +kernel
theorem dX7_nextWide_14 : decode cX7_nextWide 14 = .ok (.lshl, 1) := by decide +kernel
theorem dX7_nextWide_15 : decode cX7_nextWide 15 = .ok (.aload_n 0, 1) := by decide +kernel
theorem dX7_nextWide_16 : decode cX7_nextWide 16 = .ok (.invokevirtual 171, 3) := by decide +kernel
theorem dX7_nextWide_19 : decode cX7_nextWide 19 = .ok (.i2l, 1) := by decide +kernel
theorem dX7_nextWide_20 : decode cX7_nextWide 20 = .ok (.lor, 1) := by decide +kernel
theorem dX7_nextWide_21 : decode cX7_nextWide 21 = .ok (.lstore_n 2, 1) := by decide +kernel
theorem dX7_nextWide_22 : decode cX7_nextWide 22 = .ok (.iinc 4 1, 3) := by decide +kernel
theorem dX7_nextWide_25 : decode cX7_nextWide 25 = .ok (.goto (-20), 3) := by decide +kernel
theorem dX7_nextWide_28 : decode cX7_nextWide 28 = .ok (.lload_n 2, 1) := by decide +kernel
theorem dX7_nextWide_29 : decode cX7_nextWide 29 = .ok (.lreturn, 1) := by decide +kernel
theorem dX7_nextBit_0 : decode cX7_nextBit 0 = .ok (.aload_n 0, 1) := by decide +kernel
theorem dX7_nextBit_1 : decode cX7_nextBit 1 = .ok (.getfield 174, 3) := by decide +kernel
theorem dX7_nextBit_4 : decode cX7_nextBit 4 = .ok (.ifCond .ne 23, 3) := by decide +kernel
theorem dX7_nextBit_7 : decode cX7_nextBit 7 = .ok (.aload_n 0, 1) := by decide +kernel
theorem dX7_nextBit_8 : decode cX7_nextBit 8 = .ok (.invokevirtual 171, 3) := by decide +kernel
theorem dX7_nextBit_11 : decode cX7_nextBit 11 = .ok (.istore_n 1, 1) := by decide +kernel
theorem dX7_nextBit_12 : decode cX7_nextBit 12 = .ok (.aload_n 0, 1) := by decide +kernel
theorem dX7_nextBit_13 : decode cX7_nextBit 13 = .ok (.getfield 162, 3) := by decide +kernel
theorem dX7_nextBit_16 : decode cX7_nextBit 16 = .ok (.ifCond .le 5, 3) := by decide +kernel
theorem dX7_nextBit_19 : decode cX7_nextBit 19 = .ok (.iconst 0, 1) := by decide +kernel
theorem dX7_nextBit_20 : decode cX7_nextBit 20 = .ok (.ireturn, 1) := by decide +kernel
theorem dX7_nextBit_21 : decode cX7_nextBit 21 = .ok (.aload_n 0, 1) := by decide +kernel
theorem dX7_nextBit_22 : decode cX7_nextBit 22 = .ok (.bipush 8, 2) := by decide +kernel
theorem dX7_nextBit_24 : decode cX7_nextBit 24 = .ok (.putfield 174, 3) := by decide +kernel
theorem dX7_nextBit_27 : decode cX7_nextBit 27 = .ok (.aload_n 0, 1) := by decide +kernel
theorem dX7_nextBit_28 : decode cX7_nextBit 28 = .ok (.dup, 1) := by decide +kernel
theorem dX7_nextBit_29 : decode cX7_nextBit 29 = .ok (.getfield 174, 3) := by decide +kernel
theorem dX7_nextBit_32 : decode cX7_nextBit 32 = .ok (.iconst 1, 1) := by decide +kernel
theorem dX7_nextBit_33 : decode cX7_nextBit 33 = .ok (.isub, 1) := by decide +kernel
theorem dX7_nextBit_34 : decode cX7_nextBit 34 = .ok (.putfield 174, 3) := by decide +kernel
theorem dX7_nextBit_37 : decode cX7_nextBit 37 = .ok (.aload_n 0, 1) := by decide +kernel
theorem dX7_nextBit_38 : decode cX7_nextBit 38 = .ok (.getfield 38, 3) := by decide +kernel
theorem dX7_nextBit_41 : decode cX7_nextBit 41 = .ok (.aload_n 0, 1) := by decide +kernel
theorem dX7_nextBit_42 : decode cX7_nextBit 42 = .ok (.getfield 165, 3) := by decide +kernel
theorem dX7_nextBit_45 : decode cX7_nextBit 45 = .ok (.iconst 1, 1) := by decide +kernel
theorem dX7_nextBit_46 : decode cX7_nextBit 46 = .ok (.isub, 1) := by decide +kernel
theorem dX7_nextBit_47 : decode cX7_nextBit 47 = .ok (.iaload, 1) := by decide +kernel
theorem dX7_nextBit_48 : decode cX7_nextBit 48 = .ok (.aload_n 0, 1) := by decide +kernel
theorem dX7_nextBit_49 : decode cX7_nextBit 49 = .ok (.getfield 174, 3) := by decide +kernel
theorem dX7_nextBit_52 : decode cX7_nextBit 52 = .ok (.ishr, 1) := by decide +kernel
theorem dX7_nextBit_53 : decode cX7_nextBit 53 = .ok (.iconst 1, 1) := by decide +kernel
theorem dX7_nextBit_54 : decode cX7_nextBit 54 = .ok (.iand, 1) := by decide +kernel
theorem dX7_nextBit_55 : decode cX7_nextBit 55 = .ok (.ireturn, 1) := by decide +kernel

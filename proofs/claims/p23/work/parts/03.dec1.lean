theorem dX7_loss_0 : decode cX7_loss 0 = .ok (.aload_n 0, 1) := by decide +kernel
theorem dX7_loss_1 : decode cX7_loss 1 = .ok (.iconst 0, 1) := by decide +kernel
theorem dX7_loss_2 : decode cX7_loss 2 = .ok (.putfield 62, 3) := by decide +kernel
theorem dX7_loss_5 : decode cX7_loss 5 = .ok (.aload_n 0, 1) := by decide +kernel
theorem dX7_loss_6 : decode cX7_loss 6 = .ok (.getfield 69, 3) := by decide +kernel
theorem dX7_loss_9 : decode cX7_loss 9 = .ok (.ifCond .ne 7, 3) := by decide +kernel
theorem dX7_loss_12 : decode cX7_loss 12 = .ok (.ldc2_w 81, 3) := by decide +kernel
theorem dX7_loss_15 : decode cX7_loss 15 = .ok (.lreturn, 1) := by decide +kernel
theorem dX7_loss_16 : decode cX7_loss 16 = .ok (.lconst 0, 1) := by decide +kernel
theorem dX7_loss_17 : decode cX7_loss 17 = .ok (.lstore_n 1, 1) := by decide +kernel
theorem dX7_loss_18 : decode cX7_loss 18 = .ok (.iconst 0, 1) := by decide +kernel
theorem dX7_loss_19 : decode cX7_loss 19 = .ok (.istore_n 3, 1) := by decide +kernel
theorem dX7_loss_20 : decode cX7_loss 20 = .ok (.iload_n 3, 1) := by decide +kernel
theorem dX7_loss_21 : decode cX7_loss 21 = .ok (.bipush 32, 2) := by decide +kernel
theorem dX7_loss_23 : decode cX7_loss 23 = .ok (.if_icmp .ge 51, 3) := by decide +kernel
theorem dX7_loss_26 : decode cX7_loss 26 = .ok (.lload_n 1, 1) := by decide +kernel
theorem dX7_loss_27 : decode cX7_loss 27 = .ok (.aload_n 0, 1) := by decide +kernel
theorem dX7_loss_28 : decode cX7_loss 28 = .ok (.getfield 20, 3) := by decide +kernel
theorem dX7_loss_31 : decode cX7_loss 31 = .ok (.iload_n 3, 1) := by decide +kernel
theorem dX7_loss_32 : decode cX7_loss 32 = .ok (.iaload, 1) := by decide +kernel
theorem dX7_loss_33 : decode cX7_loss 33 = .ok (.ifCond .le 32, 3) := by decide +kernel
theorem dX7_loss_36 : decode cX7_loss 36 = .ok (.aload_n 0, 1) := by decide +kernel
theorem dX7_loss_37 : decode cX7_loss 37 = .ok (.getfield 17, 3) := by decide +kernel
theorem dX7_loss_40 : decode cX7_loss 40 = .ok (.iload_n 3, 1) := by decide +kernel
theorem dX7_loss_41 : decode cX7_loss 41 = .ok (.iaload, 1) := by decide +kernel
theorem dX7_loss_42 : decode cX7_loss 42 = .ok (.i2l, 1) := by decide +kernel
theorem dX7_loss_43 : decode cX7_loss 43 = .ok (.aload_n 0, 1) := by decide +kernel
theorem dX7_loss_44 : decode cX7_loss 44 = .ok (.getfield 59, 3) := by decide +kernel
theorem dX7_loss_47 : decode cX7_loss 47 = .ok (.i2l, 1) := by decide +kernel
theorem dX7_loss_48 : decode cX7_loss 48 = .ok (.bipush 30, 2) := by decide +kernel
theorem dX7_loss_50 : decode cX7_loss 50 = .ok (.lshl, 1) := by decide +kernel
theorem dX7_loss_51 : decode cX7_loss 51 = .ok (.aload_n 0, 1) := by decide +kernel
theorem dX7_loss_52 : decode cX7_loss 52 = .ok (.getfield 20, 3) := by decide +kernel
theorem dX7_loss_55 : decode cX7_loss 55 = .ok (.iload_n 3, 1) := by decide +kernel
theorem dX7_loss_56 : decode cX7_loss 56 = .ok (.iaload, 1) := by decide +kernel
theorem dX7_loss_57 : decode cX7_loss 57 = .ok (.invokestatic 83, 3) := by decide +kernel
theorem dX7_loss_60 : decode cX7_loss 60 = .ok (.lsub, 1) := by decide +kernel
theorem dX7_loss_61 : decode cX7_loss 61 = .ok (.lmul, 1) := by decide +kernel
theorem dX7_loss_62 : decode cX7_loss 62 = .ok (.goto 4, 3) := by decide +kernel
theorem dX7_loss_65 : decode cX7_loss 65 = .ok (.lconst 0, 1) := by decide +kernel
theorem dX7_loss_66 : decode cX7_loss 66 = .ok (.ladd, 1) := by decide +kernel
theorem dX7_loss_67 : decode cX7_loss 67 = .ok (.lstore_n 1, 1) := by decide +kernel
theorem dX7_loss_68 : decode cX7_loss 68 = .ok (.iinc 3 1, 3) := by decide +kernel
theorem dX7_loss_71 : decode cX7_loss 71 = .ok (.goto (-51), 3) := by decide +kernel
theorem dX7_loss_74 : decode cX7_loss 74 = .ok (.lload_n 1, 1) := by decide +kernel
theorem dX7_loss_75 : decode cX7_loss 75 = .ok (.lreturn, 1) := by decide +kernel
theorem dX7_spread_0 : decode cX7_spread 0 = .ok (.aload_n 0, 1) := by decide +kernel
theorem dX7_spread_1 : decode cX7_spread 1 = .ok (.iconst 0, 1) := by decide +kernel
theorem dX7_spread_2 : decode cX7_spread 2 = .ok (.putfield 62, 3) := by decide +kernel
theorem dX7_spread_5 : decode cX7_spread 5 = .ok (.aload_n 0, 1) := by decide +kernel
theorem dX7_spread_6 : decode cX7_spread 6 = .ok (.getfield 69, 3) := by decide +kernel
theorem dX7_spread_9 : decode cX7_spread 9 = .ok (.ifCond .ne 6, 3) := by decide +kernel
theorem dX7_spread_12 : decode cX7_spread 12 = .ok (.bipush (-2), 2) := by decide +kernel
theorem dX7_spread_14 : decode cX7_spread 14 = .ok (.ireturn, 1) := by decide +kernel
theorem dX7_spread_15 : decode cX7_spread 15 = .ok (.aload_n 0, 1) := by decide +kernel
theorem dX7_spread_16 : decode cX7_spread 16 = .ok (.iload_n 1, 1) := by decide +kernel
theorem dX7_spread_17 : decode cX7_spread 17 = .ok (.ifCond .lt 13, 3) := by decide +kernel
theorem dX7_spread_20 : decode cX7_spread 20 = .ok (.iload_n 1, 1) := by decide +kernel
theorem dX7_spread_21 : decode cX7_spread 21 = .ok (.iconst 1, 1) := by decide +kernel
theorem dX7_spread_22 : decode cX7_spread 22 = .ok (.aload_n 0, 1) := by decide +kernel
theorem dX7_spread_23 : decode cX7_spread 23 = .ok (.getfield 59, 3) := by decide +kernel
theorem dX7_spread_26 : decode cX7_spread 26 = .ok (.ishl, 1) := by decide +kernel
theorem dX7_spread_27 : decode cX7_spread 27 = .ok (.if_icmp .lt 7, 3) := by decide +kernel
theorem dX7_spread_30 : decode cX7_spread 30 = .ok (.iconst 1, 1) := by decide +kernel
theorem dX7_spread_31 : decode cX7_spread 31 = .ok (.goto 4, 3) := by decide +kernel
theorem dX7_spread_34 : decode cX7_spread 34 = .ok (.iconst 0, 1) := by decide +kernel
theorem dX7_spread_35 : decode cX7_spread 35 = .ok (.putfield 62, 3) := by decide +kernel
theorem dX7_spread_38 : decode cX7_spread 38 = .ok (.aload_n 0, 1) := by decide +kernel
theorem dX7_spread_39 : decode cX7_spread 39 = .ok (.getfield 62, 3) := by decide +kernel
theorem dX7_spread_42 : decode cX7_spread 42 = .ok (.ifCond .le 7, 3) := by decide +kernel
theorem dX7_spread_45 : decode cX7_spread 45 = .ok (.iconst 0, 1) := by decide +kernel
theorem dX7_spread_46 : decode cX7_spread 46 = .ok (.goto 9, 3) := by decide +kernel
theorem dX7_spread_49 : decode cX7_spread 49 = .ok (.aload_n 0, 1) := by decide +kernel
theorem dX7_spread_50 : decode cX7_spread 50 = .ok (.getfield 29, 3) := by decide +kernel
theorem dX7_spread_53 : decode cX7_spread 53 = .ok (.iload_n 1, 1) := by decide +kernel
theorem dX7_spread_54 : decode cX7_spread 54 = .ok (.iaload, 1) := by decide +kernel
theorem dX7_spread_55 : decode cX7_spread 55 = .ok (.ireturn, 1) := by decide +kernel
theorem dX7_form_0 : decode cX7_form 0 = .ok (.aload_n 0, 1) := by decide +kernel
theorem dX7_form_1 : decode cX7_form 1 = .ok (.iconst 0, 1) := by decide +kernel
theorem dX7_form_2 : decode cX7_form 2 = .ok (.putfield 62, 3) := by decide +kernel
theorem dX7_form_5 : decode cX7_form 5 = .ok (.iload_n 1, 1) := by decide +kernel
theorem dX7_form_6 : decode cX7_form 6 = .ok (.ifCond .lt 8, 3) := by decide +kernel
theorem dX7_form_9 : decode cX7_form 9 = .ok (.iload_n 1, 1) := by decide +kernel
theorem dX7_form_10 : decode cX7_form 10 = .ok (.iconst 3, 1) := by decide +kernel
theorem dX7_form_11 : decode cX7_form 11 = .ok (.if_icmp .le 5, 3) := by decide +kernel
theorem dX7_form_14 : decode cX7_form 14 = .ok (.iconst (-1), 1) := by decide +kernel
theorem dX7_form_15 : decode cX7_form 15 = .ok (.ireturn, 1) := by decide +kernel
theorem dX7_form_16 : decode cX7_form 16 = .ok (.aload_n 0, 1) := by decide +kernel
theorem dX7_form_17 : decode cX7_form 17 = .ok (.getfield 91, 3) := by decide +kernel
theorem dX7_form_20 : decode cX7_form 20 = .ok (.istore_n 2, 1) := by decide +kernel
theorem dX7_form_21 : decode cX7_form 21 = .ok (.aload_n 0, 1) := by decide +kernel
theorem dX7_form_22 : decode cX7_form 22 = .ok (.iload_n 1, 1) := by decide +kernel
theorem dX7_form_23 : decode cX7_form 23 = .ok (.putfield 91, 3) := by decide +kernel
theorem dX7_form_26 : decode cX7_form 26 = .ok (.iload_n 2, 1) := by decide +kernel
theorem dX7_form_27 : decode cX7_form 27 = .ok (.ireturn, 1) := by decide +kernel
theorem dX7_lanes_0 : decode cX7_lanes 0 = .ok (.aload_n 0, 1) := by decide +kernel
theorem dX7_lanes_1 : decode cX7_lanes 1 = .ok (.iconst 0, 1) := by decide +kernel
theorem dX7_lanes_2 : decode cX7_lanes 2 = .ok (.putfield 62, 3) := by decide +kernel
theorem dX7_lanes_5 : decode cX7_lanes 5 = .ok (.iload_n 1, 1) := by decide +kernel
theorem dX7_lanes_6 : decode cX7_lanes 6 = .ok (.iconst 1, 1) := by decide +kernel
theorem dX7_lanes_7 : decode cX7_lanes 7 = .ok (.if_icmp .eq 15, 3) := by decide +kernel
theorem dX7_lanes_10 : decode cX7_lanes 10 = .ok (.iload_n 1, 1) := by decide +kernel
theorem dX7_lanes_11 : decode cX7_lanes 11 = .ok (.iconst 2, 1) := by decide +kernel
theorem dX7_lanes_12 : decode cX7_lanes 12 = .ok (.if_icmp .eq 10, 3) := by decide +kernel
theorem dX7_lanes_15 : decode cX7_lanes 15 = .ok (.iload_n 1, 1) := by decide +kernel
theorem dX7_lanes_16 : decode cX7_lanes 16 = .ok (.iconst 4, 1) := by decide +kernel
theorem dX7_lanes_17 : decode cX7_lanes 17 = .ok (.if_icmp .eq 5, 3) := by decide +kernel
theorem dX7_lanes_20 : decode cX7_lanes 20 = .ok (.iconst (-1), 1) := by decide +kernel
theorem dX7_lanes_21 : decode cX7_lanes 21 = .ok (.ireturn, 1) := by decide +kernel
theorem dX7_lanes_22 : decode cX7_lanes 22 = .ok (.aload_n 0, 1) := by decide +kernel
theorem dX7_lanes_23 : decode cX7_lanes 23 = .ok (.getfield 7, 3) := by decide +kernel
theorem dX7_lanes_26 : decode cX7_lanes 26 = .ok (.istore_n 2, 1) := by decide +kernel
theorem dX7_lanes_27 : decode cX7_lanes 27 = .ok (.aload_n 0, 1) := by decide +kernel
theorem dX7_lanes_28 : decode cX7_lanes 28 = .ok (.iload_n 1, 1) := by decide +kernel
theorem dX7_lanes_29 : decode cX7_lanes 29 = .ok (.putfield 7, 3) := by decide +kernel
theorem dX7_lanes_32 : decode cX7_lanes 32 = .ok (.iload_n 2, 1) := by decide +kernel
theorem dX7_lanes_33 : decode cX7_lanes 33 = .ok (.ireturn, 1) := by decide +kernel
theorem dX7_firstState_0 : decode cX7_firstState 0 = .ok (.iload_n 0, 1) := by decide +kernel
theorem dX7_firstState_1 : decode cX7_firstState 1 = .ok (.iconst 1, 1) := by decide +kernel
theorem dX7_firstState_2 : decode cX7_firstState 2 = .ok (.if_icmp .ne 9, 3) := by decide +kernel
theorem dX7_firstState_5 : decode cX7_firstState 5 = .ok (.ldc2_w 77, 3) := by decide +kernel
theorem dX7_firstState_8 : decode cX7_firstState 8 = .ok (.goto 17, 3) := by decide +kernel
theorem dX7_firstState_11 : decode cX7_firstState 11 = .ok (.iload_n 0, 1) := by decide +kernel
theorem dX7_firstState_12 : decode cX7_firstState 12 = .ok (.iconst 2, 1) := by decide +kernel
theorem dX7_firstState_13 : decode cX7_firstState 13 = .ok (.if_icmp .ne 9, 3) := by decide +kernel
theorem dX7_firstState_16 : decode cX7_firstState 16 = .ok (.lconst 1, 1) := by decide +kernel
theorem dX7_firstState_17 : decode cX7_firstState 17 = .ok (.iload_n 1, 1) := by decide +kernel
theorem dX7_firstState_18 : decode cX7_firstState 18 = .ok (.lshl, 1) := by decide +kernel
theorem dX7_firstState_19 : decode cX7_firstState 19 = .ok (.goto 6, 3) := by decide +kernel
theorem dX7_firstState_22 : decode cX7_firstState 22 = .ok (.ldc2_w 94, 3) := by decide +kernel
theorem dX7_firstState_25 : decode cX7_firstState 25 = .ok (.lreturn, 1) := by decide +kernel
theorem dX7_putByte_0 : decode cX7_putByte 0 = .ok (.aload_n 0, 1) := by decide +kernel
theorem dX7_putByte_1 : decode cX7_putByte 1 = .ok (.getfield 38, 3) := by decide +kernel
theorem dX7_putByte_4 : decode cX7_putByte 4 = .ok (.aload_n 0, 1) := by decide +kernel
theorem dX7_putByte_5 : decode cX7_putByte 5 = .ok (.getfield 96, 3) := by decide +kernel
theorem dX7_putByte_8 : decode cX7_putByte 8 = .ok (.iload_n 1, 1) := by decide +kernel
theorem dX7_putByte_9 : decode cX7_putByte 9 = .ok (.sipush 255, 3) := by decide +kernel
theorem dX7_putByte_12 : decode cX7_putByte 12 = .ok (.iand, 1) := by decide +kernel
theorem dX7_putByte_13 : decode cX7_putByte 13 = .ok (.iastore, 1) := by decide +kernel
theorem dX7_putByte_14 : decode cX7_putByte 14 = .ok (.aload_n 0, 1) := by decide +kernel
theorem dX7_putByte_15 : decode cX7_putByte 15 = .ok (.dup, 1) := by decide +kernel
theorem dX7_putByte_16 : decode cX7_putByte 16 = .ok (.getfield 96, 3) := by decide +kernel
theorem dX7_putByte_19 : decode cX7_putByte 19 = .ok (.iconst 1, 1) := by decide +kernel
theorem dX7_putByte_20 : decode cX7_putByte 20 = .ok (.iadd, 1) := by decide +kernel
theorem dX7_putByte_21 : decode cX7_putByte 21 = .ok (.putfield 96, 3) := by decide +kernel
theorem dX7_putByte_24 : decode cX7_putByte 24 = .ok (.return_, 1) := by decide +kernel
theorem dX7_putWide_0 : decode cX7_putWide 0 = .ok (.iload_n 3, 1) := by decide +kernel
theorem dX7_putWide_1 : decode cX7_putWide 1 = .ok (.iconst 1, 1) := by decide +kernel
theorem dX7_putWide_2 : decode cX7_putWide 2 = .ok (.isub, 1) := by decide +kernel
theorem dX7_putWide_3 : decode cX7_putWide 3 = .ok (.istore 4, 2) := by decide +kernel
theorem dX7_putWide_5 : decode cX7_putWide 5 = .ok (.iload 4, 2) := by decide +kernel
theorem dX7_putWide_7 : decode cX7_putWide 7 = .ok (.ifCond .lt 21, 3) := by decide +kernel
theorem dX7_putWide_10 : decode cX7_putWide 10 = .ok (.aload_n 0, 1) := by decide +kernel
theorem dX7_putWide_11 : decode cX7_putWide 11 = .ok (.lload_n 1, 1) := by decide +kernel
theorem dX7_putWide_12 : decode cX7_putWide 12 = .ok (.bipush 8, 2) := by decide +kernel
theorem dX7_putWide_14 : decode cX7_putWide 14 = .ok (.iload 4, 2) := by decide +kernel
theorem dX7_putWide_16 : decode cX7_putWide 16 = .ok (.imul, 1) := by decide +kernel
theorem dX7_putWide_17 : decode cX7_putWide 17 = .ok (.lshr, 1) := by decide +kernel
theorem dX7_putWide_18 : decode cX7_putWide 18 = .ok (.l2i, 1) := by decide +kernel
theorem dX7_putWide_19 : decode cX7_putWide 19 = .ok (.invokevirtual 99, 3) := by decide +kernel
theorem dX7_putWide_22 : decode cX7_putWide 22 = .ok (.iinc 4 (-1), 3) := by decide +kernel
theorem dX7_putWide_25 : decode cX7_putWide 25 = .ok (.goto (-20), 3) := by decide +kernel
theorem dX7_putWide_28 : decode cX7_putWide 28 = .ok (.return_, 1) := by decide +kernel
theorem dX7_putBits_0 : decode cX7_putBits 0 = .ok (.iload_n 2, 1) := by decide +kernel
theorem dX7_putBits_1 : decode cX7_putBits 1 = .ok (.iconst 1, 1) := by decide +kernel
theorem dX7_putBits_2 : decode cX7_putBits 2 = .ok (.isub, 1) := by decide +kernel
theorem dX7_putBits_3 : decode cX7_putBits 3 = .ok (.istore_n 3, 1) := by decide +kernel
theorem dX7_putBits_4 : decode cX7_putBits 4 = .ok (.iload_n 3, 1) := by decide +kernel
theorem dX7_putBits_5 : decode cX7_putBits 5 = .ok (.ifCond .lt 61, 3) := by decide +kernel
theorem dX7_putBits_8 : decode cX7_putBits 8 = .ok (.aload_n 0, 1) := by decide +kernel
theorem dX7_putBits_9 : decode cX7_putBits 9 = .ok (.getfield 102, 3) := by decide +kernel
theorem dX7_putBits_12 : decode cX7_putBits 12 = .ok (.ifCond .ne 8, 3) := by decide +kernel
theorem dX7_putBits_15 : decode cX7_putBits 15 = .ok (.aload_n 0, 1) := by decide +kernel
theorem dX7_putBits_16 : decode cX7_putBits 16 = .ok (.iconst 0, 1) := by decide +kernel
theorem dX7_putBits_17 : decode cX7_putBits 17 = .ok (.invokevirtual 99, 3) := by decide +kernel
theorem dX7_putBits_20 : decode cX7_putBits 20 = .ok (.aload_n 0, 1) := by decide +kernel
theorem dX7_putBits_21 : decode cX7_putBits 21 = .ok (.getfield 38, 3) := by decide +kernel
theorem dX7_putBits_24 : decode cX7_putBits 24 = .ok (.aload_n 0, 1) := by decide +kernel
theorem dX7_putBits_25 : decode cX7_putBits 25 = .ok (.getfield 96, 3) := by decide +kernel
theorem dX7_putBits_28 : decode cX7_putBits 28 = .ok (.iconst 1, 1) := by decide +kernel
theorem dX7_putBits_29 : decode cX7_putBits 29 = .ok (.isub, 1) := by decide +kernel
theorem dX7_putBits_30 : decode cX7_putBits 30 = .ok (.dup2, 1) := by decide +kernel
theorem dX7_putBits_31 : decode cX7_putBits 31 = .ok (.iaload, 1) := by decide +kernel
theorem dX7_putBits_32 : decode cX7_putBits 32 = .ok (.iload_n 1, 1) := by decide +kernel
theorem dX7_putBits_33 : decode cX7_putBits 33 = .ok (.iload_n 3, 1) := by decide +kernel
theorem dX7_putBits_34 : decode cX7_putBits 34 = .ok (.ishr, 1) := by decide +kernel
theorem dX7_putBits_35 : decode cX7_putBits 35 = .ok (.iconst 1, 1) := by decide +kernel
theorem dX7_putBits_36 : decode cX7_putBits 36 = .ok (.iand, 1) := by decide +kernel
theorem dX7_putBits_37 : decode cX7_putBits 37 = .ok (.bipush 7, 2) := by decide +kernel
theorem dX7_putBits_39 : decode cX7_putBits 39 = .ok (.aload_n 0, 1) := by decide +kernel
theorem dX7_putBits_40 : decode cX7_putBits 40 = .ok (.getfield 102, 3) := by decide +kernel
theorem dX7_putBits_43 : decode cX7_putBits 43 = .ok (.isub, 1) := by decide +kernel
theorem dX7_putBits_44 : decode cX7_putBits 44 = .ok (.ishl, 1) := by decide +kernel
theorem dX7_putBits_45 : decode cX7_putBits 45 = .ok (.ior, 1) := by decide +kernel
theorem dX7_putBits_46 : decode cX7_putBits 46 = .ok (.iastore, 1) := by decide +kernel
theorem dX7_putBits_47 : decode cX7_putBits 47 = .ok (.aload_n 0, 1) := by decide +kernel
theorem dX7_putBits_48 : decode cX7_putBits 48 = .ok (.aload_n 0, 1) := by decide +kernel
theorem dX7_putBits_49 : decode cX7_putBits 49 = .ok (.getfield 102, 3) := by decide +kernel
theorem dX7_putBits_52 : decode cX7_putBits 52 = .ok (.iconst 1, 1) := by decide +kernel
theorem dX7_putBits_53 : decode cX7_putBits 53 = .ok (.iadd, 1) := by decide +kernel
theorem dX7_putBits_54 : decode cX7_putBits 54 = .ok (.bipush 8, 2) := by decide +kernel
theorem dX7_putBits_56 : decode cX7_putBits 56 = .ok (.irem, 1) := by decide +kernel
theorem dX7_putBits_57 : decode cX7_putBits 57 = .ok (.putfield 102, 3) := by decide +kernel
theorem dX7_putBits_60 : decode cX7_putBits 60 = .ok (.iinc 3 (-1), 3) := by decide +kernel
theorem dX7_putBits_63 : decode cX7_putBits 63 = .ok (.goto (-59), 3) := by decide +kernel
theorem dX7_putBits_66 : decode cX7_putBits 66 = .ok (.return_, 1) := by decide +kernel
theorem dX7_bitsOf_0 : decode cX7_bitsOf 0 = .ok (.iconst 0, 1) := by decide +kernel
theorem dX7_bitsOf_1 : decode cX7_bitsOf 1 = .ok (.istore_n 1, 1) := by decide +kernel
theorem dX7_bitsOf_2 : decode cX7_bitsOf 2 = .ok (.iload_n 0, 1) := by decide +kernel
theorem dX7_bitsOf_3 : decode cX7_bitsOf 3 = .ok (.iload_n 1, 1) := by decide +kernel
theorem dX7_bitsOf_4 : decode cX7_bitsOf 4 = .ok (.ishr, 1) := by decide +kernel
theorem dX7_bitsOf_5 : decode cX7_bitsOf 5 = .ok (.ifCond .le 9, 3) := by decide +kernel
theorem dX7_bitsOf_8 : decode cX7_bitsOf 8 = .ok (.iinc 1 1, 3) := by decide +kernel
theorem dX7_bitsOf_11 : decode cX7_bitsOf 11 = .ok (.goto (-9), 3) := by decide +kernel
theorem dX7_bitsOf_14 : decode cX7_bitsOf 14 = .ok (.iload_n 1, 1) := by decide +kernel
theorem dX7_bitsOf_15 : decode cX7_bitsOf 15 = .ok (.ireturn, 1) := by decide +kernel
theorem dX7_writeTable_0 : decode cX7_writeTable 0 = .ok (.iconst 1, 1) := by decide +kernel
theorem dX7_writeTable_1 : decode cX7_writeTable 1 = .ok (.aload_n 0, 1) := by decide +kernel
theorem dX7_writeTable_2 : decode cX7_writeTable 2 = .ok (.getfield 59, 3) := by decide +kernel
theorem dX7_writeTable_5 : decode cX7_writeTable 5 = .ok (.ishl, 1) := by decide +kernel
theorem dX7_writeTable_6 : decode cX7_writeTable 6 = .ok (.istore_n 1, 1) := by decide +kernel
theorem dX7_writeTable_7 : decode cX7_writeTable 7 = .ok (.aload_n 0, 1) := by decide +kernel
theorem dX7_writeTable_8 : decode cX7_writeTable 8 = .ok (.iconst 0, 1) := by decide +kernel
theorem dX7_writeTable_9 : decode cX7_writeTable 9 = .ok (.putfield 102, 3) := by decide +kernel
theorem dX7_writeTable_12 : decode cX7_writeTable 12 = .ok (.iconst 0, 1) := by decide +kernel
theorem dX7_writeTable_13 : decode cX7_writeTable 13 = .ok (.istore_n 2, 1) := by decide +kernel
theorem dX7_writeTable_14 : decode cX7_writeTable 14 = .ok (.iload_n 2, 1) := by decide +kernel
theorem dX7_writeTable_15 : decode cX7_writeTable 15 = .ok (.bipush 32, 2) := by decide +kernel
theorem dX7_writeTable_17 : decode cX7_writeTable 17 = .ok (.if_icmp .ge 36, 3) := by decide +kernel
theorem dX7_writeTable_20 : decode cX7_writeTable 20 = .ok (.iload_n 1, 1) := by decide +kernel
theorem dX7_writeTable_21 : decode cX7_writeTable 21 = .ok (.ifCond .le 32, 3) := by decide +kernel
theorem dX7_writeTable_24 : decode cX7_writeTable 24 = .ok (.aload_n 0, 1) := by decide +kernel
theorem dX7_writeTable_25 : decode cX7_writeTable 25 = .ok (.aload_n 0, 1) := by decide +kernel
theorem dX7_writeTable_26 : decode cX7_writeTable 26 = .ok (.getfield 20, 3) := by decide +kernel
theorem dX7_writeTable_29 : decode cX7_writeTable 29 = .ok (.iload_n 2, 1) := by decide +kernel
theorem dX7_writeTable_30 : decode cX7_writeTable 30 = .ok (.iaload, 1) := by decide +kernel
theorem dX7_writeTable_31 : decode cX7_writeTable 31 = .ok (.iload_n 1, 1) := by decide +kernel
theorem dX7_writeTable_32 : decode cX7_writeTable 32 = .ok (.invokestatic 105, 3) := by decide +kernel
theorem dX7_writeTable_35 : decode cX7_writeTable 35 = .ok (.invokevirtual 109, 3) := by decide +kernel
theorem dX7_writeTable_38 : decode cX7_writeTable 38 = .ok (.iload_n 1, 1) := by decide +kernel
theorem dX7_writeTable_39 : decode cX7_writeTable 39 = .ok (.aload_n 0, 1) := by decide +kernel
theorem dX7_writeTable_40 : decode cX7_writeTable 40 = .ok (.getfield 20, 3) := by decide +kernel
theorem dX7_writeTable_43 : decode cX7_writeTable 43 = .ok (.iload_n 2, 1) := by decide +kernel
theorem dX7_writeTable_44 : decode cX7_writeTable 44 = .ok (.iaload, 1) := by decide +kernel
theorem dX7_writeTable_45 : decode cX7_writeTable 45 = .ok (.isub, 1) := by decide +kernel
theorem dX7_writeTable_46 : decode cX7_writeTable 46 = .ok (.istore_n 1, 1) := by decide +kernel
theorem dX7_writeTable_47 : decode cX7_writeTable 47 = .ok (.iinc 2 1, 3) := by decide +kernel
theorem dX7_writeTable_50 : decode cX7_writeTable 50 = .ok (.goto (-36), 3) := by decide +kernel
theorem dX7_writeTable_53 : decode cX7_writeTable 53 = .ok (.aload_n 0, 1) := by decide +kernel
theorem dX7_writeTable_54 : decode cX7_writeTable 54 = .ok (.iconst 0, 1) := by decide +kernel
theorem dX7_writeTable_55 : decode cX7_writeTable 55 = .ok (.putfield 102, 3) := by decide +kernel
theorem dX7_writeTable_58 : decode cX7_writeTable 58 = .ok (.return_, 1) := by decide +kernel
theorem dX7_writeBytes_0 : decode cX7_writeBytes 0 = .ok (.aload_n 0, 1) := by decide +kernel
theorem dX7_writeBytes_1 : decode cX7_writeBytes 1 = .ok (.getfield 41, 3) := by decide +kernel
theorem dX7_writeBytes_4 : decode cX7_writeBytes 4 = .ok (.iload_n 1, 1) := by decide +kernel
theorem dX7_writeBytes_5 : decode cX7_writeBytes 5 = .ok (.laload, 1) := by decide +kernel
theorem dX7_writeBytes_6 : decode cX7_writeBytes 6 = .ok (.lstore 4, 2) := by decide +kernel
theorem dX7_writeBytes_8 : decode cX7_writeBytes 8 = .ok (.lload 4, 2) := by decide +kernel
theorem dX7_writeBytes_10 : decode cX7_writeBytes 10 = .ok (.lconst 1, 1) := by decide +kernel
theorem dX7_writeBytes_11 : decode cX7_writeBytes 11 = .ok (.bipush 31, 2) := by decide +kernel
theorem dX7_writeBytes_13 : decode cX7_writeBytes 13 = .ok (.aload_n 0, 1) := by decide +kernel
theorem dX7_writeBytes_14 : decode cX7_writeBytes 14 = .ok (.getfield 59, 3) := by decide +kernel
theorem dX7_writeBytes_17 : decode cX7_writeBytes 17 = .ok (.isub, 1) := by decide +kernel
theorem dX7_writeBytes_18 : decode cX7_writeBytes 18 = .ok (.lshl, 1) := by decide +kernel
theorem dX7_writeBytes_19 : decode cX7_writeBytes 19 = .ok (.iload_n 2, 1) := by decide +kernel
theorem dX7_writeBytes_20 : decode cX7_writeBytes 20 = .ok (.i2l, 1) := by decide +kernel
theorem dX7_writeBytes_21 : decode cX7_writeBytes 21 = .ok (.lmul, 1) := by decide +kernel
theorem dX7_writeBytes_22 : decode cX7_writeBytes 22 = .ok (.lcmp, 1) := by decide +kernel
theorem dX7_writeBytes_23 : decode cX7_writeBytes 23 = .ok (.ifCond .lt 39, 3) := by decide +kernel
theorem dX7_writeBytes_26 : decode cX7_writeBytes 26 = .ok (.aload_n 0, 1) := by decide +kernel
theorem dX7_writeBytes_27 : decode cX7_writeBytes 27 = .ok (.getfield 49, 3) := by decide +kernel
theorem dX7_writeBytes_30 : decode cX7_writeBytes 30 = .ok (.aload_n 0, 1) := by decide +kernel
theorem dX7_writeBytes_31 : decode cX7_writeBytes 31 = .ok (.getfield 113, 3) := by decide +kernel
theorem dX7_writeBytes_34 : decode cX7_writeBytes 34 = .ok (.lload 4, 2) := by decide +kernel
theorem dX7_writeBytes_36 : decode cX7_writeBytes 36 = .ok (.l2i, 1) := by decide +kernel
theorem dX7_writeBytes_37 : decode cX7_writeBytes 37 = .ok (.sipush 255, 3) := by decide +kernel
theorem dX7_writeBytes_40 : decode cX7_writeBytes 40 = .ok (.iand, 1) := by decide +kernel
theorem dX7_writeBytes_41 : decode cX7_writeBytes 41 = .ok (.iastore, 1) := by decide +kernel
theorem dX7_writeBytes_42 : decode cX7_writeBytes 42 = .ok (.aload_n 0, 1) := by decide +kernel
theorem dX7_writeBytes_43 : decode cX7_writeBytes 43 = .ok (.dup, 1) := by decide +kernel
theorem dX7_writeBytes_44 : decode cX7_writeBytes 44 = .ok (.getfield 113, 3) := by decide +kernel
theorem dX7_writeBytes_47 : decode cX7_writeBytes 47 = .ok (.iconst 1, 1) := by decide +kernel
theorem dX7_writeBytes_48 : decode cX7_writeBytes 48 = .ok (.iadd, 1) := by decide +kernel
theorem dX7_writeBytes_49 : decode cX7_writeBytes 49 = .ok (.putfield 113, 3) := by decide +kernel
theorem dX7_writeBytes_52 : decode cX7_writeBytes 52 = .ok (.lload 4, 2) := by decide +kernel
theorem dX7_writeBytes_54 : decode cX7_writeBytes 54 = .ok (.bipush 8, 2) := by decide +kernel
theorem dX7_writeBytes_56 : decode cX7_writeBytes 56 = .ok (.lshr, 1) := by decide +kernel
theorem dX7_writeBytes_57 : decode cX7_writeBytes 57 = .ok (.lstore 4, 2) := by decide +kernel
theorem dX7_writeBytes_59 : decode cX7_writeBytes 59 = .ok (.goto (-51), 3) := by decide +kernel
theorem dX7_writeBytes_62 : decode cX7_writeBytes 62 = .ok (.aload_n 0, 1) := by decide +kernel
theorem dX7_writeBytes_63 : decode cX7_writeBytes 63 = .ok (.getfield 41, 3) := by decide +kernel
theorem dX7_writeBytes_66 : decode cX7_writeBytes 66 = .ok (.iload_n 1, 1) := by decide +kernel
theorem dX7_writeBytes_67 : decode cX7_writeBytes 67 = .ok (.lload 4, 2) := by decide +kernel
theorem dX7_writeBytes_69 : decode cX7_writeBytes 69 = .ok (.iload_n 2, 1) := by decide +kernel
theorem dX7_writeBytes_70 : decode cX7_writeBytes 70 = .ok (.i2l, 1) := by decide +kernel
theorem dX7_writeBytes_71 : decode cX7_writeBytes 71 = .ok (.ldiv, 1) := by decide +kernel
theorem dX7_writeBytes_72 : decode cX7_writeBytes 72 = .ok (.aload_n 0, 1) := by decide +kernel
theorem dX7_writeBytes_73 : decode cX7_writeBytes 73 = .ok (.getfield 59, 3) := by decide +kernel
theorem dX7_writeBytes_76 : decode cX7_writeBytes 76 = .ok (.lshl, 1) := by decide +kernel
theorem dX7_writeBytes_77 : decode cX7_writeBytes 77 = .ok (.lload 4, 2) := by decide +kernel
theorem dX7_writeBytes_79 : decode cX7_writeBytes 79 = .ok (.iload_n 2, 1) := by decide +kernel
theorem dX7_writeBytes_80 : decode cX7_writeBytes 80 = .ok (.i2l, 1) := by decide +kernel
theorem dX7_writeBytes_81 : decode cX7_writeBytes 81 = .ok (.lrem, 1) := by decide +kernel
theorem dX7_writeBytes_82 : decode cX7_writeBytes 82 = .ok (.ladd, 1) := by decide +kernel
theorem dX7_writeBytes_83 : decode cX7_writeBytes 83 = .ok (.iload_n 3, 1) := by decide +kernel
theorem dX7_writeBytes_84 : decode cX7_writeBytes 84 = .ok (.i2l, 1) := by decide +kernel
theorem dX7_writeBytes_85 : decode cX7_writeBytes 85 = .ok (.ladd, 1) := by decide +kernel
theorem dX7_writeBytes_86 : decode cX7_writeBytes 86 = .ok (.lastore, 1) := by decide +kernel
theorem dX7_writeBytes_87 : decode cX7_writeBytes 87 = .ok (.return_, 1) := by decide +kernel
theorem dX7_writeWords_0 : decode cX7_writeWords 0 = .ok (.aload_n 0, 1) := by decide +kernel
theorem dX7_writeWords_1 : decode cX7_writeWords 1 = .ok (.getfield 41, 3) := by decide +kernel
theorem dX7_writeWords_4 : decode cX7_writeWords 4 = .ok (.iload_n 1, 1) := by decide +kernel
theorem dX7_writeWords_5 : decode cX7_writeWords 5 = .ok (.laload, 1) := by decide +kernel
theorem dX7_writeWords_6 : decode cX7_writeWords 6 = .ok (.lstore 4, 2) := by decide +kernel
theorem dX7_writeWords_8 : decode cX7_writeWords 8 = .ok (.lload 4, 2) := by decide +kernel
theorem dX7_writeWords_10 : decode cX7_writeWords 10 = .ok (.lconst 1, 1) := by decide +kernel
theorem dX7_writeWords_11 : decode cX7_writeWords 11 = .ok (.bipush 63, 2) := by decide +kernel
theorem dX7_writeWords_13 : decode cX7_writeWords 13 = .ok (.aload_n 0, 1) := by decide +kernel
theorem dX7_writeWords_14 : decode cX7_writeWords 14 = .ok (.getfield 59, 3) := by decide +kernel
theorem dX7_writeWords_17 : decode cX7_writeWords 17 = .ok (.isub, 1) := by decide +kernel
theorem dX7_writeWords_18 : decode cX7_writeWords 18 = .ok (.lshl, 1) := by decide +kernel
theorem dX7_writeWords_19 : decode cX7_writeWords 19 = .ok (.iload_n 2, 1) := by decide +kernel
theorem dX7_writeWords_20 : decode cX7_writeWords 20 = .ok (.i2l, 1) := by decide +kernel
theorem dX7_writeWords_21 : decode cX7_writeWords 21 = .ok (.lmul, 1) := by decide +kernel
theorem dX7_writeWords_22 : decode cX7_writeWords 22 = .ok (.lcmp, 1) := by decide +kernel
theorem dX7_writeWords_23 : decode cX7_writeWords 23 = .ok (.ifCond .lt 35, 3) := by decide +kernel
theorem dX7_writeWords_26 : decode cX7_writeWords 26 = .ok (.aload_n 0, 1) := by decide +kernel
theorem dX7_writeWords_27 : decode cX7_writeWords 27 = .ok (.getfield 49, 3) := by decide +kernel
theorem dX7_writeWords_30 : decode cX7_writeWords 30 = .ok (.aload_n 0, 1) := by decide +kernel
theorem dX7_writeWords_31 : decode cX7_writeWords 31 = .ok (.getfield 113, 3) := by decide +kernel
theorem dX7_writeWords_34 : decode cX7_writeWords 34 = .ok (.lload 4, 2) := by decide +kernel
theorem dX7_writeWords_36 : decode cX7_writeWords 36 = .ok (.l2i, 1) := by decide +kernel
theorem dX7_writeWords_37 : decode cX7_writeWords 37 = .ok (.iastore, 1) := by decide +kernel
theorem dX7_writeWords_38 : decode cX7_writeWords 38 = .ok (.aload_n 0, 1) := by decide +kernel
theorem dX7_writeWords_39 : decode cX7_writeWords 39 = .ok (.dup, 1) := by decide +kernel
theorem dX7_writeWords_40 : decode cX7_writeWords 40 = .ok (.getfield 113, 3) := by decide +kernel
theorem dX7_writeWords_43 : decode cX7_writeWords 43 = .ok (.iconst 1, 1) := by decide +kernel
theorem dX7_writeWords_44 : decode cX7_writeWords 44 = .ok (.iadd, 1) := by decide +kernel
theorem dX7_writeWords_45 : decode cX7_writeWords 45 = .ok (.putfield 113, 3) := by decide +kernel
theorem dX7_writeWords_48 : decode cX7_writeWords 48 = .ok (.lload 4, 2) := by decide +kernel
theorem dX7_writeWords_50 : decode cX7_writeWords 50 = .ok (.bipush 32, 2) := by decide +kernel
theorem dX7_writeWords_52 : decode cX7_writeWords 52 = .ok (.lushr, 1) := by decide +kernel
theorem dX7_writeWords_53 : decode cX7_writeWords 53 = .ok (.lstore 4, 2) := by decide +kernel
theorem dX7_writeWords_55 : decode cX7_writeWords 55 = .ok (.goto (-47), 3) := by decide +kernel
theorem dX7_writeWords_58 : decode cX7_writeWords 58 = .ok (.aload_n 0, 1) := by decide +kernel
theorem dX7_writeWords_59 : decode cX7_writeWords 59 = .ok (.getfield 41, 3) := by decide +kernel
theorem dX7_writeWords_62 : decode cX7_writeWords 62 = .ok (.iload_n 1, 1) := by decide +kernel
theorem dX7_writeWords_63 : decode cX7_writeWords 63 = .ok (.lload 4, 2) := by decide +kernel
theorem dX7_writeWords_65 : decode cX7_writeWords 65 = .ok (.iload_n 2, 1) := by decide +kernel
theorem dX7_writeWords_66 : decode cX7_writeWords 66 = .ok (.i2l, 1) := by decide +kernel
theorem dX7_writeWords_67 : decode cX7_writeWords 67 = .ok (.ldiv, 1) := by decide +kernel
theorem dX7_writeWords_68 : decode cX7_writeWords 68 = .ok (.aload_n 0, 1) := by decide +kernel
theorem dX7_writeWords_69 : decode cX7_writeWords 69 = .ok (.getfield 59, 3) := by decide +kernel
theorem dX7_writeWords_72 : decode cX7_writeWords 72 = .ok (.lshl, 1) := by decide +kernel
theorem dX7_writeWords_73 : decode cX7_writeWords 73 = .ok (.lload 4, 2) := by decide +kernel
theorem dX7_writeWords_75 : decode cX7_writeWords 75 = .ok (.iload_n 2, 1) := by decide +kernel
theorem dX7_writeWords_76 : decode cX7_writeWords 76 = .ok (.i2l, 1) := by decide +kernel
theorem dX7_writeWords_77 : decode cX7_writeWords 77 = .ok (.lrem, 1) := by decide +kernel
theorem dX7_writeWords_78 : decode cX7_writeWords 78 = .ok (.ladd, 1) := by decide +kernel
theorem dX7_writeWords_79 : decode cX7_writeWords 79 = .ok (.iload_n 3, 1) := by decide +kernel
theorem dX7_writeWords_80 : decode cX7_writeWords 80 = .ok (.i2l, 1) := by decide +kernel
theorem dX7_writeWords_81 : decode cX7_writeWords 81 = .ok (.ladd, 1) := by decide +kernel
theorem dX7_writeWords_82 : decode cX7_writeWords 82 = .ok (.lastore, 1) := by decide +kernel
theorem dX7_writeWords_83 : decode cX7_writeWords 83 = .ok (.return_, 1) := by decide +kernel
theorem dX7_writeBitsOf_0 : decode cX7_writeBitsOf 0 = .ok (.aload_n 0, 1) := by decide +kernel
theorem dX7_writeBitsOf_1 : decode cX7_writeBitsOf 1 = .ok (.getfield 41, 3) := by decide +kernel
theorem dX7_writeBitsOf_4 : decode cX7_writeBitsOf 4 = .ok (.iload_n 1, 1) := by decide +kernel
theorem dX7_writeBitsOf_5 : decode cX7_writeBitsOf 5 = .ok (.laload, 1) := by decide +kernel
theorem dX7_writeBitsOf_6 : decode cX7_writeBitsOf 6 = .ok (.lstore 4, 2) := by decide +kernel
theorem dX7_writeBitsOf_8 : decode cX7_writeBitsOf 8 = .ok (.lload 4, 2) := by decide +kernel
theorem dX7_writeBitsOf_10 : decode cX7_writeBitsOf 10 = .ok (.ldc2_w 79, 3) := by decide +kernel
theorem dX7_writeBitsOf_13 : decode cX7_writeBitsOf 13 = .ok (.iload_n 2, 1) := by decide +kernel
theorem dX7_writeBitsOf_14 : decode cX7_writeBitsOf 14 = .ok (.i2l, 1) := by decide +kernel
theorem dX7_writeBitsOf_15 : decode cX7_writeBitsOf 15 = .ok (.lmul, 1) := by decide +kernel
theorem dX7_writeBitsOf_16 : decode cX7_writeBitsOf 16 = .ok (.lcmp, 1) := by decide +kernel
theorem dX7_writeBitsOf_17 : decode cX7_writeBitsOf 17 = .ok (.ifCond .lt 36, 3) := by decide +kernel
theorem dX7_writeBitsOf_20 : decode cX7_writeBitsOf 20 = .ok (.aload_n 0, 1) := by decide +kernel
theorem dX7_writeBitsOf_21 : decode cX7_writeBitsOf 21 = .ok (.getfield 49, 3) := by decide +kernel
theorem dX7_writeBitsOf_24 : decode cX7_writeBitsOf 24 = .ok (.aload_n 0, 1) := by decide +kernel
theorem dX7_writeBitsOf_25 : decode cX7_writeBitsOf 25 = .ok (.getfield 113, 3) := by decide +kernel
theorem dX7_writeBitsOf_28 : decode cX7_writeBitsOf 28 = .ok (.lload 4, 2) := by decide +kernel
theorem dX7_writeBitsOf_30 : decode cX7_writeBitsOf 30 = .ok (.l2i, 1) := by decide +kernel
theorem dX7_writeBitsOf_31 : decode cX7_writeBitsOf 31 = .ok (.iconst 1, 1) := by decide +kernel
theorem dX7_writeBitsOf_32 : decode cX7_writeBitsOf 32 = .ok (.iand, 1) := by decide +kernel
theorem dX7_writeBitsOf_33 : decode cX7_writeBitsOf 33 = .ok (.iastore, 1) := by decide +kernel
theorem dX7_writeBitsOf_34 : decode cX7_writeBitsOf 34 = .ok (.aload_n 0, 1) := by decide +kernel
theorem dX7_writeBitsOf_35 : decode cX7_writeBitsOf 35 = .ok (.dup, 1) := by decide +kernel
theorem dX7_writeBitsOf_36 : decode cX7_writeBitsOf 36 = .ok (.getfield 113, 3) := by decide +kernel
theorem dX7_writeBitsOf_39 : decode cX7_writeBitsOf 39 = .ok (.iconst 1, 1) := by decide +kernel
theorem dX7_writeBitsOf_40 : decode cX7_writeBitsOf 40 = .ok (.iadd, 1) := by decide +kernel
theorem dX7_writeBitsOf_41 : decode cX7_writeBitsOf 41 = .ok (.putfield 113, 3) := by decide +kernel
theorem dX7_writeBitsOf_44 : decode cX7_writeBitsOf 44 = .ok (.lload 4, 2) := by decide +kernel
theorem dX7_writeBitsOf_46 : decode cX7_writeBitsOf 46 = .ok (.iconst 1, 1) := by decide +kernel
theorem dX7_writeBitsOf_47 : decode cX7_writeBitsOf 47 = .ok (.lshr, 1) := by decide +kernel
theorem dX7_writeBitsOf_48 : decode cX7_writeBitsOf 48 = .ok (.lstore 4, 2) := by decide +kernel
theorem dX7_writeBitsOf_50 : decode cX7_writeBitsOf 50 = .ok (.goto (-42), 3) := by decide +kernel
theorem dX7_writeBitsOf_53 : decode cX7_writeBitsOf 53 = .ok (.aload_n 0, 1) := by decide +kernel
theorem dX7_writeBitsOf_54 : decode cX7_writeBitsOf 54 = .ok (.getfield 41, 3) := by decide +kernel
theorem dX7_writeBitsOf_57 : decode cX7_writeBitsOf 57 = .ok (.iload_n 1, 1) := by decide +kernel
theorem dX7_writeBitsOf_58 : decode cX7_writeBitsOf 58 = .ok (.lconst 1, 1) := by decide +kernel
theorem dX7_writeBitsOf_59 : decode cX7_writeBitsOf 59 = .ok (.aload_n 0, 1) := by decide +kernel
theorem dX7_writeBitsOf_60 : decode cX7_writeBitsOf 60 = .ok (.getfield 59, 3) := by decide +kernel
theorem dX7_writeBitsOf_63 : decode cX7_writeBitsOf 63 = .ok (.lshl, 1) := by decide +kernel
theorem dX7_writeBitsOf_64 : decode cX7_writeBitsOf 64 = .ok (.aload_n 0, 1) := by decide +kernel
theorem dX7_writeBitsOf_65 : decode cX7_writeBitsOf 65 = .ok (.getfield 35, 3) := by decide +kernel
theorem dX7_writeBitsOf_68 : decode cX7_writeBitsOf 68 = .ok (.iload_n 3, 1) := by decide +kernel
theorem dX7_writeBitsOf_69 : decode cX7_writeBitsOf 69 = .ok (.lload 4, 2) := by decide +kernel
theorem dX7_writeBitsOf_71 : decode cX7_writeBitsOf 71 = .ok (.l2i, 1) := by decide +kernel
theorem dX7_writeBitsOf_72 : decode cX7_writeBitsOf 72 = .ok (.iadd, 1) := by decide +kernel
theorem dX7_writeBitsOf_73 : decode cX7_writeBitsOf 73 = .ok (.iload_n 2, 1) := by decide +kernel
theorem dX7_writeBitsOf_74 : decode cX7_writeBitsOf 74 = .ok (.isub, 1) := by decide +kernel
theorem dX7_writeBitsOf_75 : decode cX7_writeBitsOf 75 = .ok (.iaload, 1) := by decide +kernel
theorem dX7_writeBitsOf_76 : decode cX7_writeBitsOf 76 = .ok (.i2l, 1) := by decide +kernel
theorem dX7_writeBitsOf_77 : decode cX7_writeBitsOf 77 = .ok (.ladd, 1) := by decide +kernel
theorem dX7_writeBitsOf_78 : decode cX7_writeBitsOf 78 = .ok (.lastore, 1) := by decide +kernel
theorem dX7_writeBitsOf_79 : decode cX7_writeBitsOf 79 = .ok (.return_, 1) := by decide +kernel
theorem dX7_laySides_0 : decode cX7_laySides 0 = .ok (.aload_n 0, 1) := by decide +kernel
theorem dX7_laySides_1 : decode cX7_laySides 1 = .ok (.iconst 0, 1) := by decide +kernel
theorem dX7_laySides_2 : decode cX7_laySides 2 = .ok (.putfield 116, 3) := by decide +kernel
theorem dX7_laySides_5 : decode cX7_laySides 5 = .ok (.aload_n 0, 1) := by decide +kernel
theorem dX7_laySides_6 : decode cX7_laySides 6 = .ok (.iconst 0, 1) := by decide +kernel
theorem dX7_laySides_7 : decode cX7_laySides 7 = .ok (.putfield 119, 3) := by decide +kernel
theorem dX7_laySides_10 : decode cX7_laySides 10 = .ok (.iconst 0, 1) := by decide +kernel
theorem dX7_laySides_11 : decode cX7_laySides 11 = .ok (.istore 4, 2) := by decide +kernel
theorem dX7_laySides_13 : decode cX7_laySides 13 = .ok (.iload 4, 2) := by decide +kernel
theorem dX7_laySides_15 : decode cX7_laySides 15 = .ok (.bipush 32, 2) := by decide +kernel
theorem dX7_laySides_17 : decode cX7_laySides 17 = .ok (.if_icmp .ge 76, 3) := by decide +kernel
theorem dX7_laySides_20 : decode cX7_laySides 20 = .ok (.iload 4, 2) := by decide +kernel
theorem dX7_laySides_22 : decode cX7_laySides 22 = .ok (.iconst 5, 1) := by decide +kernel
theorem dX7_laySides_23 : decode cX7_laySides 23 = .ok (.iload_n 3, 1) := by decide +kernel
theorem dX7_laySides_24 : decode cX7_laySides 24 = .ok (.isub, 1) := by decide +kernel
theorem dX7_laySides_25 : decode cX7_laySides 25 = .ok (.ishr, 1) := by decide +kernel
theorem dX7_laySides_26 : decode cX7_laySides 26 = .ok (.iload_n 2, 1) := by decide +kernel
theorem dX7_laySides_27 : decode cX7_laySides 27 = .ok (.if_icmp .ne 60, 3) := by decide +kernel
theorem dX7_laySides_30 : decode cX7_laySides 30 = .ok (.aload_n 0, 1) := by decide +kernel
theorem dX7_laySides_31 : decode cX7_laySides 31 = .ok (.dup, 1) := by decide +kernel
theorem dX7_laySides_32 : decode cX7_laySides 32 = .ok (.getfield 116, 3) := by decide +kernel
theorem dX7_laySides_35 : decode cX7_laySides 35 = .ok (.aload_n 0, 1) := by decide +kernel
theorem dX7_laySides_36 : decode cX7_laySides 36 = .ok (.getfield 20, 3) := by decide +kernel
theorem dX7_laySides_39 : decode cX7_laySides 39 = .ok (.bipush 32, 2) := by decide +kernel
theorem dX7_laySides_41 : decode cX7_laySides 41 = .ok (.iload_n 1, 1) := by decide +kernel
theorem dX7_laySides_42 : decode cX7_laySides 42 = .ok (.imul, 1) := by decide +kernel
theorem dX7_laySides_43 : decode cX7_laySides 43 = .ok (.iload 4, 2) := by decide +kernel
theorem dX7_laySides_45 : decode cX7_laySides 45 = .ok (.iadd, 1) := by decide +kernel
theorem dX7_laySides_46 : decode cX7_laySides 46 = .ok (.iaload, 1) := by decide +kernel
theorem dX7_laySides_47 : decode cX7_laySides 47 = .ok (.iadd, 1) := by decide +kernel
theorem dX7_laySides_48 : decode cX7_laySides 48 = .ok (.putfield 116, 3) := by decide +kernel
theorem dX7_laySides_51 : decode cX7_laySides 51 = .ok (.aload_n 0, 1) := by decide +kernel
theorem dX7_laySides_52 : decode cX7_laySides 52 = .ok (.dup, 1) := by decide +kernel
theorem dX7_laySides_53 : decode cX7_laySides 53 = .ok (.getfield 119, 3) := by decide +kernel
theorem dX7_laySides_56 : decode cX7_laySides 56 = .ok (.iload 4, 2) := by decide +kernel
theorem dX7_laySides_58 : decode cX7_laySides 58 = .ok (.iconst 4, 1) := by decide +kernel
theorem dX7_laySides_59 : decode cX7_laySides 59 = .ok (.iload_n 3, 1) := by decide +kernel
theorem dX7_laySides_60 : decode cX7_laySides 60 = .ok (.isub, 1) := by decide +kernel
theorem dX7_laySides_61 : decode cX7_laySides 61 = .ok (.ishr, 1) := by decide +kernel
theorem dX7_laySides_62 : decode cX7_laySides 62 = .ok (.iconst 1, 1) := by decide +kernel
theorem dX7_laySides_63 : decode cX7_laySides 63 = .ok (.iand, 1) := by decide +kernel
theorem dX7_laySides_64 : decode cX7_laySides 64 = .ok (.ifCond .ne 18, 3) := by decide +kernel
theorem dX7_laySides_67 : decode cX7_laySides 67 = .ok (.aload_n 0, 1) := by decide +kernel
theorem dX7_laySides_68 : decode cX7_laySides 68 = .ok (.getfield 20, 3) := by decide +kernel
theorem dX7_laySides_71 : decode cX7_laySides 71 = .ok (.bipush 32, 2) := by decide +kernel
theorem dX7_laySides_73 : decode cX7_laySides 73 = .ok (.iload_n 1, 1) := by decide +kernel
theorem dX7_laySides_74 : decode cX7_laySides 74 = .ok (.imul, 1) := by decide +kernel
theorem dX7_laySides_75 : decode cX7_laySides 75 = .ok (.iload 4, 2) := by decide +kernel
theorem dX7_laySides_77 : decode cX7_laySides 77 = .ok (.iadd, 1) := by decide +kernel
theorem dX7_laySides_78 : decode cX7_laySides 78 = .ok (.iaload, 1) := by decide +kernel
theorem dX7_laySides_79 : decode cX7_laySides 79 = .ok (.goto 4, 3) := by decide +kernel
theorem dX7_laySides_82 : decode cX7_laySides 82 = .ok (.iconst 0, 1) := by decide +kernel
theorem dX7_laySides_83 : decode cX7_laySides 83 = .ok (.iadd, 1) := by decide +kernel
theorem dX7_laySides_84 : decode cX7_laySides 84 = .ok (.putfield 119, 3) := by decide +kernel
theorem dX7_laySides_87 : decode cX7_laySides 87 = .ok (.iinc 4 1, 3) := by decide +kernel
theorem dX7_laySides_90 : decode cX7_laySides 90 = .ok (.goto (-77), 3) := by decide +kernel
theorem dX7_laySides_93 : decode cX7_laySides 93 = .ok (.return_, 1) := by decide +kernel

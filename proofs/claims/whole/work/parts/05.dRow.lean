theorem d_R_topLimb_0 : decode b_R_topLimb 0 = .ok (.aload_n 0, 1) := by decide +kernel
theorem d_R_topLimb_1 : decode b_R_topLimb 1 = .ok (.arraylength, 1) := by decide +kernel
theorem d_R_topLimb_2 : decode b_R_topLimb 2 = .ok (.iconst 1, 1) := by decide +kernel
theorem d_R_topLimb_3 : decode b_R_topLimb 3 = .ok (.isub, 1) := by decide +kernel
theorem d_R_topLimb_4 : decode b_R_topLimb 4 = .ok (.istore_n 1, 1) := by decide +kernel
theorem d_R_topLimb_5 : decode b_R_topLimb 5 = .ok (.iload_n 1, 1) := by decide +kernel
theorem d_R_topLimb_6 : decode b_R_topLimb 6 = .ok (.ifCond .lt 15, 3) := by decide +kernel
theorem d_R_topLimb_9 : decode b_R_topLimb 9 = .ok (.aload_n 0, 1) := by decide +kernel
theorem d_R_topLimb_10 : decode b_R_topLimb 10 = .ok (.iload_n 1, 1) := by decide +kernel
theorem d_R_topLimb_11 : decode b_R_topLimb 11 = .ok (.iaload, 1) := by decide +kernel
theorem d_R_topLimb_12 : decode b_R_topLimb 12 = .ok (.ifCond .ne 9, 3) := by decide +kernel
theorem d_R_topLimb_15 : decode b_R_topLimb 15 = .ok (.iinc 1 (-1), 3) := by decide +kernel
theorem d_R_topLimb_18 : decode b_R_topLimb 18 = .ok (.goto (-13), 3) := by decide +kernel
theorem d_R_topLimb_21 : decode b_R_topLimb 21 = .ok (.iload_n 1, 1) := by decide +kernel
theorem d_R_topLimb_22 : decode b_R_topLimb 22 = .ok (.ireturn, 1) := by decide +kernel
theorem d_R_digits_0 : decode b_R_digits 0 = .ok (.aload_n 0, 1) := by decide +kernel
theorem d_R_digits_1 : decode b_R_digits 1 = .ok (.invokestatic 9, 3) := by decide +kernel
theorem d_R_digits_4 : decode b_R_digits 4 = .ok (.istore_n 1, 1) := by decide +kernel
theorem d_R_digits_5 : decode b_R_digits 5 = .ok (.iload_n 1, 1) := by decide +kernel
theorem d_R_digits_6 : decode b_R_digits 6 = .ok (.ifCond .ge 5, 3) := by decide +kernel
theorem d_R_digits_9 : decode b_R_digits 9 = .ok (.iconst 0, 1) := by decide +kernel
theorem d_R_digits_10 : decode b_R_digits 10 = .ok (.ireturn, 1) := by decide +kernel
theorem d_R_digits_11 : decode b_R_digits 11 = .ok (.iload_n 1, 1) := by decide +kernel
theorem d_R_digits_12 : decode b_R_digits 12 = .ok (.iconst 4, 1) := by decide +kernel
theorem d_R_digits_13 : decode b_R_digits 13 = .ok (.imul, 1) := by decide +kernel
theorem d_R_digits_14 : decode b_R_digits 14 = .ok (.iconst 1, 1) := by decide +kernel
theorem d_R_digits_15 : decode b_R_digits 15 = .ok (.iadd, 1) := by decide +kernel
theorem d_R_digits_16 : decode b_R_digits 16 = .ok (.istore_n 2, 1) := by decide +kernel
theorem d_R_digits_17 : decode b_R_digits 17 = .ok (.iconst 1, 1) := by decide +kernel
theorem d_R_digits_18 : decode b_R_digits 18 = .ok (.istore_n 3, 1) := by decide +kernel
theorem d_R_digits_19 : decode b_R_digits 19 = .ok (.iload_n 3, 1) := by decide +kernel
theorem d_R_digits_20 : decode b_R_digits 20 = .ok (.iconst 4, 1) := by decide +kernel
theorem d_R_digits_21 : decode b_R_digits 21 = .ok (.if_icmp .ge 23, 3) := by decide +kernel
theorem d_R_digits_24 : decode b_R_digits 24 = .ok (.aload_n 0, 1) := by decide +kernel
theorem d_R_digits_25 : decode b_R_digits 25 = .ok (.iload_n 1, 1) := by decide +kernel
theorem d_R_digits_26 : decode b_R_digits 26 = .ok (.iaload, 1) := by decide +kernel
theorem d_R_digits_27 : decode b_R_digits 27 = .ok (.getstatic 15, 3) := by decide +kernel
theorem d_R_digits_30 : decode b_R_digits 30 = .ok (.iload_n 3, 1) := by decide +kernel
theorem d_R_digits_31 : decode b_R_digits 31 = .ok (.iaload, 1) := by decide +kernel
theorem d_R_digits_32 : decode b_R_digits 32 = .ok (.if_icmp .lt 12, 3) := by decide +kernel
theorem d_R_digits_35 : decode b_R_digits 35 = .ok (.iinc 2 1, 3) := by decide +kernel
theorem d_R_digits_38 : decode b_R_digits 38 = .ok (.iinc 3 1, 3) := by decide +kernel
theorem d_R_digits_41 : decode b_R_digits 41 = .ok (.goto (-22), 3) := by decide +kernel
theorem d_R_digits_44 : decode b_R_digits 44 = .ok (.iload_n 2, 1) := by decide +kernel
theorem d_R_digits_45 : decode b_R_digits 45 = .ok (.ireturn, 1) := by decide +kernel
theorem d_R_digitAt_0 : decode b_R_digitAt 0 = .ok (.iload_n 1, 1) := by decide +kernel
theorem d_R_digitAt_1 : decode b_R_digitAt 1 = .ok (.ifCond .lt 11, 3) := by decide +kernel
theorem d_R_digitAt_4 : decode b_R_digitAt 4 = .ok (.iload_n 1, 1) := by decide +kernel
theorem d_R_digitAt_5 : decode b_R_digitAt 5 = .ok (.aload_n 0, 1) := by decide +kernel
theorem d_R_digitAt_6 : decode b_R_digitAt 6 = .ok (.arraylength, 1) := by decide +kernel
theorem d_R_digitAt_7 : decode b_R_digitAt 7 = .ok (.iconst 4, 1) := by decide +kernel
theorem d_R_digitAt_8 : decode b_R_digitAt 8 = .ok (.imul, 1) := by decide +kernel
theorem d_R_digitAt_9 : decode b_R_digitAt 9 = .ok (.if_icmp .lt 5, 3) := by decide +kernel
theorem d_R_digitAt_12 : decode b_R_digitAt 12 = .ok (.iconst 0, 1) := by decide +kernel
theorem d_R_digitAt_13 : decode b_R_digitAt 13 = .ok (.ireturn, 1) := by decide +kernel
theorem d_R_digitAt_14 : decode b_R_digitAt 14 = .ok (.aload_n 0, 1) := by decide +kernel
theorem d_R_digitAt_15 : decode b_R_digitAt 15 = .ok (.iload_n 1, 1) := by decide +kernel
theorem d_R_digitAt_16 : decode b_R_digitAt 16 = .ok (.iconst 4, 1) := by decide +kernel
theorem d_R_digitAt_17 : decode b_R_digitAt 17 = .ok (.idiv, 1) := by decide +kernel
theorem d_R_digitAt_18 : decode b_R_digitAt 18 = .ok (.iaload, 1) := by decide +kernel
theorem d_R_digitAt_19 : decode b_R_digitAt 19 = .ok (.getstatic 15, 3) := by decide +kernel
theorem d_R_digitAt_22 : decode b_R_digitAt 22 = .ok (.iload_n 1, 1) := by decide +kernel
theorem d_R_digitAt_23 : decode b_R_digitAt 23 = .ok (.iconst 4, 1) := by decide +kernel
theorem d_R_digitAt_24 : decode b_R_digitAt 24 = .ok (.irem, 1) := by decide +kernel
theorem d_R_digitAt_25 : decode b_R_digitAt 25 = .ok (.iaload, 1) := by decide +kernel
theorem d_R_digitAt_26 : decode b_R_digitAt 26 = .ok (.idiv, 1) := by decide +kernel
theorem d_R_digitAt_27 : decode b_R_digitAt 27 = .ok (.bipush 10, 2) := by decide +kernel
theorem d_R_digitAt_29 : decode b_R_digitAt 29 = .ok (.irem, 1) := by decide +kernel
theorem d_R_digitAt_30 : decode b_R_digitAt 30 = .ok (.ireturn, 1) := by decide +kernel
theorem d_R_cut_0 : decode b_R_cut 0 = .ok (.iload_n 1, 1) := by decide +kernel
theorem d_R_cut_1 : decode b_R_cut 1 = .ok (.ifCond .gt 4, 3) := by decide +kernel
theorem d_R_cut_4 : decode b_R_cut 4 = .ok (.return_, 1) := by decide +kernel
theorem d_R_cut_5 : decode b_R_cut 5 = .ok (.iload_n 1, 1) := by decide +kernel
theorem d_R_cut_6 : decode b_R_cut 6 = .ok (.iconst 4, 1) := by decide +kernel
theorem d_R_cut_7 : decode b_R_cut 7 = .ok (.idiv, 1) := by decide +kernel
theorem d_R_cut_8 : decode b_R_cut 8 = .ok (.aload_n 0, 1) := by decide +kernel
theorem d_R_cut_9 : decode b_R_cut 9 = .ok (.arraylength, 1) := by decide +kernel
theorem d_R_cut_10 : decode b_R_cut 10 = .ok (.invokestatic 19, 3) := by decide +kernel
theorem d_R_cut_13 : decode b_R_cut 13 = .ok (.istore_n 2, 1) := by decide +kernel
theorem d_R_cut_14 : decode b_R_cut 14 = .ok (.iconst 0, 1) := by decide +kernel
theorem d_R_cut_15 : decode b_R_cut 15 = .ok (.istore_n 3, 1) := by decide +kernel
theorem d_R_cut_16 : decode b_R_cut 16 = .ok (.iload_n 3, 1) := by decide +kernel
theorem d_R_cut_17 : decode b_R_cut 17 = .ok (.iload_n 2, 1) := by decide +kernel
theorem d_R_cut_18 : decode b_R_cut 18 = .ok (.if_icmp .ge 13, 3) := by decide +kernel
theorem d_R_cut_21 : decode b_R_cut 21 = .ok (.aload_n 0, 1) := by decide +kernel
theorem d_R_cut_22 : decode b_R_cut 22 = .ok (.iload_n 3, 1) := by decide +kernel
theorem d_R_cut_23 : decode b_R_cut 23 = .ok (.iconst 0, 1) := by decide +kernel
theorem d_R_cut_24 : decode b_R_cut 24 = .ok (.iastore, 1) := by decide +kernel
theorem d_R_cut_25 : decode b_R_cut 25 = .ok (.iinc 3 1, 3) := by decide +kernel
theorem d_R_cut_28 : decode b_R_cut 28 = .ok (.goto (-12), 3) := by decide +kernel
theorem d_R_cut_31 : decode b_R_cut 31 = .ok (.iload_n 2, 1) := by decide +kernel
theorem d_R_cut_32 : decode b_R_cut 32 = .ok (.aload_n 0, 1) := by decide +kernel
theorem d_R_cut_33 : decode b_R_cut 33 = .ok (.arraylength, 1) := by decide +kernel
theorem d_R_cut_34 : decode b_R_cut 34 = .ok (.if_icmp .ge 20, 3) := by decide +kernel
theorem d_R_cut_37 : decode b_R_cut 37 = .ok (.aload_n 0, 1) := by decide +kernel
theorem d_R_cut_38 : decode b_R_cut 38 = .ok (.iload_n 2, 1) := by decide +kernel
theorem d_R_cut_39 : decode b_R_cut 39 = .ok (.dup2, 1) := by decide +kernel
theorem d_R_cut_40 : decode b_R_cut 40 = .ok (.iaload, 1) := by decide +kernel
theorem d_R_cut_41 : decode b_R_cut 41 = .ok (.aload_n 0, 1) := by decide +kernel
theorem d_R_cut_42 : decode b_R_cut 42 = .ok (.iload_n 2, 1) := by decide +kernel
theorem d_R_cut_43 : decode b_R_cut 43 = .ok (.iaload, 1) := by decide +kernel
theorem d_R_cut_44 : decode b_R_cut 44 = .ok (.getstatic 15, 3) := by decide +kernel
theorem d_R_cut_47 : decode b_R_cut 47 = .ok (.iload_n 1, 1) := by decide +kernel
theorem d_R_cut_48 : decode b_R_cut 48 = .ok (.iconst 4, 1) := by decide +kernel
theorem d_R_cut_49 : decode b_R_cut 49 = .ok (.irem, 1) := by decide +kernel
theorem d_R_cut_50 : decode b_R_cut 50 = .ok (.iaload, 1) := by decide +kernel
theorem d_R_cut_51 : decode b_R_cut 51 = .ok (.irem, 1) := by decide +kernel
theorem d_R_cut_52 : decode b_R_cut 52 = .ok (.isub, 1) := by decide +kernel
theorem d_R_cut_53 : decode b_R_cut 53 = .ok (.iastore, 1) := by decide +kernel
theorem d_R_cut_54 : decode b_R_cut 54 = .ok (.return_, 1) := by decide +kernel
theorem d_R_roundOff_0 : decode b_R_roundOff 0 = .ok (.aload_n 0, 1) := by decide +kernel
theorem d_R_roundOff_1 : decode b_R_roundOff 1 = .ok (.iload_n 1, 1) := by decide +kernel
theorem d_R_roundOff_2 : decode b_R_roundOff 2 = .ok (.iconst 1, 1) := by decide +kernel
theorem d_R_roundOff_3 : decode b_R_roundOff 3 = .ok (.isub, 1) := by decide +kernel
theorem d_R_roundOff_4 : decode b_R_roundOff 4 = .ok (.invokestatic 25, 3) := by decide +kernel
theorem d_R_roundOff_7 : decode b_R_roundOff 7 = .ok (.iconst 5, 1) := by decide +kernel
theorem d_R_roundOff_8 : decode b_R_roundOff 8 = .ok (.if_icmp .lt 7, 3) := by decide +kernel
theorem d_R_roundOff_11 : decode b_R_roundOff 11 = .ok (.iconst 1, 1) := by decide +kernel
theorem d_R_roundOff_12 : decode b_R_roundOff 12 = .ok (.goto 4, 3) := by decide +kernel
theorem d_R_roundOff_15 : decode b_R_roundOff 15 = .ok (.iconst 0, 1) := by decide +kernel
theorem d_R_roundOff_16 : decode b_R_roundOff 16 = .ok (.istore_n 2, 1) := by decide +kernel
theorem d_R_roundOff_17 : decode b_R_roundOff 17 = .ok (.aload_n 0, 1) := by decide +kernel
theorem d_R_roundOff_18 : decode b_R_roundOff 18 = .ok (.iload_n 1, 1) := by decide +kernel
theorem d_R_roundOff_19 : decode b_R_roundOff 19 = .ok (.invokestatic 29, 3) := by decide +kernel
theorem d_R_roundOff_22 : decode b_R_roundOff 22 = .ok (.iload_n 2, 1) := by decide +kernel
theorem d_R_roundOff_23 : decode b_R_roundOff 23 = .ok (.ifCond .eq 8, 3) := by decide +kernel
theorem d_R_roundOff_26 : decode b_R_roundOff 26 = .ok (.aload_n 0, 1) := by decide +kernel
theorem d_R_roundOff_27 : decode b_R_roundOff 27 = .ok (.iload_n 1, 1) := by decide +kernel
theorem d_R_roundOff_28 : decode b_R_roundOff 28 = .ok (.invokestatic 33, 3) := by decide +kernel
theorem d_R_roundOff_31 : decode b_R_roundOff 31 = .ok (.return_, 1) := by decide +kernel
theorem d_R_addOneAt_0 : decode b_R_addOneAt 0 = .ok (.iload_n 1, 1) := by decide +kernel
theorem d_R_addOneAt_1 : decode b_R_addOneAt 1 = .ok (.ifCond .ge 4, 3) := by decide +kernel
theorem d_R_addOneAt_4 : decode b_R_addOneAt 4 = .ok (.return_, 1) := by decide +kernel
theorem d_R_addOneAt_5 : decode b_R_addOneAt 5 = .ok (.getstatic 15, 3) := by decide +kernel
theorem d_R_addOneAt_8 : decode b_R_addOneAt 8 = .ok (.iload_n 1, 1) := by decide +kernel
theorem d_R_addOneAt_9 : decode b_R_addOneAt 9 = .ok (.iconst 4, 1) := by decide +kernel
theorem d_R_addOneAt_10 : decode b_R_addOneAt 10 = .ok (.irem, 1) := by decide +kernel
theorem d_R_addOneAt_11 : decode b_R_addOneAt 11 = .ok (.iaload, 1) := by decide +kernel
theorem d_R_addOneAt_12 : decode b_R_addOneAt 12 = .ok (.istore_n 2, 1) := by decide +kernel
theorem d_R_addOneAt_13 : decode b_R_addOneAt 13 = .ok (.iload_n 1, 1) := by decide +kernel
theorem d_R_addOneAt_14 : decode b_R_addOneAt 14 = .ok (.iconst 4, 1) := by decide +kernel
theorem d_R_addOneAt_15 : decode b_R_addOneAt 15 = .ok (.idiv, 1) := by decide +kernel
theorem d_R_addOneAt_16 : decode b_R_addOneAt 16 = .ok (.istore_n 3, 1) := by decide +kernel
theorem d_R_addOneAt_17 : decode b_R_addOneAt 17 = .ok (.iload_n 3, 1) := by decide +kernel
theorem d_R_addOneAt_18 : decode b_R_addOneAt 18 = .ok (.aload_n 0, 1) := by decide +kernel
theorem d_R_addOneAt_19 : decode b_R_addOneAt 19 = .ok (.arraylength, 1) := by decide +kernel
theorem d_R_addOneAt_20 : decode b_R_addOneAt 20 = .ok (.if_icmp .ge 36, 3) := by decide +kernel
theorem d_R_addOneAt_23 : decode b_R_addOneAt 23 = .ok (.iload_n 2, 1) := by decide +kernel
theorem d_R_addOneAt_24 : decode b_R_addOneAt 24 = .ok (.ifCond .le 32, 3) := by decide +kernel
theorem d_R_addOneAt_27 : decode b_R_addOneAt 27 = .ok (.aload_n 0, 1) := by decide +kernel
theorem d_R_addOneAt_28 : decode b_R_addOneAt 28 = .ok (.iload_n 3, 1) := by decide +kernel
theorem d_R_addOneAt_29 : decode b_R_addOneAt 29 = .ok (.iaload, 1) := by decide +kernel
theorem d_R_addOneAt_30 : decode b_R_addOneAt 30 = .ok (.iload_n 2, 1) := by decide +kernel
theorem d_R_addOneAt_31 : decode b_R_addOneAt 31 = .ok (.iadd, 1) := by decide +kernel
theorem d_R_addOneAt_32 : decode b_R_addOneAt 32 = .ok (.istore 4, 2) := by decide +kernel
theorem d_R_addOneAt_34 : decode b_R_addOneAt 34 = .ok (.iload 4, 2) := by decide +kernel
theorem d_R_addOneAt_36 : decode b_R_addOneAt 36 = .ok (.sipush 10000, 3) := by decide +kernel
theorem d_R_addOneAt_39 : decode b_R_addOneAt 39 = .ok (.idiv, 1) := by decide +kernel
theorem d_R_addOneAt_40 : decode b_R_addOneAt 40 = .ok (.istore_n 2, 1) := by decide +kernel
theorem d_R_addOneAt_41 : decode b_R_addOneAt 41 = .ok (.aload_n 0, 1) := by decide +kernel
theorem d_R_addOneAt_42 : decode b_R_addOneAt 42 = .ok (.iload_n 3, 1) := by decide +kernel
theorem d_R_addOneAt_43 : decode b_R_addOneAt 43 = .ok (.iload 4, 2) := by decide +kernel
theorem d_R_addOneAt_45 : decode b_R_addOneAt 45 = .ok (.sipush 10000, 3) := by decide +kernel
theorem d_R_addOneAt_48 : decode b_R_addOneAt 48 = .ok (.irem, 1) := by decide +kernel
theorem d_R_addOneAt_49 : decode b_R_addOneAt 49 = .ok (.iastore, 1) := by decide +kernel
theorem d_R_addOneAt_50 : decode b_R_addOneAt 50 = .ok (.iinc 3 1, 3) := by decide +kernel
theorem d_R_addOneAt_53 : decode b_R_addOneAt 53 = .ok (.goto (-36), 3) := by decide +kernel
theorem d_R_addOneAt_56 : decode b_R_addOneAt 56 = .ok (.return_, 1) := by decide +kernel
theorem d_R_add_0 : decode b_R_add 0 = .ok (.iconst 0, 1) := by decide +kernel
theorem d_R_add_1 : decode b_R_add 1 = .ok (.istore_n 2, 1) := by decide +kernel
theorem d_R_add_2 : decode b_R_add 2 = .ok (.iconst 0, 1) := by decide +kernel
theorem d_R_add_3 : decode b_R_add 3 = .ok (.istore_n 3, 1) := by decide +kernel
theorem d_R_add_4 : decode b_R_add 4 = .ok (.iload_n 3, 1) := by decide +kernel
theorem d_R_add_5 : decode b_R_add 5 = .ok (.aload_n 0, 1) := by decide +kernel
theorem d_R_add_6 : decode b_R_add 6 = .ok (.arraylength, 1) := by decide +kernel
theorem d_R_add_7 : decode b_R_add 7 = .ok (.if_icmp .ge 42, 3) := by decide +kernel
theorem d_R_add_10 : decode b_R_add 10 = .ok (.iload_n 3, 1) := by decide +kernel
theorem d_R_add_11 : decode b_R_add 11 = .ok (.aload_n 1, 1) := by decide +kernel
theorem d_R_add_12 : decode b_R_add 12 = .ok (.arraylength, 1) := by decide +kernel
theorem d_R_add_13 : decode b_R_add 13 = .ok (.if_icmp .ge 36, 3) := by decide +kernel
theorem d_R_add_16 : decode b_R_add 16 = .ok (.aload_n 0, 1) := by decide +kernel
theorem d_R_add_17 : decode b_R_add 17 = .ok (.iload_n 3, 1) := by decide +kernel
theorem d_R_add_18 : decode b_R_add 18 = .ok (.iaload, 1) := by decide +kernel
theorem d_R_add_19 : decode b_R_add 19 = .ok (.aload_n 1, 1) := by decide +kernel
theorem d_R_add_20 : decode b_R_add 20 = .ok (.iload_n 3, 1) := by decide +kernel
theorem d_R_add_21 : decode b_R_add 21 = .ok (.iaload, 1) := by decide +kernel
theorem d_R_add_22 : decode b_R_add 22 = .ok (.iadd, 1) := by decide +kernel
theorem d_R_add_23 : decode b_R_add 23 = .ok (.iload_n 2, 1) := by decide +kernel
theorem d_R_add_24 : decode b_R_add 24 = .ok (.iadd, 1) := by decide +kernel
theorem d_R_add_25 : decode b_R_add 25 = .ok (.istore 4, 2) := by decide +kernel
theorem d_R_add_27 : decode b_R_add 27 = .ok (.iload 4, 2) := by decide +kernel
theorem d_R_add_29 : decode b_R_add 29 = .ok (.sipush 10000, 3) := by decide +kernel
theorem d_R_add_32 : decode b_R_add 32 = .ok (.idiv, 1) := by decide +kernel
theorem d_R_add_33 : decode b_R_add 33 = .ok (.istore_n 2, 1) := by decide +kernel
theorem d_R_add_34 : decode b_R_add 34 = .ok (.aload_n 0, 1) := by decide +kernel
theorem d_R_add_35 : decode b_R_add 35 = .ok (.iload_n 3, 1) := by decide +kernel
theorem d_R_add_36 : decode b_R_add 36 = .ok (.iload 4, 2) := by decide +kernel
theorem d_R_add_38 : decode b_R_add 38 = .ok (.sipush 10000, 3) := by decide +kernel
theorem d_R_add_41 : decode b_R_add 41 = .ok (.irem, 1) := by decide +kernel
theorem d_R_add_42 : decode b_R_add 42 = .ok (.iastore, 1) := by decide +kernel
theorem d_R_add_43 : decode b_R_add 43 = .ok (.iinc 3 1, 3) := by decide +kernel
theorem d_R_add_46 : decode b_R_add 46 = .ok (.goto (-42), 3) := by decide +kernel
theorem d_R_add_49 : decode b_R_add 49 = .ok (.return_, 1) := by decide +kernel
theorem d_R_subtract_0 : decode b_R_subtract 0 = .ok (.iconst 0, 1) := by decide +kernel
theorem d_R_subtract_1 : decode b_R_subtract 1 = .ok (.istore_n 3, 1) := by decide +kernel
theorem d_R_subtract_2 : decode b_R_subtract 2 = .ok (.iconst 0, 1) := by decide +kernel
theorem d_R_subtract_3 : decode b_R_subtract 3 = .ok (.istore 4, 2) := by decide +kernel
theorem d_R_subtract_5 : decode b_R_subtract 5 = .ok (.iload 4, 2) := by decide +kernel
theorem d_R_subtract_7 : decode b_R_subtract 7 = .ok (.aload_n 0, 1) := by decide +kernel
theorem d_R_subtract_8 : decode b_R_subtract 8 = .ok (.arraylength, 1) := by decide +kernel
theorem d_R_subtract_9 : decode b_R_subtract 9 = .ok (.if_icmp .ge 59, 3) := by decide +kernel
theorem d_R_subtract_12 : decode b_R_subtract 12 = .ok (.iload 4, 2) := by decide +kernel
theorem d_R_subtract_14 : decode b_R_subtract 14 = .ok (.aload_n 1, 1) := by decide +kernel
theorem d_R_subtract_15 : decode b_R_subtract 15 = .ok (.arraylength, 1) := by decide +kernel
theorem d_R_subtract_16 : decode b_R_subtract 16 = .ok (.if_icmp .ge 52, 3) := by decide +kernel
theorem d_R_subtract_19 : decode b_R_subtract 19 = .ok (.iload 4, 2) := by decide +kernel
theorem d_R_subtract_21 : decode b_R_subtract 21 = .ok (.aload_n 2, 1) := by decide +kernel
theorem d_R_subtract_22 : decode b_R_subtract 22 = .ok (.arraylength, 1) := by decide +kernel
theorem d_R_subtract_23 : decode b_R_subtract 23 = .ok (.if_icmp .ge 45, 3) := by decide +kernel
theorem d_R_subtract_26 : decode b_R_subtract 26 = .ok (.aload_n 1, 1) := by decide +kernel
theorem d_R_subtract_27 : decode b_R_subtract 27 = .ok (.iload 4, 2) := by decide +kernel
theorem d_R_subtract_29 : decode b_R_subtract 29 = .ok (.iaload, 1) := by decide +kernel
theorem d_R_subtract_30 : decode b_R_subtract 30 = .ok (.aload_n 2, 1) := by decide +kernel
theorem d_R_subtract_31 : decode b_R_subtract 31 = .ok (.iload 4, 2) := by decide +kernel
theorem d_R_subtract_33 : decode b_R_subtract 33 = .ok (.iaload, 1) := by decide +kernel
theorem d_R_subtract_34 : decode b_R_subtract 34 = .ok (.isub, 1) := by decide +kernel
theorem d_R_subtract_35 : decode b_R_subtract 35 = .ok (.iload_n 3, 1) := by decide +kernel
theorem d_R_subtract_36 : decode b_R_subtract 36 = .ok (.isub, 1) := by decide +kernel
theorem d_R_subtract_37 : decode b_R_subtract 37 = .ok (.istore 5, 2) := by decide +kernel
theorem d_R_subtract_39 : decode b_R_subtract 39 = .ok (.iload 5, 2) := by decide +kernel
theorem d_R_subtract_41 : decode b_R_subtract 41 = .ok (.ifCond .ge 7, 3) := by decide +kernel
theorem d_R_subtract_44 : decode b_R_subtract 44 = .ok (.iconst 1, 1) := by decide +kernel
theorem d_R_subtract_45 : decode b_R_subtract 45 = .ok (.goto 4, 3) := by decide +kernel
theorem d_R_subtract_48 : decode b_R_subtract 48 = .ok (.iconst 0, 1) := by decide +kernel
theorem d_R_subtract_49 : decode b_R_subtract 49 = .ok (.istore_n 3, 1) := by decide +kernel
theorem d_R_subtract_50 : decode b_R_subtract 50 = .ok (.aload_n 0, 1) := by decide +kernel
theorem d_R_subtract_51 : decode b_R_subtract 51 = .ok (.iload 4, 2) := by decide +kernel
theorem d_R_subtract_53 : decode b_R_subtract 53 = .ok (.iload 5, 2) := by decide +kernel
theorem d_R_subtract_55 : decode b_R_subtract 55 = .ok (.iload_n 3, 1) := by decide +kernel
theorem d_R_subtract_56 : decode b_R_subtract 56 = .ok (.sipush 10000, 3) := by decide +kernel
theorem d_R_subtract_59 : decode b_R_subtract 59 = .ok (.imul, 1) := by decide +kernel
theorem d_R_subtract_60 : decode b_R_subtract 60 = .ok (.iadd, 1) := by decide +kernel
theorem d_R_subtract_61 : decode b_R_subtract 61 = .ok (.iastore, 1) := by decide +kernel
theorem d_R_subtract_62 : decode b_R_subtract 62 = .ok (.iinc 4 1, 3) := by decide +kernel
theorem d_R_subtract_65 : decode b_R_subtract 65 = .ok (.goto (-60), 3) := by decide +kernel
theorem d_R_subtract_68 : decode b_R_subtract 68 = .ok (.return_, 1) := by decide +kernel
theorem d_R_order_0 : decode b_R_order 0 = .ok (.aload_n 0, 1) := by decide +kernel
theorem d_R_order_1 : decode b_R_order 1 = .ok (.arraylength, 1) := by decide +kernel
theorem d_R_order_2 : decode b_R_order 2 = .ok (.aload_n 1, 1) := by decide +kernel
theorem d_R_order_3 : decode b_R_order 3 = .ok (.arraylength, 1) := by decide +kernel
theorem d_R_order_4 : decode b_R_order 4 = .ok (.invokestatic 19, 3) := by decide +kernel
theorem d_R_order_7 : decode b_R_order 7 = .ok (.iconst 1, 1) := by decide +kernel
theorem d_R_order_8 : decode b_R_order 8 = .ok (.isub, 1) := by decide +kernel
theorem d_R_order_9 : decode b_R_order 9 = .ok (.istore_n 2, 1) := by decide +kernel
theorem d_R_order_10 : decode b_R_order 10 = .ok (.iload_n 2, 1) := by decide +kernel
theorem d_R_order_11 : decode b_R_order 11 = .ok (.ifCond .lt 33, 3) := by decide +kernel
theorem d_R_order_14 : decode b_R_order 14 = .ok (.aload_n 0, 1) := by decide +kernel
theorem d_R_order_15 : decode b_R_order 15 = .ok (.iload_n 2, 1) := by decide +kernel
theorem d_R_order_16 : decode b_R_order 16 = .ok (.iaload, 1) := by decide +kernel
theorem d_R_order_17 : decode b_R_order 17 = .ok (.aload_n 1, 1) := by decide +kernel
theorem d_R_order_18 : decode b_R_order 18 = .ok (.iload_n 2, 1) := by decide +kernel
theorem d_R_order_19 : decode b_R_order 19 = .ok (.iaload, 1) := by decide +kernel
theorem d_R_order_20 : decode b_R_order 20 = .ok (.if_icmp .eq 18, 3) := by decide +kernel
theorem d_R_order_23 : decode b_R_order 23 = .ok (.aload_n 0, 1) := by decide +kernel
theorem d_R_order_24 : decode b_R_order 24 = .ok (.iload_n 2, 1) := by decide +kernel
theorem d_R_order_25 : decode b_R_order 25 = .ok (.iaload, 1) := by decide +kernel
theorem d_R_order_26 : decode b_R_order 26 = .ok (.aload_n 1, 1) := by decide +kernel
theorem d_R_order_27 : decode b_R_order 27 = .ok (.iload_n 2, 1) := by decide +kernel
theorem d_R_order_28 : decode b_R_order 28 = .ok (.iaload, 1) := by decide +kernel
theorem d_R_order_29 : decode b_R_order 29 = .ok (.if_icmp .ge 7, 3) := by decide +kernel
theorem d_R_order_32 : decode b_R_order 32 = .ok (.iconst (-1), 1) := by decide +kernel
theorem d_R_order_33 : decode b_R_order 33 = .ok (.goto 4, 3) := by decide +kernel
theorem d_R_order_36 : decode b_R_order 36 = .ok (.iconst 1, 1) := by decide +kernel
theorem d_R_order_37 : decode b_R_order 37 = .ok (.ireturn, 1) := by decide +kernel
theorem d_R_order_38 : decode b_R_order 38 = .ok (.iinc 2 (-1), 3) := by decide +kernel
theorem d_R_order_41 : decode b_R_order 41 = .ok (.goto (-31), 3) := by decide +kernel
theorem d_R_order_44 : decode b_R_order 44 = .ok (.iconst 0, 1) := by decide +kernel
theorem d_R_order_45 : decode b_R_order 45 = .ok (.ireturn, 1) := by decide +kernel
theorem d_R_multiplyByLimb_0 : decode b_R_multiplyByLimb 0 = .ok (.aload_n 0, 1) := by decide +kernel
theorem d_R_multiplyByLimb_1 : decode b_R_multiplyByLimb 1 = .ok (.iconst 0, 1) := by decide +kernel
theorem d_R_multiplyByLimb_2 : decode b_R_multiplyByLimb 2 = .ok (.invokestatic 36, 3) := by decide +kernel
theorem d_R_multiplyByLimb_5 : decode b_R_multiplyByLimb 5 = .ok (.aload_n 0, 1) := by decide +kernel
theorem d_R_multiplyByLimb_6 : decode b_R_multiplyByLimb 6 = .ok (.aload_n 1, 1) := by decide +kernel
theorem d_R_multiplyByLimb_7 : decode b_R_multiplyByLimb 7 = .ok (.iload_n 2, 1) := by decide +kernel
theorem d_R_multiplyByLimb_8 : decode b_R_multiplyByLimb 8 = .ok (.iload_n 3, 1) := by decide +kernel
theorem d_R_multiplyByLimb_9 : decode b_R_multiplyByLimb 9 = .ok (.invokestatic 41, 3) := by decide +kernel
theorem d_R_multiplyByLimb_12 : decode b_R_multiplyByLimb 12 = .ok (.return_, 1) := by decide +kernel
theorem d_R_multiply_0 : decode b_R_multiply 0 = .ok (.aload_n 0, 1) := by decide +kernel
theorem d_R_multiply_1 : decode b_R_multiply 1 = .ok (.iconst 0, 1) := by decide +kernel
theorem d_R_multiply_2 : decode b_R_multiply 2 = .ok (.invokestatic 36, 3) := by decide +kernel
theorem d_R_multiply_5 : decode b_R_multiply 5 = .ok (.iconst 0, 1) := by decide +kernel
theorem d_R_multiply_6 : decode b_R_multiply 6 = .ok (.istore_n 3, 1) := by decide +kernel
theorem d_R_multiply_7 : decode b_R_multiply 7 = .ok (.iload_n 3, 1) := by decide +kernel
theorem d_R_multiply_8 : decode b_R_multiply 8 = .ok (.aload_n 2, 1) := by decide +kernel
theorem d_R_multiply_9 : decode b_R_multiply 9 = .ok (.arraylength, 1) := by decide +kernel
theorem d_R_multiply_10 : decode b_R_multiply 10 = .ok (.if_icmp .ge 24, 3) := by decide +kernel
theorem d_R_multiply_13 : decode b_R_multiply 13 = .ok (.aload_n 2, 1) := by decide +kernel
theorem d_R_multiply_14 : decode b_R_multiply 14 = .ok (.iload_n 3, 1) := by decide +kernel
theorem d_R_multiply_15 : decode b_R_multiply 15 = .ok (.iaload, 1) := by decide +kernel
theorem d_R_multiply_16 : decode b_R_multiply 16 = .ok (.ifCond .eq 12, 3) := by decide +kernel
theorem d_R_multiply_19 : decode b_R_multiply 19 = .ok (.aload_n 0, 1) := by decide +kernel
theorem d_R_multiply_20 : decode b_R_multiply 20 = .ok (.aload_n 1, 1) := by decide +kernel
theorem d_R_multiply_21 : decode b_R_multiply 21 = .ok (.aload_n 2, 1) := by decide +kernel
theorem d_R_multiply_22 : decode b_R_multiply 22 = .ok (.iload_n 3, 1) := by decide +kernel
theorem d_R_multiply_23 : decode b_R_multiply 23 = .ok (.iaload, 1) := by decide +kernel
theorem d_R_multiply_24 : decode b_R_multiply 24 = .ok (.iload_n 3, 1) := by decide +kernel
theorem d_R_multiply_25 : decode b_R_multiply 25 = .ok (.invokestatic 41, 3) := by decide +kernel
theorem d_R_multiply_28 : decode b_R_multiply 28 = .ok (.iinc 3 1, 3) := by decide +kernel
theorem d_R_multiply_31 : decode b_R_multiply 31 = .ok (.goto (-24), 3) := by decide +kernel
theorem d_R_multiply_34 : decode b_R_multiply 34 = .ok (.return_, 1) := by decide +kernel
theorem d_R_addMultiple_0 : decode b_R_addMultiple 0 = .ok (.iconst 0, 1) := by decide +kernel
theorem d_R_addMultiple_1 : decode b_R_addMultiple 1 = .ok (.istore 4, 2) := by decide +kernel
theorem d_R_addMultiple_3 : decode b_R_addMultiple 3 = .ok (.iload_n 3, 1) := by decide +kernel
theorem d_R_addMultiple_4 : decode b_R_addMultiple 4 = .ok (.istore 5, 2) := by decide +kernel
theorem d_R_addMultiple_6 : decode b_R_addMultiple 6 = .ok (.iload 5, 2) := by decide +kernel
theorem d_R_addMultiple_8 : decode b_R_addMultiple 8 = .ok (.aload_n 0, 1) := by decide +kernel
theorem d_R_addMultiple_9 : decode b_R_addMultiple 9 = .ok (.arraylength, 1) := by decide +kernel
theorem d_R_addMultiple_10 : decode b_R_addMultiple 10 = .ok (.if_icmp .ge 62, 3) := by decide +kernel
theorem d_R_addMultiple_13 : decode b_R_addMultiple 13 = .ok (.iload 5, 2) := by decide +kernel
theorem d_R_addMultiple_15 : decode b_R_addMultiple 15 = .ok (.iload_n 3, 1) := by decide +kernel
theorem d_R_addMultiple_16 : decode b_R_addMultiple 16 = .ok (.isub, 1) := by decide +kernel
theorem d_R_addMultiple_17 : decode b_R_addMultiple 17 = .ok (.aload_n 1, 1) := by decide +kernel
theorem d_R_addMultiple_18 : decode b_R_addMultiple 18 = .ok (.arraylength, 1) := by decide +kernel
theorem d_R_addMultiple_19 : decode b_R_addMultiple 19 = .ok (.if_icmp .ge 12, 3) := by decide +kernel
theorem d_R_addMultiple_22 : decode b_R_addMultiple 22 = .ok (.aload_n 1, 1) := by decide +kernel
theorem d_R_addMultiple_23 : decode b_R_addMultiple 23 = .ok (.iload 5, 2) := by decide +kernel
theorem d_R_addMultiple_25 : decode b_R_addMultiple 25 = .ok (.iload_n 3, 1) := by decide +kernel
theorem d_R_addMultiple_26 : decode b_R_addMultiple 26 = .ok (.isub, 1) := by decide +kernel
theorem d_R_addMultiple_27 : decode b_R_addMultiple 27 = .ok (.iaload, 1) := by decide +kernel
theorem d_R_addMultiple_28 : decode b_R_addMultiple 28 = .ok (.goto 4, 3) := by decide +kernel
theorem d_R_addMultiple_31 : decode b_R_addMultiple 31 = .ok (.iconst 0, 1) := by decide +kernel
theorem d_R_addMultiple_32 : decode b_R_addMultiple 32 = .ok (.istore 6, 2) := by decide +kernel
theorem d_R_addMultiple_34 : decode b_R_addMultiple 34 = .ok (.aload_n 0, 1) := by decide +kernel
theorem d_R_addMultiple_35 : decode b_R_addMultiple 35 = .ok (.iload 5, 2) := by decide +kernel
theorem d_R_addMultiple_37 : decode b_R_addMultiple 37 = .ok (.iaload, 1) := by decide +kernel
theorem d_R_addMultiple_38 : decode b_R_addMultiple 38 = .ok (.iload 6, 2) := by decide +kernel
theorem d_R_addMultiple_40 : decode b_R_addMultiple 40 = .ok (.iload_n 2, 1) := by decide +kernel
theorem d_R_addMultiple_41 : decode b_R_addMultiple 41 = .ok (.imul, 1) := by decide +kernel
theorem d_R_addMultiple_42 : decode b_R_addMultiple 42 = .ok (.iadd, 1) := by decide +kernel
theorem d_R_addMultiple_43 : decode b_R_addMultiple 43 = .ok (.iload 4, 2) := by decide +kernel
theorem d_R_addMultiple_45 : decode b_R_addMultiple 45 = .ok (.iadd, 1) := by decide +kernel
theorem d_R_addMultiple_46 : decode b_R_addMultiple 46 = .ok (.istore 7, 2) := by decide +kernel
theorem d_R_addMultiple_48 : decode b_R_addMultiple 48 = .ok (.iload 7, 2) := by decide +kernel
theorem d_R_addMultiple_50 : decode b_R_addMultiple 50 = .ok (.sipush 10000, 3) := by decide +kernel
theorem d_R_addMultiple_53 : decode b_R_addMultiple 53 = .ok (.idiv, 1) := by decide +kernel
theorem d_R_addMultiple_54 : decode b_R_addMultiple 54 = .ok (.istore 4, 2) := by decide +kernel
theorem d_R_addMultiple_56 : decode b_R_addMultiple 56 = .ok (.aload_n 0, 1) := by decide +kernel
theorem d_R_addMultiple_57 : decode b_R_addMultiple 57 = .ok (.iload 5, 2) := by decide +kernel
theorem d_R_addMultiple_59 : decode b_R_addMultiple 59 = .ok (.iload 7, 2) := by decide +kernel
theorem d_R_addMultiple_61 : decode b_R_addMultiple 61 = .ok (.sipush 10000, 3) := by decide +kernel
theorem d_R_addMultiple_64 : decode b_R_addMultiple 64 = .ok (.irem, 1) := by decide +kernel
theorem d_R_addMultiple_65 : decode b_R_addMultiple 65 = .ok (.iastore, 1) := by decide +kernel
theorem d_R_addMultiple_66 : decode b_R_addMultiple 66 = .ok (.iinc 5 1, 3) := by decide +kernel
theorem d_R_addMultiple_69 : decode b_R_addMultiple 69 = .ok (.goto (-63), 3) := by decide +kernel
theorem d_R_addMultiple_72 : decode b_R_addMultiple 72 = .ok (.return_, 1) := by decide +kernel
theorem d_R_divide_0 : decode b_R_divide 0 = .ok (.aload_n 1, 1) := by decide +kernel
theorem d_R_divide_1 : decode b_R_divide 1 = .ok (.iconst 0, 1) := by decide +kernel
theorem d_R_divide_2 : decode b_R_divide 2 = .ok (.invokestatic 36, 3) := by decide +kernel
theorem d_R_divide_5 : decode b_R_divide 5 = .ok (.aload_n 2, 1) := by decide +kernel
theorem d_R_divide_6 : decode b_R_divide 6 = .ok (.invokestatic 9, 3) := by decide +kernel
theorem d_R_divide_9 : decode b_R_divide 9 = .ok (.istore_n 3, 1) := by decide +kernel
theorem d_R_divide_10 : decode b_R_divide 10 = .ok (.iload_n 3, 1) := by decide +kernel
theorem d_R_divide_11 : decode b_R_divide 11 = .ok (.ifCond .ge 4, 3) := by decide +kernel
theorem d_R_divide_14 : decode b_R_divide 14 = .ok (.return_, 1) := by decide +kernel
theorem d_R_divide_15 : decode b_R_divide 15 = .ok (.aload_n 2, 1) := by decide +kernel
theorem d_R_divide_16 : decode b_R_divide 16 = .ok (.iload_n 3, 1) := by decide +kernel
theorem d_R_divide_17 : decode b_R_divide 17 = .ok (.iconst 3, 1) := by decide +kernel
theorem d_R_divide_18 : decode b_R_divide 18 = .ok (.invokestatic 45, 3) := by decide +kernel
theorem d_R_divide_21 : decode b_R_divide 21 = .ok (.lconst 1, 1) := by decide +kernel
theorem d_R_divide_22 : decode b_R_divide 22 = .ok (.ladd, 1) := by decide +kernel
theorem d_R_divide_23 : decode b_R_divide 23 = .ok (.lstore 4, 2) := by decide +kernel
theorem d_R_divide_25 : decode b_R_divide 25 = .ok (.aload_n 0, 1) := by decide +kernel
theorem d_R_divide_26 : decode b_R_divide 26 = .ok (.invokestatic 9, 3) := by decide +kernel
theorem d_R_divide_29 : decode b_R_divide 29 = .ok (.iload_n 3, 1) := by decide +kernel
theorem d_R_divide_30 : decode b_R_divide 30 = .ok (.isub, 1) := by decide +kernel
theorem d_R_divide_31 : decode b_R_divide 31 = .ok (.istore 6, 2) := by decide +kernel
theorem d_R_divide_33 : decode b_R_divide 33 = .ok (.iload 6, 2) := by decide +kernel
theorem d_R_divide_35 : decode b_R_divide 35 = .ok (.ifCond .lt 65, 3) := by decide +kernel
theorem d_R_divide_38 : decode b_R_divide 38 = .ok (.aload_n 0, 1) := by decide +kernel
theorem d_R_divide_39 : decode b_R_divide 39 = .ok (.iload 6, 2) := by decide +kernel
theorem d_R_divide_41 : decode b_R_divide 41 = .ok (.iload_n 3, 1) := by decide +kernel
theorem d_R_divide_42 : decode b_R_divide 42 = .ok (.iadd, 1) := by decide +kernel
theorem d_R_divide_43 : decode b_R_divide 43 = .ok (.iconst 1, 1) := by decide +kernel
theorem d_R_divide_44 : decode b_R_divide 44 = .ok (.iadd, 1) := by decide +kernel
theorem d_R_divide_45 : decode b_R_divide 45 = .ok (.iconst 4, 1) := by decide +kernel
theorem d_R_divide_46 : decode b_R_divide 46 = .ok (.invokestatic 45, 3) := by decide +kernel
theorem d_R_divide_49 : decode b_R_divide 49 = .ok (.lload 4, 2) := by decide +kernel
theorem d_R_divide_51 : decode b_R_divide 51 = .ok (.ldiv, 1) := by decide +kernel
theorem d_R_divide_52 : decode b_R_divide 52 = .ok (.l2i, 1) := by decide +kernel
theorem d_R_divide_53 : decode b_R_divide 53 = .ok (.istore 7, 2) := by decide +kernel
theorem d_R_divide_55 : decode b_R_divide 55 = .ok (.aload_n 0, 1) := by decide +kernel
theorem d_R_divide_56 : decode b_R_divide 56 = .ok (.aload_n 2, 1) := by decide +kernel
theorem d_R_divide_57 : decode b_R_divide 57 = .ok (.iload 7, 2) := by decide +kernel
theorem d_R_divide_59 : decode b_R_divide 59 = .ok (.iload 6, 2) := by decide +kernel
theorem d_R_divide_61 : decode b_R_divide 61 = .ok (.iload_n 3, 1) := by decide +kernel
theorem d_R_divide_62 : decode b_R_divide 62 = .ok (.invokestatic 49, 3) := by decide +kernel
theorem d_R_divide_65 : decode b_R_divide 65 = .ok (.aload_n 0, 1) := by decide +kernel
theorem d_R_divide_66 : decode b_R_divide 66 = .ok (.aload_n 2, 1) := by decide +kernel
theorem d_R_divide_67 : decode b_R_divide 67 = .ok (.iload 6, 2) := by decide +kernel
theorem d_R_divide_69 : decode b_R_divide 69 = .ok (.iload_n 3, 1) := by decide +kernel
theorem d_R_divide_70 : decode b_R_divide 70 = .ok (.invokestatic 53, 3) := by decide +kernel
theorem d_R_divide_73 : decode b_R_divide 73 = .ok (.ifCond .eq 15, 3) := by decide +kernel
theorem d_R_divide_76 : decode b_R_divide 76 = .ok (.aload_n 0, 1) := by decide +kernel
theorem d_R_divide_77 : decode b_R_divide 77 = .ok (.aload_n 2, 1) := by decide +kernel
theorem d_R_divide_78 : decode b_R_divide 78 = .ok (.iconst 1, 1) := by decide +kernel
theorem d_R_divide_79 : decode b_R_divide 79 = .ok (.iload 6, 2) := by decide +kernel
theorem d_R_divide_81 : decode b_R_divide 81 = .ok (.iload_n 3, 1) := by decide +kernel
theorem d_R_divide_82 : decode b_R_divide 82 = .ok (.invokestatic 49, 3) := by decide +kernel
theorem d_R_divide_85 : decode b_R_divide 85 = .ok (.iinc 7 1, 3) := by decide +kernel
theorem d_R_divide_88 : decode b_R_divide 88 = .ok (.aload_n 1, 1) := by decide +kernel
theorem d_R_divide_89 : decode b_R_divide 89 = .ok (.iload 6, 2) := by decide +kernel
theorem d_R_divide_91 : decode b_R_divide 91 = .ok (.iload 7, 2) := by decide +kernel
theorem d_R_divide_93 : decode b_R_divide 93 = .ok (.iastore, 1) := by decide +kernel
theorem d_R_divide_94 : decode b_R_divide 94 = .ok (.iinc 6 (-1), 3) := by decide +kernel
theorem d_R_divide_97 : decode b_R_divide 97 = .ok (.goto (-64), 3) := by decide +kernel
theorem d_R_divide_100 : decode b_R_divide 100 = .ok (.return_, 1) := by decide +kernel
theorem d_R_head_0 : decode b_R_head 0 = .ok (.lconst 0, 1) := by decide +kernel
theorem d_R_head_1 : decode b_R_head 1 = .ok (.lstore_n 3, 1) := by decide +kernel
theorem d_R_head_2 : decode b_R_head 2 = .ok (.iload_n 1, 1) := by decide +kernel
theorem d_R_head_3 : decode b_R_head 3 = .ok (.istore 5, 2) := by decide +kernel
theorem d_R_head_5 : decode b_R_head 5 = .ok (.iload 5, 2) := by decide +kernel
theorem d_R_head_7 : decode b_R_head 7 = .ok (.iload_n 1, 1) := by decide +kernel
theorem d_R_head_8 : decode b_R_head 8 = .ok (.iload_n 2, 1) := by decide +kernel
theorem d_R_head_9 : decode b_R_head 9 = .ok (.isub, 1) := by decide +kernel
theorem d_R_head_10 : decode b_R_head 10 = .ok (.if_icmp .le 37, 3) := by decide +kernel
theorem d_R_head_13 : decode b_R_head 13 = .ok (.lload_n 3, 1) := by decide +kernel
theorem d_R_head_14 : decode b_R_head 14 = .ok (.ldc2_w 57, 3) := by decide +kernel
theorem d_R_head_17 : decode b_R_head 17 = .ok (.lmul, 1) := by decide +kernel
theorem d_R_head_18 : decode b_R_head 18 = .ok (.iload 5, 2) := by decide +kernel
theorem d_R_head_20 : decode b_R_head 20 = .ok (.ifCond .lt 17, 3) := by decide +kernel
theorem d_R_head_23 : decode b_R_head 23 = .ok (.iload 5, 2) := by decide +kernel
theorem d_R_head_25 : decode b_R_head 25 = .ok (.aload_n 0, 1) := by decide +kernel
theorem d_R_head_26 : decode b_R_head 26 = .ok (.arraylength, 1) := by decide +kernel
theorem d_R_head_27 : decode b_R_head 27 = .ok (.if_icmp .ge 10, 3) := by decide +kernel
theorem d_R_head_30 : decode b_R_head 30 = .ok (.aload_n 0, 1) := by decide +kernel
theorem d_R_head_31 : decode b_R_head 31 = .ok (.iload 5, 2) := by decide +kernel
theorem d_R_head_33 : decode b_R_head 33 = .ok (.iaload, 1) := by decide +kernel
theorem d_R_head_34 : decode b_R_head 34 = .ok (.goto 4, 3) := by decide +kernel
theorem d_R_head_37 : decode b_R_head 37 = .ok (.iconst 0, 1) := by decide +kernel
theorem d_R_head_38 : decode b_R_head 38 = .ok (.i2l, 1) := by decide +kernel
theorem d_R_head_39 : decode b_R_head 39 = .ok (.ladd, 1) := by decide +kernel
theorem d_R_head_40 : decode b_R_head 40 = .ok (.lstore_n 3, 1) := by decide +kernel
theorem d_R_head_41 : decode b_R_head 41 = .ok (.iinc 5 (-1), 3) := by decide +kernel
theorem d_R_head_44 : decode b_R_head 44 = .ok (.goto (-39), 3) := by decide +kernel
theorem d_R_head_47 : decode b_R_head 47 = .ok (.lload_n 3, 1) := by decide +kernel
theorem d_R_head_48 : decode b_R_head 48 = .ok (.lreturn, 1) := by decide +kernel
theorem d_R_takeMultiple_0 : decode b_R_takeMultiple 0 = .ok (.iconst 0, 1) := by decide +kernel
theorem d_R_takeMultiple_1 : decode b_R_takeMultiple 1 = .ok (.istore 5, 2) := by decide +kernel
theorem d_R_takeMultiple_3 : decode b_R_takeMultiple 3 = .ok (.iconst 0, 1) := by decide +kernel
theorem d_R_takeMultiple_4 : decode b_R_takeMultiple 4 = .ok (.istore 6, 2) := by decide +kernel
theorem d_R_takeMultiple_6 : decode b_R_takeMultiple 6 = .ok (.iload 6, 2) := by decide +kernel
theorem d_R_takeMultiple_8 : decode b_R_takeMultiple 8 = .ok (.iload 4, 2) := by decide +kernel
theorem d_R_takeMultiple_10 : decode b_R_takeMultiple 10 = .ok (.if_icmp .gt 52, 3) := by decide +kernel
theorem d_R_takeMultiple_13 : decode b_R_takeMultiple 13 = .ok (.aload_n 0, 1) := by decide +kernel
theorem d_R_takeMultiple_14 : decode b_R_takeMultiple 14 = .ok (.iload_n 3, 1) := by decide +kernel
theorem d_R_takeMultiple_15 : decode b_R_takeMultiple 15 = .ok (.iload 6, 2) := by decide +kernel
theorem d_R_takeMultiple_17 : decode b_R_takeMultiple 17 = .ok (.iadd, 1) := by decide +kernel
theorem d_R_takeMultiple_18 : decode b_R_takeMultiple 18 = .ok (.iaload, 1) := by decide +kernel
theorem d_R_takeMultiple_19 : decode b_R_takeMultiple 19 = .ok (.aload_n 1, 1) := by decide +kernel
theorem d_R_takeMultiple_20 : decode b_R_takeMultiple 20 = .ok (.iload 6, 2) := by decide +kernel
theorem d_R_takeMultiple_22 : decode b_R_takeMultiple 22 = .ok (.iaload, 1) := by decide +kernel
theorem d_R_takeMultiple_23 : decode b_R_takeMultiple 23 = .ok (.iload_n 2, 1) := by decide +kernel
theorem d_R_takeMultiple_24 : decode b_R_takeMultiple 24 = .ok (.imul, 1) := by decide +kernel
theorem d_R_takeMultiple_25 : decode b_R_takeMultiple 25 = .ok (.isub, 1) := by decide +kernel
theorem d_R_takeMultiple_26 : decode b_R_takeMultiple 26 = .ok (.iload 5, 2) := by decide +kernel
theorem d_R_takeMultiple_28 : decode b_R_takeMultiple 28 = .ok (.iadd, 1) := by decide +kernel
theorem d_R_takeMultiple_29 : decode b_R_takeMultiple 29 = .ok (.istore 7, 2) := by decide +kernel
theorem d_R_takeMultiple_31 : decode b_R_takeMultiple 31 = .ok (.iload 7, 2) := by decide +kernel
theorem d_R_takeMultiple_33 : decode b_R_takeMultiple 33 = .ok (.sipush 10000, 3) := by decide +kernel
theorem d_R_takeMultiple_36 : decode b_R_takeMultiple 36 = .ok (.invokestatic 59, 3) := by decide +kernel
theorem d_R_takeMultiple_39 : decode b_R_takeMultiple 39 = .ok (.istore 5, 2) := by decide +kernel
theorem d_R_takeMultiple_41 : decode b_R_takeMultiple 41 = .ok (.aload_n 0, 1) := by decide +kernel
theorem d_R_takeMultiple_42 : decode b_R_takeMultiple 42 = .ok (.iload_n 3, 1) := by decide +kernel
theorem d_R_takeMultiple_43 : decode b_R_takeMultiple 43 = .ok (.iload 6, 2) := by decide +kernel
theorem d_R_takeMultiple_45 : decode b_R_takeMultiple 45 = .ok (.iadd, 1) := by decide +kernel
theorem d_R_takeMultiple_46 : decode b_R_takeMultiple 46 = .ok (.iload 7, 2) := by decide +kernel
theorem d_R_takeMultiple_48 : decode b_R_takeMultiple 48 = .ok (.iload 5, 2) := by decide +kernel
theorem d_R_takeMultiple_50 : decode b_R_takeMultiple 50 = .ok (.sipush 10000, 3) := by decide +kernel
theorem d_R_takeMultiple_53 : decode b_R_takeMultiple 53 = .ok (.imul, 1) := by decide +kernel
theorem d_R_takeMultiple_54 : decode b_R_takeMultiple 54 = .ok (.isub, 1) := by decide +kernel
theorem d_R_takeMultiple_55 : decode b_R_takeMultiple 55 = .ok (.iastore, 1) := by decide +kernel
theorem d_R_takeMultiple_56 : decode b_R_takeMultiple 56 = .ok (.iinc 6 1, 3) := by decide +kernel
theorem d_R_takeMultiple_59 : decode b_R_takeMultiple 59 = .ok (.goto (-53), 3) := by decide +kernel
theorem d_R_takeMultiple_62 : decode b_R_takeMultiple 62 = .ok (.iload_n 3, 1) := by decide +kernel
theorem d_R_takeMultiple_63 : decode b_R_takeMultiple 63 = .ok (.iload 4, 2) := by decide +kernel
theorem d_R_takeMultiple_65 : decode b_R_takeMultiple 65 = .ok (.iadd, 1) := by decide +kernel
theorem d_R_takeMultiple_66 : decode b_R_takeMultiple 66 = .ok (.iconst 1, 1) := by decide +kernel
theorem d_R_takeMultiple_67 : decode b_R_takeMultiple 67 = .ok (.iadd, 1) := by decide +kernel
theorem d_R_takeMultiple_68 : decode b_R_takeMultiple 68 = .ok (.aload_n 0, 1) := by decide +kernel
theorem d_R_takeMultiple_69 : decode b_R_takeMultiple 69 = .ok (.arraylength, 1) := by decide +kernel
theorem d_R_takeMultiple_70 : decode b_R_takeMultiple 70 = .ok (.if_icmp .ge 16, 3) := by decide +kernel
theorem d_R_takeMultiple_73 : decode b_R_takeMultiple 73 = .ok (.aload_n 0, 1) := by decide +kernel
theorem d_R_takeMultiple_74 : decode b_R_takeMultiple 74 = .ok (.iload_n 3, 1) := by decide +kernel
theorem d_R_takeMultiple_75 : decode b_R_takeMultiple 75 = .ok (.iload 4, 2) := by decide +kernel
theorem d_R_takeMultiple_77 : decode b_R_takeMultiple 77 = .ok (.iadd, 1) := by decide +kernel
theorem d_R_takeMultiple_78 : decode b_R_takeMultiple 78 = .ok (.iconst 1, 1) := by decide +kernel
theorem d_R_takeMultiple_79 : decode b_R_takeMultiple 79 = .ok (.iadd, 1) := by decide +kernel
theorem d_R_takeMultiple_80 : decode b_R_takeMultiple 80 = .ok (.dup2, 1) := by decide +kernel
theorem d_R_takeMultiple_81 : decode b_R_takeMultiple 81 = .ok (.iaload, 1) := by decide +kernel
theorem d_R_takeMultiple_82 : decode b_R_takeMultiple 82 = .ok (.iload 5, 2) := by decide +kernel
theorem d_R_takeMultiple_84 : decode b_R_takeMultiple 84 = .ok (.iadd, 1) := by decide +kernel
theorem d_R_takeMultiple_85 : decode b_R_takeMultiple 85 = .ok (.iastore, 1) := by decide +kernel
theorem d_R_takeMultiple_86 : decode b_R_takeMultiple 86 = .ok (.return_, 1) := by decide +kernel
theorem d_R_isStillIn_0 : decode b_R_isStillIn 0 = .ok (.iload_n 2, 1) := by decide +kernel
theorem d_R_isStillIn_1 : decode b_R_isStillIn 1 = .ok (.iload_n 3, 1) := by decide +kernel
theorem d_R_isStillIn_2 : decode b_R_isStillIn 2 = .ok (.iadd, 1) := by decide +kernel
theorem d_R_isStillIn_3 : decode b_R_isStillIn 3 = .ok (.iconst 1, 1) := by decide +kernel
theorem d_R_isStillIn_4 : decode b_R_isStillIn 4 = .ok (.iadd, 1) := by decide +kernel
theorem d_R_isStillIn_5 : decode b_R_isStillIn 5 = .ok (.aload_n 0, 1) := by decide +kernel
theorem d_R_isStillIn_6 : decode b_R_isStillIn 6 = .ok (.arraylength, 1) := by decide +kernel
theorem d_R_isStillIn_7 : decode b_R_isStillIn 7 = .ok (.if_icmp .ge 15, 3) := by decide +kernel
theorem d_R_isStillIn_10 : decode b_R_isStillIn 10 = .ok (.aload_n 0, 1) := by decide +kernel
theorem d_R_isStillIn_11 : decode b_R_isStillIn 11 = .ok (.iload_n 2, 1) := by decide +kernel
theorem d_R_isStillIn_12 : decode b_R_isStillIn 12 = .ok (.iload_n 3, 1) := by decide +kernel
theorem d_R_isStillIn_13 : decode b_R_isStillIn 13 = .ok (.iadd, 1) := by decide +kernel
theorem d_R_isStillIn_14 : decode b_R_isStillIn 14 = .ok (.iconst 1, 1) := by decide +kernel
theorem d_R_isStillIn_15 : decode b_R_isStillIn 15 = .ok (.iadd, 1) := by decide +kernel
theorem d_R_isStillIn_16 : decode b_R_isStillIn 16 = .ok (.iaload, 1) := by decide +kernel
theorem d_R_isStillIn_17 : decode b_R_isStillIn 17 = .ok (.ifCond .le 5, 3) := by decide +kernel
theorem d_R_isStillIn_20 : decode b_R_isStillIn 20 = .ok (.iconst 1, 1) := by decide +kernel
theorem d_R_isStillIn_21 : decode b_R_isStillIn 21 = .ok (.ireturn, 1) := by decide +kernel
theorem d_R_isStillIn_22 : decode b_R_isStillIn 22 = .ok (.iload_n 3, 1) := by decide +kernel
theorem d_R_isStillIn_23 : decode b_R_isStillIn 23 = .ok (.istore 4, 2) := by decide +kernel
theorem d_R_isStillIn_25 : decode b_R_isStillIn 25 = .ok (.iload 4, 2) := by decide +kernel
theorem d_R_isStillIn_27 : decode b_R_isStillIn 27 = .ok (.ifCond .lt 41, 3) := by decide +kernel
theorem d_R_isStillIn_30 : decode b_R_isStillIn 30 = .ok (.aload_n 0, 1) := by decide +kernel
theorem d_R_isStillIn_31 : decode b_R_isStillIn 31 = .ok (.iload_n 2, 1) := by decide +kernel
theorem d_R_isStillIn_32 : decode b_R_isStillIn 32 = .ok (.iload 4, 2) := by decide +kernel
theorem d_R_isStillIn_34 : decode b_R_isStillIn 34 = .ok (.iadd, 1) := by decide +kernel
theorem d_R_isStillIn_35 : decode b_R_isStillIn 35 = .ok (.iaload, 1) := by decide +kernel
theorem d_R_isStillIn_36 : decode b_R_isStillIn 36 = .ok (.aload_n 1, 1) := by decide +kernel
theorem d_R_isStillIn_37 : decode b_R_isStillIn 37 = .ok (.iload 4, 2) := by decide +kernel
theorem d_R_isStillIn_39 : decode b_R_isStillIn 39 = .ok (.iaload, 1) := by decide +kernel
theorem d_R_isStillIn_40 : decode b_R_isStillIn 40 = .ok (.if_icmp .eq 22, 3) := by decide +kernel
theorem d_R_isStillIn_43 : decode b_R_isStillIn 43 = .ok (.aload_n 0, 1) := by decide +kernel
theorem d_R_isStillIn_44 : decode b_R_isStillIn 44 = .ok (.iload_n 2, 1) := by decide +kernel
theorem d_R_isStillIn_45 : decode b_R_isStillIn 45 = .ok (.iload 4, 2) := by decide +kernel
theorem d_R_isStillIn_47 : decode b_R_isStillIn 47 = .ok (.iadd, 1) := by decide +kernel
theorem d_R_isStillIn_48 : decode b_R_isStillIn 48 = .ok (.iaload, 1) := by decide +kernel
theorem d_R_isStillIn_49 : decode b_R_isStillIn 49 = .ok (.aload_n 1, 1) := by decide +kernel
theorem d_R_isStillIn_50 : decode b_R_isStillIn 50 = .ok (.iload 4, 2) := by decide +kernel
theorem d_R_isStillIn_52 : decode b_R_isStillIn 52 = .ok (.iaload, 1) := by decide +kernel
theorem d_R_isStillIn_53 : decode b_R_isStillIn 53 = .ok (.if_icmp .le 7, 3) := by decide +kernel
theorem d_R_isStillIn_56 : decode b_R_isStillIn 56 = .ok (.iconst 1, 1) := by decide +kernel
theorem d_R_isStillIn_57 : decode b_R_isStillIn 57 = .ok (.goto 4, 3) := by decide +kernel
theorem d_R_isStillIn_60 : decode b_R_isStillIn 60 = .ok (.iconst 0, 1) := by decide +kernel
theorem d_R_isStillIn_61 : decode b_R_isStillIn 61 = .ok (.ireturn, 1) := by decide +kernel
theorem d_R_isStillIn_62 : decode b_R_isStillIn 62 = .ok (.iinc 4 (-1), 3) := by decide +kernel
theorem d_R_isStillIn_65 : decode b_R_isStillIn 65 = .ok (.goto (-40), 3) := by decide +kernel
theorem d_R_isStillIn_68 : decode b_R_isStillIn 68 = .ok (.iconst 1, 1) := by decide +kernel
theorem d_R_isStillIn_69 : decode b_R_isStillIn 69 = .ok (.ireturn, 1) := by decide +kernel
theorem d_JM_floorDiv_0 : decode b_JM_floorDiv 0 = .ok (.iload_n 0, 1) := by decide +kernel
theorem d_JM_floorDiv_1 : decode b_JM_floorDiv 1 = .ok (.iload_n 1, 1) := by decide +kernel
theorem d_JM_floorDiv_2 : decode b_JM_floorDiv 2 = .ok (.idiv, 1) := by decide +kernel
theorem d_JM_floorDiv_3 : decode b_JM_floorDiv 3 = .ok (.istore_n 2, 1) := by decide +kernel
theorem d_JM_floorDiv_4 : decode b_JM_floorDiv 4 = .ok (.iload_n 0, 1) := by decide +kernel
theorem d_JM_floorDiv_5 : decode b_JM_floorDiv 5 = .ok (.iload_n 1, 1) := by decide +kernel
theorem d_JM_floorDiv_6 : decode b_JM_floorDiv 6 = .ok (.ixor, 1) := by decide +kernel
theorem d_JM_floorDiv_7 : decode b_JM_floorDiv 7 = .ok (.ifCond .ge 14, 3) := by decide +kernel
theorem d_JM_floorDiv_10 : decode b_JM_floorDiv 10 = .ok (.iload_n 2, 1) := by decide +kernel
theorem d_JM_floorDiv_11 : decode b_JM_floorDiv 11 = .ok (.iload_n 1, 1) := by decide +kernel
theorem d_JM_floorDiv_12 : decode b_JM_floorDiv 12 = .ok (.imul, 1) := by decide +kernel
theorem d_JM_floorDiv_13 : decode b_JM_floorDiv 13 = .ok (.iload_n 0, 1) := by decide +kernel
theorem d_JM_floorDiv_14 : decode b_JM_floorDiv 14 = .ok (.if_icmp .eq 7, 3) := by decide +kernel
theorem d_JM_floorDiv_17 : decode b_JM_floorDiv 17 = .ok (.iload_n 2, 1) := by decide +kernel
theorem d_JM_floorDiv_18 : decode b_JM_floorDiv 18 = .ok (.iconst 1, 1) := by decide +kernel
theorem d_JM_floorDiv_19 : decode b_JM_floorDiv 19 = .ok (.isub, 1) := by decide +kernel
theorem d_JM_floorDiv_20 : decode b_JM_floorDiv 20 = .ok (.ireturn, 1) := by decide +kernel
theorem d_JM_floorDiv_21 : decode b_JM_floorDiv 21 = .ok (.iload_n 2, 1) := by decide +kernel
theorem d_JM_floorDiv_22 : decode b_JM_floorDiv 22 = .ok (.ireturn, 1) := by decide +kernel
theorem d_JM_max_0 : decode b_JM_max 0 = .ok (.iload_n 0, 1) := by decide +kernel
theorem d_JM_max_1 : decode b_JM_max 1 = .ok (.iload_n 1, 1) := by decide +kernel
theorem d_JM_max_2 : decode b_JM_max 2 = .ok (.if_icmp .lt 7, 3) := by decide +kernel
theorem d_JM_max_5 : decode b_JM_max 5 = .ok (.iload_n 0, 1) := by decide +kernel
theorem d_JM_max_6 : decode b_JM_max 6 = .ok (.goto 4, 3) := by decide +kernel
theorem d_JM_max_9 : decode b_JM_max 9 = .ok (.iload_n 1, 1) := by decide +kernel
theorem d_JM_max_10 : decode b_JM_max 10 = .ok (.ireturn, 1) := by decide +kernel
theorem d_JM_min_0 : decode b_JM_min 0 = .ok (.iload_n 0, 1) := by decide +kernel
theorem d_JM_min_1 : decode b_JM_min 1 = .ok (.iload_n 1, 1) := by decide +kernel
theorem d_JM_min_2 : decode b_JM_min 2 = .ok (.if_icmp .gt 7, 3) := by decide +kernel
theorem d_JM_min_5 : decode b_JM_min 5 = .ok (.iload_n 0, 1) := by decide +kernel
theorem d_JM_min_6 : decode b_JM_min 6 = .ok (.goto 4, 3) := by decide +kernel
theorem d_JM_min_9 : decode b_JM_min 9 = .ok (.iload_n 1, 1) := by decide +kernel
theorem d_JM_min_10 : decode b_JM_min 10 = .ok (.ireturn, 1) := by decide +kernel
theorem d_JI_signum_0 : decode b_JI_signum 0 = .ok (.iload_n 0, 1) := by decide +kernel
theorem d_JI_signum_1 : decode b_JI_signum 1 = .ok (.bipush 31, 2) := by decide +kernel
theorem d_JI_signum_3 : decode b_JI_signum 3 = .ok (.ishr, 1) := by decide +kernel
theorem d_JI_signum_4 : decode b_JI_signum 4 = .ok (.iload_n 0, 1) := by decide +kernel
theorem d_JI_signum_5 : decode b_JI_signum 5 = .ok (.ineg, 1) := by decide +kernel
theorem d_JI_signum_6 : decode b_JI_signum 6 = .ok (.bipush 31, 2) := by decide +kernel
theorem d_JI_signum_8 : decode b_JI_signum 8 = .ok (.iushr, 1) := by decide +kernel
theorem d_JI_signum_9 : decode b_JI_signum 9 = .ok (.ior, 1) := by decide +kernel
theorem d_JI_signum_10 : decode b_JI_signum 10 = .ok (.ireturn, 1) := by decide +kernel
theorem d_JA_fill_0 : decode b_JA_fill 0 = .ok (.iconst 0, 1) := by decide +kernel
theorem d_JA_fill_1 : decode b_JA_fill 1 = .ok (.istore_n 2, 1) := by decide +kernel
theorem d_JA_fill_2 : decode b_JA_fill 2 = .ok (.aload_n 0, 1) := by decide +kernel
theorem d_JA_fill_3 : decode b_JA_fill 3 = .ok (.arraylength, 1) := by decide +kernel
theorem d_JA_fill_4 : decode b_JA_fill 4 = .ok (.istore_n 3, 1) := by decide +kernel
theorem d_JA_fill_5 : decode b_JA_fill 5 = .ok (.iload_n 2, 1) := by decide +kernel
theorem d_JA_fill_6 : decode b_JA_fill 6 = .ok (.iload_n 3, 1) := by decide +kernel
theorem d_JA_fill_7 : decode b_JA_fill 7 = .ok (.if_icmp .ge 13, 3) := by decide +kernel
theorem d_JA_fill_10 : decode b_JA_fill 10 = .ok (.aload_n 0, 1) := by decide +kernel
theorem d_JA_fill_11 : decode b_JA_fill 11 = .ok (.iload_n 2, 1) := by decide +kernel
theorem d_JA_fill_12 : decode b_JA_fill 12 = .ok (.iload_n 1, 1) := by decide +kernel
theorem d_JA_fill_13 : decode b_JA_fill 13 = .ok (.iastore, 1) := by decide +kernel
theorem d_JA_fill_14 : decode b_JA_fill 14 = .ok (.iinc 2 1, 3) := by decide +kernel
theorem d_JA_fill_17 : decode b_JA_fill 17 = .ok (.goto (-12), 3) := by decide +kernel
theorem d_JA_fill_20 : decode b_JA_fill 20 = .ok (.return_, 1) := by decide +kernel

theorem d_M_init_0 : decode b_M_init 0 = .ok (.aload_n 0, 1) := by decide +kernel
theorem d_M_init_1 : decode b_M_init 1 = .ok (.invokespecial 1, 3) := by decide +kernel
theorem d_M_init_4 : decode b_M_init 4 = .ok (.aload_n 0, 1) := by decide +kernel
theorem d_M_init_5 : decode b_M_init 5 = .ok (.bipush 8, 2) := by decide +kernel
theorem d_M_init_7 : decode b_M_init 7 = .ok (.newarray .int, 2) := by decide +kernel
theorem d_M_init_9 : decode b_M_init 9 = .ok (.putfield 7, 3) := by decide +kernel
theorem d_M_init_12 : decode b_M_init 12 = .ok (.aload_n 0, 1) := by decide +kernel
theorem d_M_init_13 : decode b_M_init 13 = .ok (.bipush 8, 2) := by decide +kernel
theorem d_M_init_15 : decode b_M_init 15 = .ok (.newarray .boolean, 2) := by decide +kernel
theorem d_M_init_17 : decode b_M_init 17 = .ok (.putfield 13, 3) := by decide +kernel
theorem d_M_init_20 : decode b_M_init 20 = .ok (.aload_n 0, 1) := by decide +kernel
theorem d_M_init_21 : decode b_M_init 21 = .ok (.bipush 8, 2) := by decide +kernel
theorem d_M_init_23 : decode b_M_init 23 = .ok (.newarray .int, 2) := by decide +kernel
theorem d_M_init_25 : decode b_M_init 25 = .ok (.putfield 17, 3) := by decide +kernel
theorem d_M_init_28 : decode b_M_init 28 = .ok (.aload_n 0, 1) := by decide +kernel
theorem d_M_init_29 : decode b_M_init 29 = .ok (.sipush 448, 3) := by decide +kernel
theorem d_M_init_32 : decode b_M_init 32 = .ok (.newarray .int, 2) := by decide +kernel
theorem d_M_init_34 : decode b_M_init 34 = .ok (.putfield 20, 3) := by decide +kernel
theorem d_M_init_37 : decode b_M_init 37 = .ok (.aload_n 0, 1) := by decide +kernel
theorem d_M_init_38 : decode b_M_init 38 = .ok (.bipush 80, 2) := by decide +kernel
theorem d_M_init_40 : decode b_M_init 40 = .ok (.newarray .int, 2) := by decide +kernel
theorem d_M_init_42 : decode b_M_init 42 = .ok (.putfield 23, 3) := by decide +kernel
theorem d_M_init_45 : decode b_M_init 45 = .ok (.aload_n 0, 1) := by decide +kernel
theorem d_M_init_46 : decode b_M_init 46 = .ok (.sipush 224, 3) := by decide +kernel
theorem d_M_init_49 : decode b_M_init 49 = .ok (.newarray .int, 2) := by decide +kernel
theorem d_M_init_51 : decode b_M_init 51 = .ok (.putfield 26, 3) := by decide +kernel
theorem d_M_init_54 : decode b_M_init 54 = .ok (.aload_n 0, 1) := by decide +kernel
theorem d_M_init_55 : decode b_M_init 55 = .ok (.iconst 4, 1) := by decide +kernel
theorem d_M_init_56 : decode b_M_init 56 = .ok (.newarray .int, 2) := by decide +kernel
theorem d_M_init_58 : decode b_M_init 58 = .ok (.putfield 29, 3) := by decide +kernel
theorem d_M_init_61 : decode b_M_init 61 = .ok (.aload_n 0, 1) := by decide +kernel
theorem d_M_init_62 : decode b_M_init 62 = .ok (.bipush 112, 2) := by decide +kernel
theorem d_M_init_64 : decode b_M_init 64 = .ok (.newarray .int, 2) := by decide +kernel
theorem d_M_init_66 : decode b_M_init 66 = .ok (.putfield 32, 3) := by decide +kernel
theorem d_M_init_69 : decode b_M_init 69 = .ok (.aload_n 0, 1) := by decide +kernel
theorem d_M_init_70 : decode b_M_init 70 = .ok (.bipush 56, 2) := by decide +kernel
theorem d_M_init_72 : decode b_M_init 72 = .ok (.newarray .int, 2) := by decide +kernel
theorem d_M_init_74 : decode b_M_init 74 = .ok (.putfield 35, 3) := by decide +kernel
theorem d_M_init_77 : decode b_M_init 77 = .ok (.aload_n 0, 1) := by decide +kernel
theorem d_M_init_78 : decode b_M_init 78 = .ok (.bipush 56, 2) := by decide +kernel
theorem d_M_init_80 : decode b_M_init 80 = .ok (.newarray .int, 2) := by decide +kernel
theorem d_M_init_82 : decode b_M_init 82 = .ok (.putfield 38, 3) := by decide +kernel
theorem d_M_init_85 : decode b_M_init 85 = .ok (.aload_n 0, 1) := by decide +kernel
theorem d_M_init_86 : decode b_M_init 86 = .ok (.sipush 140, 3) := by decide +kernel
theorem d_M_init_89 : decode b_M_init 89 = .ok (.newarray .int, 2) := by decide +kernel
theorem d_M_init_91 : decode b_M_init 91 = .ok (.putfield 41, 3) := by decide +kernel
theorem d_M_init_94 : decode b_M_init 94 = .ok (.aload_n 0, 1) := by decide +kernel
theorem d_M_init_95 : decode b_M_init 95 = .ok (.bipush 58, 2) := by decide +kernel
theorem d_M_init_97 : decode b_M_init 97 = .ok (.newarray .int, 2) := by decide +kernel
theorem d_M_init_99 : decode b_M_init 99 = .ok (.putfield 44, 3) := by decide +kernel
theorem d_M_init_102 : decode b_M_init 102 = .ok (.aload_n 0, 1) := by decide +kernel
theorem d_M_init_103 : decode b_M_init 103 = .ok (.bipush 46, 2) := by decide +kernel
theorem d_M_init_105 : decode b_M_init 105 = .ok (.newarray .int, 2) := by decide +kernel
theorem d_M_init_107 : decode b_M_init 107 = .ok (.putfield 47, 3) := by decide +kernel
theorem d_M_init_110 : decode b_M_init 110 = .ok (.return_, 1) := by decide +kernel
theorem d_M_out_0 : decode b_M_out 0 = .ok (.iload_n 1, 1) := by decide +kernel
theorem d_M_out_1 : decode b_M_out 1 = .ok (.ifCond .lt 8, 3) := by decide +kernel
theorem d_M_out_4 : decode b_M_out 4 = .ok (.iload_n 1, 1) := by decide +kernel
theorem d_M_out_5 : decode b_M_out 5 = .ok (.iload_n 2, 1) := by decide +kernel
theorem d_M_out_6 : decode b_M_out 6 = .ok (.if_icmp .le 7, 3) := by decide +kernel
theorem d_M_out_9 : decode b_M_out 9 = .ok (.iconst 1, 1) := by decide +kernel
theorem d_M_out_10 : decode b_M_out 10 = .ok (.goto 4, 3) := by decide +kernel
theorem d_M_out_13 : decode b_M_out 13 = .ok (.iconst 0, 1) := by decide +kernel
theorem d_M_out_14 : decode b_M_out 14 = .ok (.ireturn, 1) := by decide +kernel
theorem d_M_clear_0 : decode b_M_clear 0 = .ok (.iconst 0, 1) := by decide +kernel
theorem d_M_clear_1 : decode b_M_clear 1 = .ok (.istore_n 1, 1) := by decide +kernel
theorem d_M_clear_2 : decode b_M_clear 2 = .ok (.iload_n 1, 1) := by decide +kernel
theorem d_M_clear_3 : decode b_M_clear 3 = .ok (.sipush 140, 3) := by decide +kernel
theorem d_M_clear_6 : decode b_M_clear 6 = .ok (.if_icmp .ge 16, 3) := by decide +kernel
theorem d_M_clear_9 : decode b_M_clear 9 = .ok (.aload_n 0, 1) := by decide +kernel
theorem d_M_clear_10 : decode b_M_clear 10 = .ok (.getfield 41, 3) := by decide +kernel
theorem d_M_clear_13 : decode b_M_clear 13 = .ok (.iload_n 1, 1) := by decide +kernel
theorem d_M_clear_14 : decode b_M_clear 14 = .ok (.iconst 0, 1) := by decide +kernel
theorem d_M_clear_15 : decode b_M_clear 15 = .ok (.iastore, 1) := by decide +kernel
theorem d_M_clear_16 : decode b_M_clear 16 = .ok (.iinc 1 1, 3) := by decide +kernel
theorem d_M_clear_19 : decode b_M_clear 19 = .ok (.goto (-17), 3) := by decide +kernel
theorem d_M_clear_22 : decode b_M_clear 22 = .ok (.aload_n 0, 1) := by decide +kernel
theorem d_M_clear_23 : decode b_M_clear 23 = .ok (.iconst 0, 1) := by decide +kernel
theorem d_M_clear_24 : decode b_M_clear 24 = .ok (.putfield 50, 3) := by decide +kernel
theorem d_M_clear_27 : decode b_M_clear 27 = .ok (.return_, 1) := by decide +kernel
theorem d_M_carry_0 : decode b_M_carry 0 = .ok (.iconst 0, 1) := by decide +kernel
theorem d_M_carry_1 : decode b_M_carry 1 = .ok (.istore_n 1, 1) := by decide +kernel
theorem d_M_carry_2 : decode b_M_carry 2 = .ok (.iconst 0, 1) := by decide +kernel
theorem d_M_carry_3 : decode b_M_carry 3 = .ok (.istore_n 2, 1) := by decide +kernel
theorem d_M_carry_4 : decode b_M_carry 4 = .ok (.iload_n 2, 1) := by decide +kernel
theorem d_M_carry_5 : decode b_M_carry 5 = .ok (.sipush 140, 3) := by decide +kernel
theorem d_M_carry_8 : decode b_M_carry 8 = .ok (.if_icmp .ge 50, 3) := by decide +kernel
theorem d_M_carry_11 : decode b_M_carry 11 = .ok (.aload_n 0, 1) := by decide +kernel
theorem d_M_carry_12 : decode b_M_carry 12 = .ok (.getfield 41, 3) := by decide +kernel
theorem d_M_carry_15 : decode b_M_carry 15 = .ok (.iload_n 2, 1) := by decide +kernel
theorem d_M_carry_16 : decode b_M_carry 16 = .ok (.iaload, 1) := by decide +kernel
theorem d_M_carry_17 : decode b_M_carry 17 = .ok (.iload_n 1, 1) := by decide +kernel
theorem d_M_carry_18 : decode b_M_carry 18 = .ok (.iadd, 1) := by decide +kernel
theorem d_M_carry_19 : decode b_M_carry 19 = .ok (.istore_n 3, 1) := by decide +kernel
theorem d_M_carry_20 : decode b_M_carry 20 = .ok (.iload_n 3, 1) := by decide +kernel
theorem d_M_carry_21 : decode b_M_carry 21 = .ok (.ifCond .lt 10, 3) := by decide +kernel
theorem d_M_carry_24 : decode b_M_carry 24 = .ok (.iload_n 3, 1) := by decide +kernel
theorem d_M_carry_25 : decode b_M_carry 25 = .ok (.bipush 10, 2) := by decide +kernel
theorem d_M_carry_27 : decode b_M_carry 27 = .ok (.idiv, 1) := by decide +kernel
theorem d_M_carry_28 : decode b_M_carry 28 = .ok (.goto 11, 3) := by decide +kernel
theorem d_M_carry_31 : decode b_M_carry 31 = .ok (.bipush 9, 2) := by decide +kernel
theorem d_M_carry_33 : decode b_M_carry 33 = .ok (.iload_n 3, 1) := by decide +kernel
theorem d_M_carry_34 : decode b_M_carry 34 = .ok (.isub, 1) := by decide +kernel
theorem d_M_carry_35 : decode b_M_carry 35 = .ok (.bipush 10, 2) := by decide +kernel
theorem d_M_carry_37 : decode b_M_carry 37 = .ok (.idiv, 1) := by decide +kernel
theorem d_M_carry_38 : decode b_M_carry 38 = .ok (.ineg, 1) := by decide +kernel
theorem d_M_carry_39 : decode b_M_carry 39 = .ok (.istore_n 1, 1) := by decide +kernel
theorem d_M_carry_40 : decode b_M_carry 40 = .ok (.aload_n 0, 1) := by decide +kernel
theorem d_M_carry_41 : decode b_M_carry 41 = .ok (.getfield 41, 3) := by decide +kernel
theorem d_M_carry_44 : decode b_M_carry 44 = .ok (.iload_n 2, 1) := by decide +kernel
theorem d_M_carry_45 : decode b_M_carry 45 = .ok (.iload_n 3, 1) := by decide +kernel
theorem d_M_carry_46 : decode b_M_carry 46 = .ok (.bipush 10, 2) := by decide +kernel
theorem d_M_carry_48 : decode b_M_carry 48 = .ok (.iload_n 1, 1) := by decide +kernel
theorem d_M_carry_49 : decode b_M_carry 49 = .ok (.imul, 1) := by decide +kernel
theorem d_M_carry_50 : decode b_M_carry 50 = .ok (.isub, 1) := by decide +kernel
theorem d_M_carry_51 : decode b_M_carry 51 = .ok (.iastore, 1) := by decide +kernel
theorem d_M_carry_52 : decode b_M_carry 52 = .ok (.iinc 2 1, 3) := by decide +kernel
theorem d_M_carry_55 : decode b_M_carry 55 = .ok (.goto (-51), 3) := by decide +kernel
theorem d_M_carry_58 : decode b_M_carry 58 = .ok (.iload_n 1, 1) := by decide +kernel
theorem d_M_carry_59 : decode b_M_carry 59 = .ok (.ireturn, 1) := by decide +kernel
theorem d_M_settle_0 : decode b_M_settle 0 = .ok (.aload_n 0, 1) := by decide +kernel
theorem d_M_settle_1 : decode b_M_settle 1 = .ok (.invokevirtual 54, 3) := by decide +kernel
theorem d_M_settle_4 : decode b_M_settle 4 = .ok (.istore_n 1, 1) := by decide +kernel
theorem d_M_settle_5 : decode b_M_settle 5 = .ok (.iload_n 1, 1) := by decide +kernel
theorem d_M_settle_6 : decode b_M_settle 6 = .ok (.ifCond .ge 52, 3) := by decide +kernel
theorem d_M_settle_9 : decode b_M_settle 9 = .ok (.aload_n 0, 1) := by decide +kernel
theorem d_M_settle_10 : decode b_M_settle 10 = .ok (.aload_n 0, 1) := by decide +kernel
theorem d_M_settle_11 : decode b_M_settle 11 = .ok (.getfield 50, 3) := by decide +kernel
theorem d_M_settle_14 : decode b_M_settle 14 = .ok (.ifCond .ne 7, 3) := by decide +kernel
theorem d_M_settle_17 : decode b_M_settle 17 = .ok (.iconst 1, 1) := by decide +kernel
theorem d_M_settle_18 : decode b_M_settle 18 = .ok (.goto 4, 3) := by decide +kernel
theorem d_M_settle_21 : decode b_M_settle 21 = .ok (.iconst 0, 1) := by decide +kernel
theorem d_M_settle_22 : decode b_M_settle 22 = .ok (.putfield 50, 3) := by decide +kernel
theorem d_M_settle_25 : decode b_M_settle 25 = .ok (.iconst 0, 1) := by decide +kernel
theorem d_M_settle_26 : decode b_M_settle 26 = .ok (.istore_n 2, 1) := by decide +kernel
theorem d_M_settle_27 : decode b_M_settle 27 = .ok (.iload_n 2, 1) := by decide +kernel
theorem d_M_settle_28 : decode b_M_settle 28 = .ok (.sipush 140, 3) := by decide +kernel
theorem d_M_settle_31 : decode b_M_settle 31 = .ok (.if_icmp .ge 22, 3) := by decide +kernel
theorem d_M_settle_34 : decode b_M_settle 34 = .ok (.aload_n 0, 1) := by decide +kernel
theorem d_M_settle_35 : decode b_M_settle 35 = .ok (.getfield 41, 3) := by decide +kernel
theorem d_M_settle_38 : decode b_M_settle 38 = .ok (.iload_n 2, 1) := by decide +kernel
theorem d_M_settle_39 : decode b_M_settle 39 = .ok (.aload_n 0, 1) := by decide +kernel
theorem d_M_settle_40 : decode b_M_settle 40 = .ok (.getfield 41, 3) := by decide +kernel
theorem d_M_settle_43 : decode b_M_settle 43 = .ok (.iload_n 2, 1) := by decide +kernel
theorem d_M_settle_44 : decode b_M_settle 44 = .ok (.iaload, 1) := by decide +kernel
theorem d_M_settle_45 : decode b_M_settle 45 = .ok (.ineg, 1) := by decide +kernel
theorem d_M_settle_46 : decode b_M_settle 46 = .ok (.iastore, 1) := by decide +kernel
theorem d_M_settle_47 : decode b_M_settle 47 = .ok (.iinc 2 1, 3) := by decide +kernel
theorem d_M_settle_50 : decode b_M_settle 50 = .ok (.goto (-23), 3) := by decide +kernel
theorem d_M_settle_53 : decode b_M_settle 53 = .ok (.aload_n 0, 1) := by decide +kernel
theorem d_M_settle_54 : decode b_M_settle 54 = .ok (.invokevirtual 54, 3) := by decide +kernel
theorem d_M_settle_57 : decode b_M_settle 57 = .ok (.istore_n 1, 1) := by decide +kernel
theorem d_M_settle_58 : decode b_M_settle 58 = .ok (.return_, 1) := by decide +kernel
theorem d_M_cut_0 : decode b_M_cut 0 = .ok (.iconst 0, 1) := by decide +kernel
theorem d_M_cut_1 : decode b_M_cut 1 = .ok (.istore_n 2, 1) := by decide +kernel
theorem d_M_cut_2 : decode b_M_cut 2 = .ok (.iload_n 2, 1) := by decide +kernel
theorem d_M_cut_3 : decode b_M_cut 3 = .ok (.iload_n 1, 1) := by decide +kernel
theorem d_M_cut_4 : decode b_M_cut 4 = .ok (.if_icmp .ge 16, 3) := by decide +kernel
theorem d_M_cut_7 : decode b_M_cut 7 = .ok (.aload_n 0, 1) := by decide +kernel
theorem d_M_cut_8 : decode b_M_cut 8 = .ok (.getfield 41, 3) := by decide +kernel
theorem d_M_cut_11 : decode b_M_cut 11 = .ok (.iload_n 2, 1) := by decide +kernel
theorem d_M_cut_12 : decode b_M_cut 12 = .ok (.iconst 0, 1) := by decide +kernel
theorem d_M_cut_13 : decode b_M_cut 13 = .ok (.iastore, 1) := by decide +kernel
theorem d_M_cut_14 : decode b_M_cut 14 = .ok (.iinc 2 1, 3) := by decide +kernel
theorem d_M_cut_17 : decode b_M_cut 17 = .ok (.goto (-15), 3) := by decide +kernel
theorem d_M_cut_20 : decode b_M_cut 20 = .ok (.return_, 1) := by decide +kernel
theorem d_M_roundAt_0 : decode b_M_roundAt 0 = .ok (.aload_n 0, 1) := by decide +kernel
theorem d_M_roundAt_1 : decode b_M_roundAt 1 = .ok (.invokevirtual 58, 3) := by decide +kernel
theorem d_M_roundAt_4 : decode b_M_roundAt 4 = .ok (.bipush 48, 2) := by decide +kernel
theorem d_M_roundAt_6 : decode b_M_roundAt 6 = .ok (.iload_n 1, 1) := by decide +kernel
theorem d_M_roundAt_7 : decode b_M_roundAt 7 = .ok (.isub, 1) := by decide +kernel
theorem d_M_roundAt_8 : decode b_M_roundAt 8 = .ok (.istore_n 2, 1) := by decide +kernel
theorem d_M_roundAt_9 : decode b_M_roundAt 9 = .ok (.aload_n 0, 1) := by decide +kernel
theorem d_M_roundAt_10 : decode b_M_roundAt 10 = .ok (.getfield 41, 3) := by decide +kernel
theorem d_M_roundAt_13 : decode b_M_roundAt 13 = .ok (.iload_n 2, 1) := by decide +kernel
theorem d_M_roundAt_14 : decode b_M_roundAt 14 = .ok (.iconst 1, 1) := by decide +kernel
theorem d_M_roundAt_15 : decode b_M_roundAt 15 = .ok (.isub, 1) := by decide +kernel
theorem d_M_roundAt_16 : decode b_M_roundAt 16 = .ok (.iaload, 1) := by decide +kernel
theorem d_M_roundAt_17 : decode b_M_roundAt 17 = .ok (.iconst 5, 1) := by decide +kernel
theorem d_M_roundAt_18 : decode b_M_roundAt 18 = .ok (.if_icmp .lt 7, 3) := by decide +kernel
theorem d_M_roundAt_21 : decode b_M_roundAt 21 = .ok (.iconst 1, 1) := by decide +kernel
theorem d_M_roundAt_22 : decode b_M_roundAt 22 = .ok (.goto 4, 3) := by decide +kernel
theorem d_M_roundAt_25 : decode b_M_roundAt 25 = .ok (.iconst 0, 1) := by decide +kernel
theorem d_M_roundAt_26 : decode b_M_roundAt 26 = .ok (.istore_n 3, 1) := by decide +kernel
theorem d_M_roundAt_27 : decode b_M_roundAt 27 = .ok (.aload_n 0, 1) := by decide +kernel
theorem d_M_roundAt_28 : decode b_M_roundAt 28 = .ok (.iload_n 2, 1) := by decide +kernel
theorem d_M_roundAt_29 : decode b_M_roundAt 29 = .ok (.invokevirtual 61, 3) := by decide +kernel
theorem d_M_roundAt_32 : decode b_M_roundAt 32 = .ok (.aload_n 0, 1) := by decide +kernel
theorem d_M_roundAt_33 : decode b_M_roundAt 33 = .ok (.getfield 41, 3) := by decide +kernel
theorem d_M_roundAt_36 : decode b_M_roundAt 36 = .ok (.iload_n 2, 1) := by decide +kernel
theorem d_M_roundAt_37 : decode b_M_roundAt 37 = .ok (.dup2, 1) := by decide +kernel
theorem d_M_roundAt_38 : decode b_M_roundAt 38 = .ok (.iaload, 1) := by decide +kernel
theorem d_M_roundAt_39 : decode b_M_roundAt 39 = .ok (.iload_n 3, 1) := by decide +kernel
theorem d_M_roundAt_40 : decode b_M_roundAt 40 = .ok (.ifCond .eq 7, 3) := by decide +kernel
theorem d_M_roundAt_43 : decode b_M_roundAt 43 = .ok (.iconst 1, 1) := by decide +kernel
theorem d_M_roundAt_44 : decode b_M_roundAt 44 = .ok (.goto 4, 3) := by decide +kernel
theorem d_M_roundAt_47 : decode b_M_roundAt 47 = .ok (.iconst 0, 1) := by decide +kernel
theorem d_M_roundAt_48 : decode b_M_roundAt 48 = .ok (.iadd, 1) := by decide +kernel
theorem d_M_roundAt_49 : decode b_M_roundAt 49 = .ok (.iastore, 1) := by decide +kernel
theorem d_M_roundAt_50 : decode b_M_roundAt 50 = .ok (.aload_n 0, 1) := by decide +kernel
theorem d_M_roundAt_51 : decode b_M_roundAt 51 = .ok (.invokevirtual 58, 3) := by decide +kernel
theorem d_M_roundAt_54 : decode b_M_roundAt 54 = .ok (.return_, 1) := by decide +kernel
theorem d_M_reaches_0 : decode b_M_reaches 0 = .ok (.iload_n 1, 1) := by decide +kernel
theorem d_M_reaches_1 : decode b_M_reaches 1 = .ok (.istore_n 2, 1) := by decide +kernel
theorem d_M_reaches_2 : decode b_M_reaches 2 = .ok (.iload_n 2, 1) := by decide +kernel
theorem d_M_reaches_3 : decode b_M_reaches 3 = .ok (.sipush 140, 3) := by decide +kernel
theorem d_M_reaches_6 : decode b_M_reaches 6 = .ok (.if_icmp .ge 20, 3) := by decide +kernel
theorem d_M_reaches_9 : decode b_M_reaches 9 = .ok (.aload_n 0, 1) := by decide +kernel
theorem d_M_reaches_10 : decode b_M_reaches 10 = .ok (.getfield 41, 3) := by decide +kernel
theorem d_M_reaches_13 : decode b_M_reaches 13 = .ok (.iload_n 2, 1) := by decide +kernel
theorem d_M_reaches_14 : decode b_M_reaches 14 = .ok (.iaload, 1) := by decide +kernel
theorem d_M_reaches_15 : decode b_M_reaches 15 = .ok (.ifCond .eq 5, 3) := by decide +kernel
theorem d_M_reaches_18 : decode b_M_reaches 18 = .ok (.iconst 1, 1) := by decide +kernel
theorem d_M_reaches_19 : decode b_M_reaches 19 = .ok (.ireturn, 1) := by decide +kernel
theorem d_M_reaches_20 : decode b_M_reaches 20 = .ok (.iinc 2 1, 3) := by decide +kernel
theorem d_M_reaches_23 : decode b_M_reaches 23 = .ok (.goto (-21), 3) := by decide +kernel
theorem d_M_reaches_26 : decode b_M_reaches 26 = .ok (.iconst 0, 1) := by decide +kernel
theorem d_M_reaches_27 : decode b_M_reaches 27 = .ok (.ireturn, 1) := by decide +kernel
theorem d_M_keep_0 : decode b_M_keep 0 = .ok (.aload_n 0, 1) := by decide +kernel
theorem d_M_keep_1 : decode b_M_keep 1 = .ok (.bipush 80, 2) := by decide +kernel
theorem d_M_keep_3 : decode b_M_keep 3 = .ok (.invokevirtual 65, 3) := by decide +kernel
theorem d_M_keep_6 : decode b_M_keep 6 = .ok (.ifCond .eq 6, 3) := by decide +kernel
theorem d_M_keep_9 : decode b_M_keep 9 = .ok (.bipush (-3), 2) := by decide +kernel
theorem d_M_keep_11 : decode b_M_keep 11 = .ok (.ireturn, 1) := by decide +kernel
theorem d_M_keep_12 : decode b_M_keep 12 = .ok (.aload_n 0, 1) := by decide +kernel
theorem d_M_keep_13 : decode b_M_keep 13 = .ok (.getfield 7, 3) := by decide +kernel
theorem d_M_keep_16 : decode b_M_keep 16 = .ok (.iload_n 1, 1) := by decide +kernel
theorem d_M_keep_17 : decode b_M_keep 17 = .ok (.iconst 0, 1) := by decide +kernel
theorem d_M_keep_18 : decode b_M_keep 18 = .ok (.iastore, 1) := by decide +kernel
theorem d_M_keep_19 : decode b_M_keep 19 = .ok (.aload_n 0, 1) := by decide +kernel
theorem d_M_keep_20 : decode b_M_keep 20 = .ok (.getfield 17, 3) := by decide +kernel
theorem d_M_keep_23 : decode b_M_keep 23 = .ok (.iload_n 1, 1) := by decide +kernel
theorem d_M_keep_24 : decode b_M_keep 24 = .ok (.iload_n 2, 1) := by decide +kernel
theorem d_M_keep_25 : decode b_M_keep 25 = .ok (.iastore, 1) := by decide +kernel
theorem d_M_keep_26 : decode b_M_keep 26 = .ok (.aload_n 0, 1) := by decide +kernel
theorem d_M_keep_27 : decode b_M_keep 27 = .ok (.getfield 13, 3) := by decide +kernel
theorem d_M_keep_30 : decode b_M_keep 30 = .ok (.iload_n 1, 1) := by decide +kernel
theorem d_M_keep_31 : decode b_M_keep 31 = .ok (.aload_n 0, 1) := by decide +kernel
theorem d_M_keep_32 : decode b_M_keep 32 = .ok (.getfield 50, 3) := by decide +kernel
theorem d_M_keep_35 : decode b_M_keep 35 = .ok (.ifCond .eq 16, 3) := by decide +kernel
theorem d_M_keep_38 : decode b_M_keep 38 = .ok (.aload_n 0, 1) := by decide +kernel
theorem d_M_keep_39 : decode b_M_keep 39 = .ok (.bipush 24, 2) := by decide +kernel
theorem d_M_keep_41 : decode b_M_keep 41 = .ok (.invokevirtual 65, 3) := by decide +kernel
theorem d_M_keep_44 : decode b_M_keep 44 = .ok (.ifCond .eq 7, 3) := by decide +kernel
theorem d_M_keep_47 : decode b_M_keep 47 = .ok (.iconst 1, 1) := by decide +kernel
theorem d_M_keep_48 : decode b_M_keep 48 = .ok (.goto 4, 3) := by decide +kernel
theorem d_M_keep_51 : decode b_M_keep 51 = .ok (.iconst 0, 1) := by decide +kernel
theorem d_M_keep_52 : decode b_M_keep 52 = .ok (.bastore, 1) := by decide +kernel
theorem d_M_keep_53 : decode b_M_keep 53 = .ok (.iconst 0, 1) := by decide +kernel
theorem d_M_keep_54 : decode b_M_keep 54 = .ok (.istore_n 3, 1) := by decide +kernel
theorem d_M_keep_55 : decode b_M_keep 55 = .ok (.iload_n 3, 1) := by decide +kernel
theorem d_M_keep_56 : decode b_M_keep 56 = .ok (.bipush 56, 2) := by decide +kernel
theorem d_M_keep_58 : decode b_M_keep 58 = .ok (.if_icmp .ge 29, 3) := by decide +kernel
theorem d_M_keep_61 : decode b_M_keep 61 = .ok (.aload_n 0, 1) := by decide +kernel
theorem d_M_keep_62 : decode b_M_keep 62 = .ok (.getfield 20, 3) := by decide +kernel
theorem d_M_keep_65 : decode b_M_keep 65 = .ok (.bipush 56, 2) := by decide +kernel
theorem d_M_keep_67 : decode b_M_keep 67 = .ok (.iload_n 1, 1) := by decide +kernel
theorem d_M_keep_68 : decode b_M_keep 68 = .ok (.imul, 1) := by decide +kernel
theorem d_M_keep_69 : decode b_M_keep 69 = .ok (.iload_n 3, 1) := by decide +kernel
theorem d_M_keep_70 : decode b_M_keep 70 = .ok (.iadd, 1) := by decide +kernel
theorem d_M_keep_71 : decode b_M_keep 71 = .ok (.aload_n 0, 1) := by decide +kernel
theorem d_M_keep_72 : decode b_M_keep 72 = .ok (.getfield 41, 3) := by decide +kernel
theorem d_M_keep_75 : decode b_M_keep 75 = .ok (.bipush 24, 2) := by decide +kernel
theorem d_M_keep_77 : decode b_M_keep 77 = .ok (.iload_n 3, 1) := by decide +kernel
theorem d_M_keep_78 : decode b_M_keep 78 = .ok (.iadd, 1) := by decide +kernel
theorem d_M_keep_79 : decode b_M_keep 79 = .ok (.iaload, 1) := by decide +kernel
theorem d_M_keep_80 : decode b_M_keep 80 = .ok (.iastore, 1) := by decide +kernel
theorem d_M_keep_81 : decode b_M_keep 81 = .ok (.iinc 3 1, 3) := by decide +kernel
theorem d_M_keep_84 : decode b_M_keep 84 = .ok (.goto (-29), 3) := by decide +kernel
theorem d_M_keep_87 : decode b_M_keep 87 = .ok (.iconst 0, 1) := by decide +kernel
theorem d_M_keep_88 : decode b_M_keep 88 = .ok (.ireturn, 1) := by decide +kernel
theorem d_M_finish_0 : decode b_M_finish 0 = .ok (.aload_n 0, 1) := by decide +kernel
theorem d_M_finish_1 : decode b_M_finish 1 = .ok (.iload_n 2, 1) := by decide +kernel
theorem d_M_finish_2 : decode b_M_finish 2 = .ok (.invokevirtual 69, 3) := by decide +kernel
theorem d_M_finish_5 : decode b_M_finish 5 = .ok (.aload_n 0, 1) := by decide +kernel
theorem d_M_finish_6 : decode b_M_finish 6 = .ok (.iload_n 1, 1) := by decide +kernel
theorem d_M_finish_7 : decode b_M_finish 7 = .ok (.iload_n 2, 1) := by decide +kernel
theorem d_M_finish_8 : decode b_M_finish 8 = .ok (.ifCond .ge 7, 3) := by decide +kernel
theorem d_M_finish_11 : decode b_M_finish 11 = .ok (.iconst 0, 1) := by decide +kernel
theorem d_M_finish_12 : decode b_M_finish 12 = .ok (.goto 4, 3) := by decide +kernel
theorem d_M_finish_15 : decode b_M_finish 15 = .ok (.iload_n 2, 1) := by decide +kernel
theorem d_M_finish_16 : decode b_M_finish 16 = .ok (.invokevirtual 72, 3) := by decide +kernel
theorem d_M_finish_19 : decode b_M_finish 19 = .ok (.ireturn, 1) := by decide +kernel
theorem d_M_special_0 : decode b_M_special 0 = .ok (.aload_n 0, 1) := by decide +kernel
theorem d_M_special_1 : decode b_M_special 1 = .ok (.getfield 7, 3) := by decide +kernel
theorem d_M_special_4 : decode b_M_special 4 = .ok (.iload_n 1, 1) := by decide +kernel
theorem d_M_special_5 : decode b_M_special 5 = .ok (.iload_n 2, 1) := by decide +kernel
theorem d_M_special_6 : decode b_M_special 6 = .ok (.iastore, 1) := by decide +kernel
theorem d_M_special_7 : decode b_M_special 7 = .ok (.iconst 0, 1) := by decide +kernel
theorem d_M_special_8 : decode b_M_special 8 = .ok (.ireturn, 1) := by decide +kernel
theorem d_M_takeX_0 : decode b_M_takeX 0 = .ok (.aload_n 0, 1) := by decide +kernel
theorem d_M_takeX_1 : decode b_M_takeX 1 = .ok (.aload_n 0, 1) := by decide +kernel
theorem d_M_takeX_2 : decode b_M_takeX 2 = .ok (.getfield 13, 3) := by decide +kernel
theorem d_M_takeX_5 : decode b_M_takeX 5 = .ok (.iload_n 1, 1) := by decide +kernel
theorem d_M_takeX_6 : decode b_M_takeX 6 = .ok (.baload, 1) := by decide +kernel
theorem d_M_takeX_7 : decode b_M_takeX 7 = .ok (.putfield 76, 3) := by decide +kernel
theorem d_M_takeX_10 : decode b_M_takeX 10 = .ok (.iconst 0, 1) := by decide +kernel
theorem d_M_takeX_11 : decode b_M_takeX 11 = .ok (.istore_n 2, 1) := by decide +kernel
theorem d_M_takeX_12 : decode b_M_takeX 12 = .ok (.iload_n 2, 1) := by decide +kernel
theorem d_M_takeX_13 : decode b_M_takeX 13 = .ok (.bipush 56, 2) := by decide +kernel
theorem d_M_takeX_15 : decode b_M_takeX 15 = .ok (.if_icmp .ge 26, 3) := by decide +kernel
theorem d_M_takeX_18 : decode b_M_takeX 18 = .ok (.aload_n 0, 1) := by decide +kernel
theorem d_M_takeX_19 : decode b_M_takeX 19 = .ok (.getfield 35, 3) := by decide +kernel
theorem d_M_takeX_22 : decode b_M_takeX 22 = .ok (.iload_n 2, 1) := by decide +kernel
theorem d_M_takeX_23 : decode b_M_takeX 23 = .ok (.aload_n 0, 1) := by decide +kernel
theorem d_M_takeX_24 : decode b_M_takeX 24 = .ok (.getfield 20, 3) := by decide +kernel
theorem d_M_takeX_27 : decode b_M_takeX 27 = .ok (.bipush 56, 2) := by decide +kernel
theorem d_M_takeX_29 : decode b_M_takeX 29 = .ok (.iload_n 1, 1) := by decide +kernel
theorem d_M_takeX_30 : decode b_M_takeX 30 = .ok (.imul, 1) := by decide +kernel
theorem d_M_takeX_31 : decode b_M_takeX 31 = .ok (.iload_n 2, 1) := by decide +kernel
theorem d_M_takeX_32 : decode b_M_takeX 32 = .ok (.iadd, 1) := by decide +kernel
theorem d_M_takeX_33 : decode b_M_takeX 33 = .ok (.iaload, 1) := by decide +kernel
theorem d_M_takeX_34 : decode b_M_takeX 34 = .ok (.iastore, 1) := by decide +kernel
theorem d_M_takeX_35 : decode b_M_takeX 35 = .ok (.iinc 2 1, 3) := by decide +kernel
theorem d_M_takeX_38 : decode b_M_takeX 38 = .ok (.goto (-26), 3) := by decide +kernel
theorem d_M_takeX_41 : decode b_M_takeX 41 = .ok (.return_, 1) := by decide +kernel
theorem d_M_takeY_0 : decode b_M_takeY 0 = .ok (.aload_n 0, 1) := by decide +kernel
theorem d_M_takeY_1 : decode b_M_takeY 1 = .ok (.aload_n 0, 1) := by decide +kernel
theorem d_M_takeY_2 : decode b_M_takeY 2 = .ok (.getfield 13, 3) := by decide +kernel
theorem d_M_takeY_5 : decode b_M_takeY 5 = .ok (.iload_n 1, 1) := by decide +kernel
theorem d_M_takeY_6 : decode b_M_takeY 6 = .ok (.baload, 1) := by decide +kernel
theorem d_M_takeY_7 : decode b_M_takeY 7 = .ok (.putfield 79, 3) := by decide +kernel
theorem d_M_takeY_10 : decode b_M_takeY 10 = .ok (.iconst 0, 1) := by decide +kernel
theorem d_M_takeY_11 : decode b_M_takeY 11 = .ok (.istore_n 2, 1) := by decide +kernel
theorem d_M_takeY_12 : decode b_M_takeY 12 = .ok (.iload_n 2, 1) := by decide +kernel
theorem d_M_takeY_13 : decode b_M_takeY 13 = .ok (.bipush 56, 2) := by decide +kernel
theorem d_M_takeY_15 : decode b_M_takeY 15 = .ok (.if_icmp .ge 26, 3) := by decide +kernel
theorem d_M_takeY_18 : decode b_M_takeY 18 = .ok (.aload_n 0, 1) := by decide +kernel
theorem d_M_takeY_19 : decode b_M_takeY 19 = .ok (.getfield 38, 3) := by decide +kernel
theorem d_M_takeY_22 : decode b_M_takeY 22 = .ok (.iload_n 2, 1) := by decide +kernel
theorem d_M_takeY_23 : decode b_M_takeY 23 = .ok (.aload_n 0, 1) := by decide +kernel
theorem d_M_takeY_24 : decode b_M_takeY 24 = .ok (.getfield 20, 3) := by decide +kernel
theorem d_M_takeY_27 : decode b_M_takeY 27 = .ok (.bipush 56, 2) := by decide +kernel
theorem d_M_takeY_29 : decode b_M_takeY 29 = .ok (.iload_n 1, 1) := by decide +kernel
theorem d_M_takeY_30 : decode b_M_takeY 30 = .ok (.imul, 1) := by decide +kernel
theorem d_M_takeY_31 : decode b_M_takeY 31 = .ok (.iload_n 2, 1) := by decide +kernel
theorem d_M_takeY_32 : decode b_M_takeY 32 = .ok (.iadd, 1) := by decide +kernel
theorem d_M_takeY_33 : decode b_M_takeY 33 = .ok (.iaload, 1) := by decide +kernel
theorem d_M_takeY_34 : decode b_M_takeY 34 = .ok (.iastore, 1) := by decide +kernel
theorem d_M_takeY_35 : decode b_M_takeY 35 = .ok (.iinc 2 1, 3) := by decide +kernel
theorem d_M_takeY_38 : decode b_M_takeY 38 = .ok (.goto (-26), 3) := by decide +kernel
theorem d_M_takeY_41 : decode b_M_takeY 41 = .ok (.return_, 1) := by decide +kernel
theorem d_M_spread_0 : decode b_M_spread 0 = .ok (.aload_n 0, 1) := by decide +kernel
theorem d_M_spread_1 : decode b_M_spread 1 = .ok (.invokevirtual 82, 3) := by decide +kernel
theorem d_M_spread_4 : decode b_M_spread 4 = .ok (.iconst 0, 1) := by decide +kernel
theorem d_M_spread_5 : decode b_M_spread 5 = .ok (.istore_n 1, 1) := by decide +kernel
theorem d_M_spread_6 : decode b_M_spread 6 = .ok (.iload_n 1, 1) := by decide +kernel
theorem d_M_spread_7 : decode b_M_spread 7 = .ok (.bipush 56, 2) := by decide +kernel
theorem d_M_spread_9 : decode b_M_spread 9 = .ok (.if_icmp .ge 24, 3) := by decide +kernel
theorem d_M_spread_12 : decode b_M_spread 12 = .ok (.aload_n 0, 1) := by decide +kernel
theorem d_M_spread_13 : decode b_M_spread 13 = .ok (.getfield 41, 3) := by decide +kernel
theorem d_M_spread_16 : decode b_M_spread 16 = .ok (.bipush 24, 2) := by decide +kernel
theorem d_M_spread_18 : decode b_M_spread 18 = .ok (.iload_n 1, 1) := by decide +kernel
theorem d_M_spread_19 : decode b_M_spread 19 = .ok (.iadd, 1) := by decide +kernel
theorem d_M_spread_20 : decode b_M_spread 20 = .ok (.aload_n 0, 1) := by decide +kernel
theorem d_M_spread_21 : decode b_M_spread 21 = .ok (.getfield 35, 3) := by decide +kernel
theorem d_M_spread_24 : decode b_M_spread 24 = .ok (.iload_n 1, 1) := by decide +kernel
theorem d_M_spread_25 : decode b_M_spread 25 = .ok (.iaload, 1) := by decide +kernel
theorem d_M_spread_26 : decode b_M_spread 26 = .ok (.iastore, 1) := by decide +kernel
theorem d_M_spread_27 : decode b_M_spread 27 = .ok (.iinc 1 1, 3) := by decide +kernel
theorem d_M_spread_30 : decode b_M_spread 30 = .ok (.goto (-24), 3) := by decide +kernel
theorem d_M_spread_33 : decode b_M_spread 33 = .ok (.aload_n 0, 1) := by decide +kernel
theorem d_M_spread_34 : decode b_M_spread 34 = .ok (.aload_n 0, 1) := by decide +kernel
theorem d_M_spread_35 : decode b_M_spread 35 = .ok (.getfield 76, 3) := by decide +kernel
theorem d_M_spread_38 : decode b_M_spread 38 = .ok (.putfield 50, 3) := by decide +kernel
theorem d_M_spread_41 : decode b_M_spread 41 = .ok (.return_, 1) := by decide +kernel
theorem d_M_top_0 : decode b_M_top 0 = .ok (.iconst (-1), 1) := by decide +kernel
theorem d_M_top_1 : decode b_M_top 1 = .ok (.istore_n 2, 1) := by decide +kernel
theorem d_M_top_2 : decode b_M_top 2 = .ok (.iconst 0, 1) := by decide +kernel
theorem d_M_top_3 : decode b_M_top 3 = .ok (.istore_n 3, 1) := by decide +kernel
theorem d_M_top_4 : decode b_M_top 4 = .ok (.iload_n 3, 1) := by decide +kernel
theorem d_M_top_5 : decode b_M_top 5 = .ok (.bipush 56, 2) := by decide +kernel
theorem d_M_top_7 : decode b_M_top 7 = .ok (.if_icmp .ge 41, 3) := by decide +kernel
theorem d_M_top_10 : decode b_M_top 10 = .ok (.iload_n 1, 1) := by decide +kernel
theorem d_M_top_11 : decode b_M_top 11 = .ok (.ifCond .eq 12, 3) := by decide +kernel
theorem d_M_top_14 : decode b_M_top 14 = .ok (.aload_n 0, 1) := by decide +kernel
theorem d_M_top_15 : decode b_M_top 15 = .ok (.getfield 38, 3) := by decide +kernel
theorem d_M_top_18 : decode b_M_top 18 = .ok (.iload_n 3, 1) := by decide +kernel
theorem d_M_top_19 : decode b_M_top 19 = .ok (.iaload, 1) := by decide +kernel
theorem d_M_top_20 : decode b_M_top 20 = .ok (.goto 9, 3) := by decide +kernel
theorem d_M_top_23 : decode b_M_top 23 = .ok (.aload_n 0, 1) := by decide +kernel
theorem d_M_top_24 : decode b_M_top 24 = .ok (.getfield 35, 3) := by decide +kernel
theorem d_M_top_27 : decode b_M_top 27 = .ok (.iload_n 3, 1) := by decide +kernel
theorem d_M_top_28 : decode b_M_top 28 = .ok (.iaload, 1) := by decide +kernel
theorem d_M_top_29 : decode b_M_top 29 = .ok (.istore 4, 2) := by decide +kernel
theorem d_M_top_31 : decode b_M_top 31 = .ok (.iload 4, 2) := by decide +kernel
theorem d_M_top_33 : decode b_M_top 33 = .ok (.ifCond .eq 7, 3) := by decide +kernel
theorem d_M_top_36 : decode b_M_top 36 = .ok (.iload_n 3, 1) := by decide +kernel
theorem d_M_top_37 : decode b_M_top 37 = .ok (.goto 4, 3) := by decide +kernel
theorem d_M_top_40 : decode b_M_top 40 = .ok (.iload_n 2, 1) := by decide +kernel
theorem d_M_top_41 : decode b_M_top 41 = .ok (.istore_n 2, 1) := by decide +kernel
theorem d_M_top_42 : decode b_M_top 42 = .ok (.iinc 3 1, 3) := by decide +kernel
theorem d_M_top_45 : decode b_M_top 45 = .ok (.goto (-41), 3) := by decide +kernel
theorem d_M_top_48 : decode b_M_top 48 = .ok (.iload_n 2, 1) := by decide +kernel
theorem d_M_top_49 : decode b_M_top 49 = .ok (.ireturn, 1) := by decide +kernel
theorem d_M_weight_0 : decode b_M_weight 0 = .ok (.aload_n 0, 1) := by decide +kernel
theorem d_M_weight_1 : decode b_M_weight 1 = .ok (.iload_n 1, 1) := by decide +kernel
theorem d_M_weight_2 : decode b_M_weight 2 = .ok (.invokevirtual 85, 3) := by decide +kernel
theorem d_M_weight_5 : decode b_M_weight 5 = .ok (.istore_n 2, 1) := by decide +kernel
theorem d_M_weight_6 : decode b_M_weight 6 = .ok (.iload_n 2, 1) := by decide +kernel
theorem d_M_weight_7 : decode b_M_weight 7 = .ok (.ifCond .ge 7, 3) := by decide +kernel
theorem d_M_weight_10 : decode b_M_weight 10 = .ok (.iconst 0, 1) := by decide +kernel
theorem d_M_weight_11 : decode b_M_weight 11 = .ok (.goto 9, 3) := by decide +kernel
theorem d_M_weight_14 : decode b_M_weight 14 = .ok (.iload_n 2, 1) := by decide +kernel
theorem d_M_weight_15 : decode b_M_weight 15 = .ok (.iconst 4, 1) := by decide +kernel
theorem d_M_weight_16 : decode b_M_weight 16 = .ok (.idiv, 1) := by decide +kernel
theorem d_M_weight_17 : decode b_M_weight 17 = .ok (.bipush 6, 2) := by decide +kernel
theorem d_M_weight_19 : decode b_M_weight 19 = .ok (.isub, 1) := by decide +kernel
theorem d_M_weight_20 : decode b_M_weight 20 = .ok (.ireturn, 1) := by decide +kernel
theorem d_M_lead_0 : decode b_M_lead 0 = .ok (.aload_n 0, 1) := by decide +kernel
theorem d_M_lead_1 : decode b_M_lead 1 = .ok (.iload_n 1, 1) := by decide +kernel
theorem d_M_lead_2 : decode b_M_lead 2 = .ok (.invokevirtual 85, 3) := by decide +kernel
theorem d_M_lead_5 : decode b_M_lead 5 = .ok (.istore_n 2, 1) := by decide +kernel
theorem d_M_lead_6 : decode b_M_lead 6 = .ok (.iconst 0, 1) := by decide +kernel
theorem d_M_lead_7 : decode b_M_lead 7 = .ok (.istore_n 3, 1) := by decide +kernel
theorem d_M_lead_8 : decode b_M_lead 8 = .ok (.iload_n 2, 1) := by decide +kernel
theorem d_M_lead_9 : decode b_M_lead 9 = .ok (.istore 4, 2) := by decide +kernel
theorem d_M_lead_11 : decode b_M_lead 11 = .ok (.iload 4, 2) := by decide +kernel
theorem d_M_lead_13 : decode b_M_lead 13 = .ok (.ifCond .lt 46, 3) := by decide +kernel
theorem d_M_lead_16 : decode b_M_lead 16 = .ok (.iload 4, 2) := by decide +kernel
theorem d_M_lead_18 : decode b_M_lead 18 = .ok (.iload_n 2, 1) := by decide +kernel
theorem d_M_lead_19 : decode b_M_lead 19 = .ok (.iconst 4, 1) := by decide +kernel
theorem d_M_lead_20 : decode b_M_lead 20 = .ok (.idiv, 1) := by decide +kernel
theorem d_M_lead_21 : decode b_M_lead 21 = .ok (.iconst 4, 1) := by decide +kernel
theorem d_M_lead_22 : decode b_M_lead 22 = .ok (.imul, 1) := by decide +kernel
theorem d_M_lead_23 : decode b_M_lead 23 = .ok (.if_icmp .lt 36, 3) := by decide +kernel
theorem d_M_lead_26 : decode b_M_lead 26 = .ok (.bipush 10, 2) := by decide +kernel
theorem d_M_lead_28 : decode b_M_lead 28 = .ok (.iload_n 3, 1) := by decide +kernel
theorem d_M_lead_29 : decode b_M_lead 29 = .ok (.imul, 1) := by decide +kernel
theorem d_M_lead_30 : decode b_M_lead 30 = .ok (.iload_n 1, 1) := by decide +kernel
theorem d_M_lead_31 : decode b_M_lead 31 = .ok (.ifCond .eq 13, 3) := by decide +kernel
theorem d_M_lead_34 : decode b_M_lead 34 = .ok (.aload_n 0, 1) := by decide +kernel
theorem d_M_lead_35 : decode b_M_lead 35 = .ok (.getfield 38, 3) := by decide +kernel
theorem d_M_lead_38 : decode b_M_lead 38 = .ok (.iload 4, 2) := by decide +kernel
theorem d_M_lead_40 : decode b_M_lead 40 = .ok (.iaload, 1) := by decide +kernel
theorem d_M_lead_41 : decode b_M_lead 41 = .ok (.goto 10, 3) := by decide +kernel
theorem d_M_lead_44 : decode b_M_lead 44 = .ok (.aload_n 0, 1) := by decide +kernel
theorem d_M_lead_45 : decode b_M_lead 45 = .ok (.getfield 35, 3) := by decide +kernel
theorem d_M_lead_48 : decode b_M_lead 48 = .ok (.iload 4, 2) := by decide +kernel
theorem d_M_lead_50 : decode b_M_lead 50 = .ok (.iaload, 1) := by decide +kernel
theorem d_M_lead_51 : decode b_M_lead 51 = .ok (.iadd, 1) := by decide +kernel
theorem d_M_lead_52 : decode b_M_lead 52 = .ok (.istore_n 3, 1) := by decide +kernel
theorem d_M_lead_53 : decode b_M_lead 53 = .ok (.iinc 4 (-1), 3) := by decide +kernel
theorem d_M_lead_56 : decode b_M_lead 56 = .ok (.goto (-45), 3) := by decide +kernel
theorem d_M_lead_59 : decode b_M_lead 59 = .ok (.iload_n 3, 1) := by decide +kernel
theorem d_M_lead_60 : decode b_M_lead 60 = .ok (.ireturn, 1) := by decide +kernel
theorem d_M_sign_0 : decode b_M_sign 0 = .ok (.aload_n 0, 1) := by decide +kernel
theorem d_M_sign_1 : decode b_M_sign 1 = .ok (.getfield 7, 3) := by decide +kernel
theorem d_M_sign_4 : decode b_M_sign 4 = .ok (.iload_n 1, 1) := by decide +kernel
theorem d_M_sign_5 : decode b_M_sign 5 = .ok (.iaload, 1) := by decide +kernel
theorem d_M_sign_6 : decode b_M_sign 6 = .ok (.iconst 1, 1) := by decide +kernel
theorem d_M_sign_7 : decode b_M_sign 7 = .ok (.if_icmp .le 19, 3) := by decide +kernel
theorem d_M_sign_10 : decode b_M_sign 10 = .ok (.aload_n 0, 1) := by decide +kernel
theorem d_M_sign_11 : decode b_M_sign 11 = .ok (.getfield 7, 3) := by decide +kernel
theorem d_M_sign_14 : decode b_M_sign 14 = .ok (.iload_n 1, 1) := by decide +kernel
theorem d_M_sign_15 : decode b_M_sign 15 = .ok (.iaload, 1) := by decide +kernel
theorem d_M_sign_16 : decode b_M_sign 16 = .ok (.iconst 2, 1) := by decide +kernel
theorem d_M_sign_17 : decode b_M_sign 17 = .ok (.if_icmp .ne 7, 3) := by decide +kernel
theorem d_M_sign_20 : decode b_M_sign 20 = .ok (.iconst 1, 1) := by decide +kernel
theorem d_M_sign_21 : decode b_M_sign 21 = .ok (.goto 4, 3) := by decide +kernel
theorem d_M_sign_24 : decode b_M_sign 24 = .ok (.iconst (-1), 1) := by decide +kernel
theorem d_M_sign_25 : decode b_M_sign 25 = .ok (.ireturn, 1) := by decide +kernel
theorem d_M_sign_26 : decode b_M_sign 26 = .ok (.iconst 0, 1) := by decide +kernel
theorem d_M_sign_27 : decode b_M_sign 27 = .ok (.istore_n 2, 1) := by decide +kernel
theorem d_M_sign_28 : decode b_M_sign 28 = .ok (.iconst 0, 1) := by decide +kernel
theorem d_M_sign_29 : decode b_M_sign 29 = .ok (.istore_n 3, 1) := by decide +kernel
theorem d_M_sign_30 : decode b_M_sign 30 = .ok (.iload_n 3, 1) := by decide +kernel
theorem d_M_sign_31 : decode b_M_sign 31 = .ok (.bipush 56, 2) := by decide +kernel
theorem d_M_sign_33 : decode b_M_sign 33 = .ok (.if_icmp .ge 29, 3) := by decide +kernel
theorem d_M_sign_36 : decode b_M_sign 36 = .ok (.aload_n 0, 1) := by decide +kernel
theorem d_M_sign_37 : decode b_M_sign 37 = .ok (.getfield 20, 3) := by decide +kernel
theorem d_M_sign_40 : decode b_M_sign 40 = .ok (.bipush 56, 2) := by decide +kernel
theorem d_M_sign_42 : decode b_M_sign 42 = .ok (.iload_n 1, 1) := by decide +kernel
theorem d_M_sign_43 : decode b_M_sign 43 = .ok (.imul, 1) := by decide +kernel
theorem d_M_sign_44 : decode b_M_sign 44 = .ok (.iload_n 3, 1) := by decide +kernel
theorem d_M_sign_45 : decode b_M_sign 45 = .ok (.iadd, 1) := by decide +kernel
theorem d_M_sign_46 : decode b_M_sign 46 = .ok (.iaload, 1) := by decide +kernel
theorem d_M_sign_47 : decode b_M_sign 47 = .ok (.ifCond .eq 7, 3) := by decide +kernel
theorem d_M_sign_50 : decode b_M_sign 50 = .ok (.iconst 1, 1) := by decide +kernel
theorem d_M_sign_51 : decode b_M_sign 51 = .ok (.goto 4, 3) := by decide +kernel
theorem d_M_sign_54 : decode b_M_sign 54 = .ok (.iload_n 2, 1) := by decide +kernel
theorem d_M_sign_55 : decode b_M_sign 55 = .ok (.istore_n 2, 1) := by decide +kernel
theorem d_M_sign_56 : decode b_M_sign 56 = .ok (.iinc 3 1, 3) := by decide +kernel
theorem d_M_sign_59 : decode b_M_sign 59 = .ok (.goto (-29), 3) := by decide +kernel
theorem d_M_sign_62 : decode b_M_sign 62 = .ok (.aload_n 0, 1) := by decide +kernel
theorem d_M_sign_63 : decode b_M_sign 63 = .ok (.getfield 13, 3) := by decide +kernel
theorem d_M_sign_66 : decode b_M_sign 66 = .ok (.iload_n 1, 1) := by decide +kernel
theorem d_M_sign_67 : decode b_M_sign 67 = .ok (.baload, 1) := by decide +kernel
theorem d_M_sign_68 : decode b_M_sign 68 = .ok (.ifCond .eq 8, 3) := by decide +kernel
theorem d_M_sign_71 : decode b_M_sign 71 = .ok (.iload_n 2, 1) := by decide +kernel
theorem d_M_sign_72 : decode b_M_sign 72 = .ok (.ineg, 1) := by decide +kernel
theorem d_M_sign_73 : decode b_M_sign 73 = .ok (.goto 4, 3) := by decide +kernel
theorem d_M_sign_76 : decode b_M_sign 76 = .ok (.iload_n 2, 1) := by decide +kernel
theorem d_M_sign_77 : decode b_M_sign 77 = .ok (.ireturn, 1) := by decide +kernel
theorem d_M_bring_0 : decode b_M_bring 0 = .ok (.bipush 57, 2) := by decide +kernel
theorem d_M_bring_2 : decode b_M_bring 2 = .ok (.istore_n 2, 1) := by decide +kernel
theorem d_M_bring_3 : decode b_M_bring 3 = .ok (.iload_n 2, 1) := by decide +kernel
theorem d_M_bring_4 : decode b_M_bring 4 = .ok (.ifCond .le 23, 3) := by decide +kernel
theorem d_M_bring_7 : decode b_M_bring 7 = .ok (.aload_n 0, 1) := by decide +kernel
theorem d_M_bring_8 : decode b_M_bring 8 = .ok (.getfield 44, 3) := by decide +kernel
theorem d_M_bring_11 : decode b_M_bring 11 = .ok (.iload_n 2, 1) := by decide +kernel
theorem d_M_bring_12 : decode b_M_bring 12 = .ok (.aload_n 0, 1) := by decide +kernel
theorem d_M_bring_13 : decode b_M_bring 13 = .ok (.getfield 44, 3) := by decide +kernel
theorem d_M_bring_16 : decode b_M_bring 16 = .ok (.iload_n 2, 1) := by decide +kernel
theorem d_M_bring_17 : decode b_M_bring 17 = .ok (.iconst 1, 1) := by decide +kernel
theorem d_M_bring_18 : decode b_M_bring 18 = .ok (.isub, 1) := by decide +kernel
theorem d_M_bring_19 : decode b_M_bring 19 = .ok (.iaload, 1) := by decide +kernel
theorem d_M_bring_20 : decode b_M_bring 20 = .ok (.iastore, 1) := by decide +kernel
theorem d_M_bring_21 : decode b_M_bring 21 = .ok (.iinc 2 (-1), 3) := by decide +kernel
theorem d_M_bring_24 : decode b_M_bring 24 = .ok (.goto (-21), 3) := by decide +kernel
theorem d_M_bring_27 : decode b_M_bring 27 = .ok (.aload_n 0, 1) := by decide +kernel
theorem d_M_bring_28 : decode b_M_bring 28 = .ok (.getfield 44, 3) := by decide +kernel
theorem d_M_bring_31 : decode b_M_bring 31 = .ok (.iconst 0, 1) := by decide +kernel
theorem d_M_bring_32 : decode b_M_bring 32 = .ok (.iload_n 1, 1) := by decide +kernel
theorem d_M_bring_33 : decode b_M_bring 33 = .ok (.iastore, 1) := by decide +kernel
theorem d_M_bring_34 : decode b_M_bring 34 = .ok (.return_, 1) := by decide +kernel
theorem d_M_holdsY_0 : decode b_M_holdsY 0 = .ok (.bipush 57, 2) := by decide +kernel
theorem d_M_holdsY_2 : decode b_M_holdsY 2 = .ok (.istore_n 1, 1) := by decide +kernel
theorem d_M_holdsY_3 : decode b_M_holdsY 3 = .ok (.iload_n 1, 1) := by decide +kernel
theorem d_M_holdsY_4 : decode b_M_holdsY 4 = .ok (.ifCond .lt 52, 3) := by decide +kernel
theorem d_M_holdsY_7 : decode b_M_holdsY 7 = .ok (.iload_n 1, 1) := by decide +kernel
theorem d_M_holdsY_8 : decode b_M_holdsY 8 = .ok (.bipush 56, 2) := by decide +kernel
theorem d_M_holdsY_10 : decode b_M_holdsY 10 = .ok (.if_icmp .ge 12, 3) := by decide +kernel
theorem d_M_holdsY_13 : decode b_M_holdsY 13 = .ok (.aload_n 0, 1) := by decide +kernel
theorem d_M_holdsY_14 : decode b_M_holdsY 14 = .ok (.getfield 38, 3) := by decide +kernel
theorem d_M_holdsY_17 : decode b_M_holdsY 17 = .ok (.iload_n 1, 1) := by decide +kernel
theorem d_M_holdsY_18 : decode b_M_holdsY 18 = .ok (.iaload, 1) := by decide +kernel
theorem d_M_holdsY_19 : decode b_M_holdsY 19 = .ok (.goto 4, 3) := by decide +kernel
theorem d_M_holdsY_22 : decode b_M_holdsY 22 = .ok (.iconst 0, 1) := by decide +kernel
theorem d_M_holdsY_23 : decode b_M_holdsY 23 = .ok (.istore_n 2, 1) := by decide +kernel
theorem d_M_holdsY_24 : decode b_M_holdsY 24 = .ok (.aload_n 0, 1) := by decide +kernel
theorem d_M_holdsY_25 : decode b_M_holdsY 25 = .ok (.getfield 44, 3) := by decide +kernel
theorem d_M_holdsY_28 : decode b_M_holdsY 28 = .ok (.iload_n 1, 1) := by decide +kernel
theorem d_M_holdsY_29 : decode b_M_holdsY 29 = .ok (.iaload, 1) := by decide +kernel
theorem d_M_holdsY_30 : decode b_M_holdsY 30 = .ok (.iload_n 2, 1) := by decide +kernel
theorem d_M_holdsY_31 : decode b_M_holdsY 31 = .ok (.if_icmp .eq 19, 3) := by decide +kernel
theorem d_M_holdsY_34 : decode b_M_holdsY 34 = .ok (.aload_n 0, 1) := by decide +kernel
theorem d_M_holdsY_35 : decode b_M_holdsY 35 = .ok (.getfield 44, 3) := by decide +kernel
theorem d_M_holdsY_38 : decode b_M_holdsY 38 = .ok (.iload_n 1, 1) := by decide +kernel
theorem d_M_holdsY_39 : decode b_M_holdsY 39 = .ok (.iaload, 1) := by decide +kernel
theorem d_M_holdsY_40 : decode b_M_holdsY 40 = .ok (.iload_n 2, 1) := by decide +kernel
theorem d_M_holdsY_41 : decode b_M_holdsY 41 = .ok (.if_icmp .le 7, 3) := by decide +kernel
theorem d_M_holdsY_44 : decode b_M_holdsY 44 = .ok (.iconst 1, 1) := by decide +kernel
theorem d_M_holdsY_45 : decode b_M_holdsY 45 = .ok (.goto 4, 3) := by decide +kernel
theorem d_M_holdsY_48 : decode b_M_holdsY 48 = .ok (.iconst 0, 1) := by decide +kernel
theorem d_M_holdsY_49 : decode b_M_holdsY 49 = .ok (.ireturn, 1) := by decide +kernel
theorem d_M_holdsY_50 : decode b_M_holdsY 50 = .ok (.iinc 1 (-1), 3) := by decide +kernel
theorem d_M_holdsY_53 : decode b_M_holdsY 53 = .ok (.goto (-50), 3) := by decide +kernel
theorem d_M_holdsY_56 : decode b_M_holdsY 56 = .ok (.iconst 1, 1) := by decide +kernel
theorem d_M_holdsY_57 : decode b_M_holdsY 57 = .ok (.ireturn, 1) := by decide +kernel
theorem d_M_subtractY_0 : decode b_M_subtractY 0 = .ok (.iconst 0, 1) := by decide +kernel
theorem d_M_subtractY_1 : decode b_M_subtractY 1 = .ok (.istore_n 1, 1) := by decide +kernel
theorem d_M_subtractY_2 : decode b_M_subtractY 2 = .ok (.iconst 0, 1) := by decide +kernel
theorem d_M_subtractY_3 : decode b_M_subtractY 3 = .ok (.istore_n 2, 1) := by decide +kernel
theorem d_M_subtractY_4 : decode b_M_subtractY 4 = .ok (.iload_n 2, 1) := by decide +kernel
theorem d_M_subtractY_5 : decode b_M_subtractY 5 = .ok (.bipush 58, 2) := by decide +kernel
theorem d_M_subtractY_7 : decode b_M_subtractY 7 = .ok (.if_icmp .ge 57, 3) := by decide +kernel
theorem d_M_subtractY_10 : decode b_M_subtractY 10 = .ok (.aload_n 0, 1) := by decide +kernel
theorem d_M_subtractY_11 : decode b_M_subtractY 11 = .ok (.getfield 44, 3) := by decide +kernel
theorem d_M_subtractY_14 : decode b_M_subtractY 14 = .ok (.iload_n 2, 1) := by decide +kernel
theorem d_M_subtractY_15 : decode b_M_subtractY 15 = .ok (.iaload, 1) := by decide +kernel
theorem d_M_subtractY_16 : decode b_M_subtractY 16 = .ok (.iload_n 2, 1) := by decide +kernel
theorem d_M_subtractY_17 : decode b_M_subtractY 17 = .ok (.bipush 56, 2) := by decide +kernel
theorem d_M_subtractY_19 : decode b_M_subtractY 19 = .ok (.if_icmp .ge 12, 3) := by decide +kernel
theorem d_M_subtractY_22 : decode b_M_subtractY 22 = .ok (.aload_n 0, 1) := by decide +kernel
theorem d_M_subtractY_23 : decode b_M_subtractY 23 = .ok (.getfield 38, 3) := by decide +kernel
theorem d_M_subtractY_26 : decode b_M_subtractY 26 = .ok (.iload_n 2, 1) := by decide +kernel
theorem d_M_subtractY_27 : decode b_M_subtractY 27 = .ok (.iaload, 1) := by decide +kernel
theorem d_M_subtractY_28 : decode b_M_subtractY 28 = .ok (.goto 4, 3) := by decide +kernel
theorem d_M_subtractY_31 : decode b_M_subtractY 31 = .ok (.iconst 0, 1) := by decide +kernel
theorem d_M_subtractY_32 : decode b_M_subtractY 32 = .ok (.isub, 1) := by decide +kernel
theorem d_M_subtractY_33 : decode b_M_subtractY 33 = .ok (.iload_n 1, 1) := by decide +kernel
theorem d_M_subtractY_34 : decode b_M_subtractY 34 = .ok (.isub, 1) := by decide +kernel
theorem d_M_subtractY_35 : decode b_M_subtractY 35 = .ok (.istore_n 3, 1) := by decide +kernel
theorem d_M_subtractY_36 : decode b_M_subtractY 36 = .ok (.iload_n 3, 1) := by decide +kernel
theorem d_M_subtractY_37 : decode b_M_subtractY 37 = .ok (.ifCond .ge 7, 3) := by decide +kernel
theorem d_M_subtractY_40 : decode b_M_subtractY 40 = .ok (.iconst 1, 1) := by decide +kernel
theorem d_M_subtractY_41 : decode b_M_subtractY 41 = .ok (.goto 4, 3) := by decide +kernel
theorem d_M_subtractY_44 : decode b_M_subtractY 44 = .ok (.iconst 0, 1) := by decide +kernel
theorem d_M_subtractY_45 : decode b_M_subtractY 45 = .ok (.istore_n 1, 1) := by decide +kernel
theorem d_M_subtractY_46 : decode b_M_subtractY 46 = .ok (.aload_n 0, 1) := by decide +kernel
theorem d_M_subtractY_47 : decode b_M_subtractY 47 = .ok (.getfield 44, 3) := by decide +kernel
theorem d_M_subtractY_50 : decode b_M_subtractY 50 = .ok (.iload_n 2, 1) := by decide +kernel
theorem d_M_subtractY_51 : decode b_M_subtractY 51 = .ok (.iload_n 3, 1) := by decide +kernel
theorem d_M_subtractY_52 : decode b_M_subtractY 52 = .ok (.bipush 10, 2) := by decide +kernel
theorem d_M_subtractY_54 : decode b_M_subtractY 54 = .ok (.iload_n 1, 1) := by decide +kernel
theorem d_M_subtractY_55 : decode b_M_subtractY 55 = .ok (.imul, 1) := by decide +kernel
theorem d_M_subtractY_56 : decode b_M_subtractY 56 = .ok (.iadd, 1) := by decide +kernel
theorem d_M_subtractY_57 : decode b_M_subtractY 57 = .ok (.iastore, 1) := by decide +kernel
theorem d_M_subtractY_58 : decode b_M_subtractY 58 = .ok (.iinc 2 1, 3) := by decide +kernel
theorem d_M_subtractY_61 : decode b_M_subtractY 61 = .ok (.goto (-57), 3) := by decide +kernel
theorem d_M_subtractY_64 : decode b_M_subtractY 64 = .ok (.return_, 1) := by decide +kernel
theorem d_M_noRest_0 : decode b_M_noRest 0 = .ok (.iconst 0, 1) := by decide +kernel
theorem d_M_noRest_1 : decode b_M_noRest 1 = .ok (.istore_n 1, 1) := by decide +kernel
theorem d_M_noRest_2 : decode b_M_noRest 2 = .ok (.iload_n 1, 1) := by decide +kernel
theorem d_M_noRest_3 : decode b_M_noRest 3 = .ok (.bipush 58, 2) := by decide +kernel
theorem d_M_noRest_5 : decode b_M_noRest 5 = .ok (.if_icmp .ge 16, 3) := by decide +kernel
theorem d_M_noRest_8 : decode b_M_noRest 8 = .ok (.aload_n 0, 1) := by decide +kernel
theorem d_M_noRest_9 : decode b_M_noRest 9 = .ok (.getfield 44, 3) := by decide +kernel
theorem d_M_noRest_12 : decode b_M_noRest 12 = .ok (.iload_n 1, 1) := by decide +kernel
theorem d_M_noRest_13 : decode b_M_noRest 13 = .ok (.iconst 0, 1) := by decide +kernel
theorem d_M_noRest_14 : decode b_M_noRest 14 = .ok (.iastore, 1) := by decide +kernel
theorem d_M_noRest_15 : decode b_M_noRest 15 = .ok (.iinc 1 1, 3) := by decide +kernel
theorem d_M_noRest_18 : decode b_M_noRest 18 = .ok (.goto (-16), 3) := by decide +kernel
theorem d_M_noRest_21 : decode b_M_noRest 21 = .ok (.return_, 1) := by decide +kernel
theorem d_M_quotient_0 : decode b_M_quotient 0 = .ok (.aload_n 0, 1) := by decide +kernel
theorem d_M_quotient_1 : decode b_M_quotient 1 = .ok (.invokevirtual 82, 3) := by decide +kernel
theorem d_M_quotient_4 : decode b_M_quotient 4 = .ok (.aload_n 0, 1) := by decide +kernel
theorem d_M_quotient_5 : decode b_M_quotient 5 = .ok (.aload_n 0, 1) := by decide +kernel
theorem d_M_quotient_6 : decode b_M_quotient 6 = .ok (.getfield 76, 3) := by decide +kernel
theorem d_M_quotient_9 : decode b_M_quotient 9 = .ok (.aload_n 0, 1) := by decide +kernel
theorem d_M_quotient_10 : decode b_M_quotient 10 = .ok (.getfield 79, 3) := by decide +kernel
theorem d_M_quotient_13 : decode b_M_quotient 13 = .ok (.if_icmp .eq 7, 3) := by decide +kernel
theorem d_M_quotient_16 : decode b_M_quotient 16 = .ok (.iconst 1, 1) := by decide +kernel
theorem d_M_quotient_17 : decode b_M_quotient 17 = .ok (.goto 4, 3) := by decide +kernel
theorem d_M_quotient_20 : decode b_M_quotient 20 = .ok (.iconst 0, 1) := by decide +kernel
theorem d_M_quotient_21 : decode b_M_quotient 21 = .ok (.putfield 50, 3) := by decide +kernel
theorem d_M_quotient_24 : decode b_M_quotient 24 = .ok (.aload_n 0, 1) := by decide +kernel
theorem d_M_quotient_25 : decode b_M_quotient 25 = .ok (.invokevirtual 89, 3) := by decide +kernel
theorem d_M_quotient_28 : decode b_M_quotient 28 = .ok (.bipush 55, 2) := by decide +kernel
theorem d_M_quotient_30 : decode b_M_quotient 30 = .ok (.iload_n 1, 1) := by decide +kernel
theorem d_M_quotient_31 : decode b_M_quotient 31 = .ok (.iadd, 1) := by decide +kernel
theorem d_M_quotient_32 : decode b_M_quotient 32 = .ok (.istore_n 2, 1) := by decide +kernel
theorem d_M_quotient_33 : decode b_M_quotient 33 = .ok (.iload_n 2, 1) := by decide +kernel
theorem d_M_quotient_34 : decode b_M_quotient 34 = .ok (.ifCond .lt 74, 3) := by decide +kernel
theorem d_M_quotient_37 : decode b_M_quotient 37 = .ok (.aload_n 0, 1) := by decide +kernel
theorem d_M_quotient_38 : decode b_M_quotient 38 = .ok (.iload_n 2, 1) := by decide +kernel
theorem d_M_quotient_39 : decode b_M_quotient 39 = .ok (.iload_n 1, 1) := by decide +kernel
theorem d_M_quotient_40 : decode b_M_quotient 40 = .ok (.if_icmp .lt 14, 3) := by decide +kernel
theorem d_M_quotient_43 : decode b_M_quotient 43 = .ok (.aload_n 0, 1) := by decide +kernel
theorem d_M_quotient_44 : decode b_M_quotient 44 = .ok (.getfield 35, 3) := by decide +kernel
theorem d_M_quotient_47 : decode b_M_quotient 47 = .ok (.iload_n 2, 1) := by decide +kernel
theorem d_M_quotient_48 : decode b_M_quotient 48 = .ok (.iload_n 1, 1) := by decide +kernel
theorem d_M_quotient_49 : decode b_M_quotient 49 = .ok (.isub, 1) := by decide +kernel
theorem d_M_quotient_50 : decode b_M_quotient 50 = .ok (.iaload, 1) := by decide +kernel
theorem d_M_quotient_51 : decode b_M_quotient 51 = .ok (.goto 4, 3) := by decide +kernel
theorem d_M_quotient_54 : decode b_M_quotient 54 = .ok (.iconst 0, 1) := by decide +kernel
theorem d_M_quotient_55 : decode b_M_quotient 55 = .ok (.invokevirtual 92, 3) := by decide +kernel
theorem d_M_quotient_58 : decode b_M_quotient 58 = .ok (.iconst 0, 1) := by decide +kernel
theorem d_M_quotient_59 : decode b_M_quotient 59 = .ok (.istore_n 3, 1) := by decide +kernel
theorem d_M_quotient_60 : decode b_M_quotient 60 = .ok (.iconst 0, 1) := by decide +kernel
theorem d_M_quotient_61 : decode b_M_quotient 61 = .ok (.istore 4, 2) := by decide +kernel
theorem d_M_quotient_63 : decode b_M_quotient 63 = .ok (.iload 4, 2) := by decide +kernel
theorem d_M_quotient_65 : decode b_M_quotient 65 = .ok (.bipush 9, 2) := by decide +kernel
theorem d_M_quotient_67 : decode b_M_quotient 67 = .ok (.if_icmp .ge 23, 3) := by decide +kernel
theorem d_M_quotient_70 : decode b_M_quotient 70 = .ok (.aload_n 0, 1) := by decide +kernel
theorem d_M_quotient_71 : decode b_M_quotient 71 = .ok (.invokevirtual 95, 3) := by decide +kernel
theorem d_M_quotient_74 : decode b_M_quotient 74 = .ok (.ifCond .eq 16, 3) := by decide +kernel
theorem d_M_quotient_77 : decode b_M_quotient 77 = .ok (.aload_n 0, 1) := by decide +kernel
theorem d_M_quotient_78 : decode b_M_quotient 78 = .ok (.invokevirtual 99, 3) := by decide +kernel
theorem d_M_quotient_81 : decode b_M_quotient 81 = .ok (.iinc 3 1, 3) := by decide +kernel
theorem d_M_quotient_84 : decode b_M_quotient 84 = .ok (.iinc 4 1, 3) := by decide +kernel
theorem d_M_quotient_87 : decode b_M_quotient 87 = .ok (.goto (-24), 3) := by decide +kernel
theorem d_M_quotient_90 : decode b_M_quotient 90 = .ok (.aload_n 0, 1) := by decide +kernel
theorem d_M_quotient_91 : decode b_M_quotient 91 = .ok (.getfield 41, 3) := by decide +kernel
theorem d_M_quotient_94 : decode b_M_quotient 94 = .ok (.bipush 48, 2) := by decide +kernel
theorem d_M_quotient_96 : decode b_M_quotient 96 = .ok (.iload_n 1, 1) := by decide +kernel
theorem d_M_quotient_97 : decode b_M_quotient 97 = .ok (.isub, 1) := by decide +kernel
theorem d_M_quotient_98 : decode b_M_quotient 98 = .ok (.iload_n 2, 1) := by decide +kernel
theorem d_M_quotient_99 : decode b_M_quotient 99 = .ok (.iadd, 1) := by decide +kernel
theorem d_M_quotient_100 : decode b_M_quotient 100 = .ok (.iload_n 3, 1) := by decide +kernel
theorem d_M_quotient_101 : decode b_M_quotient 101 = .ok (.iastore, 1) := by decide +kernel
theorem d_M_quotient_102 : decode b_M_quotient 102 = .ok (.iinc 2 (-1), 3) := by decide +kernel
theorem d_M_quotient_105 : decode b_M_quotient 105 = .ok (.goto (-72), 3) := by decide +kernel
theorem d_M_quotient_108 : decode b_M_quotient 108 = .ok (.return_, 1) := by decide +kernel
theorem d_M_quotientScale_0 : decode b_M_quotientScale 0 = .ok (.aload_n 0, 1) := by decide +kernel
theorem d_M_quotientScale_1 : decode b_M_quotientScale 1 = .ok (.iconst 0, 1) := by decide +kernel
theorem d_M_quotientScale_2 : decode b_M_quotientScale 2 = .ok (.invokevirtual 102, 3) := by decide +kernel
theorem d_M_quotientScale_5 : decode b_M_quotientScale 5 = .ok (.aload_n 0, 1) := by decide +kernel
theorem d_M_quotientScale_6 : decode b_M_quotientScale 6 = .ok (.iconst 1, 1) := by decide +kernel
theorem d_M_quotientScale_7 : decode b_M_quotientScale 7 = .ok (.invokevirtual 102, 3) := by decide +kernel
theorem d_M_quotientScale_10 : decode b_M_quotientScale 10 = .ok (.isub, 1) := by decide +kernel
theorem d_M_quotientScale_11 : decode b_M_quotientScale 11 = .ok (.aload_n 0, 1) := by decide +kernel
theorem d_M_quotientScale_12 : decode b_M_quotientScale 12 = .ok (.iconst 0, 1) := by decide +kernel
theorem d_M_quotientScale_13 : decode b_M_quotientScale 13 = .ok (.invokevirtual 105, 3) := by decide +kernel
theorem d_M_quotientScale_16 : decode b_M_quotientScale 16 = .ok (.aload_n 0, 1) := by decide +kernel
theorem d_M_quotientScale_17 : decode b_M_quotientScale 17 = .ok (.iconst 1, 1) := by decide +kernel
theorem d_M_quotientScale_18 : decode b_M_quotientScale 18 = .ok (.invokevirtual 105, 3) := by decide +kernel
theorem d_M_quotientScale_21 : decode b_M_quotientScale 21 = .ok (.if_icmp .gt 7, 3) := by decide +kernel
theorem d_M_quotientScale_24 : decode b_M_quotientScale 24 = .ok (.iconst 1, 1) := by decide +kernel
theorem d_M_quotientScale_25 : decode b_M_quotientScale 25 = .ok (.goto 4, 3) := by decide +kernel
theorem d_M_quotientScale_28 : decode b_M_quotientScale 28 = .ok (.iconst 0, 1) := by decide +kernel
theorem d_M_quotientScale_29 : decode b_M_quotientScale 29 = .ok (.isub, 1) := by decide +kernel
theorem d_M_quotientScale_30 : decode b_M_quotientScale 30 = .ok (.istore_n 3, 1) := by decide +kernel
theorem d_M_quotientScale_31 : decode b_M_quotientScale 31 = .ok (.bipush 16, 2) := by decide +kernel
theorem d_M_quotientScale_33 : decode b_M_quotientScale 33 = .ok (.iconst 4, 1) := by decide +kernel
theorem d_M_quotientScale_34 : decode b_M_quotientScale 34 = .ok (.iload_n 3, 1) := by decide +kernel
theorem d_M_quotientScale_35 : decode b_M_quotientScale 35 = .ok (.imul, 1) := by decide +kernel
theorem d_M_quotientScale_36 : decode b_M_quotientScale 36 = .ok (.isub, 1) := by decide +kernel
theorem d_M_quotientScale_37 : decode b_M_quotientScale 37 = .ok (.istore 4, 2) := by decide +kernel
theorem d_M_quotientScale_39 : decode b_M_quotientScale 39 = .ok (.iload_n 1, 1) := by decide +kernel
theorem d_M_quotientScale_40 : decode b_M_quotientScale 40 = .ok (.iload 4, 2) := by decide +kernel
theorem d_M_quotientScale_42 : decode b_M_quotientScale 42 = .ok (.if_icmp .le 7, 3) := by decide +kernel
theorem d_M_quotientScale_45 : decode b_M_quotientScale 45 = .ok (.iload_n 1, 1) := by decide +kernel
theorem d_M_quotientScale_46 : decode b_M_quotientScale 46 = .ok (.goto 5, 3) := by decide +kernel
theorem d_M_quotientScale_49 : decode b_M_quotientScale 49 = .ok (.iload 4, 2) := by decide +kernel
theorem d_M_quotientScale_51 : decode b_M_quotientScale 51 = .ok (.istore 4, 2) := by decide +kernel
theorem d_M_quotientScale_53 : decode b_M_quotientScale 53 = .ok (.iload_n 2, 1) := by decide +kernel
theorem d_M_quotientScale_54 : decode b_M_quotientScale 54 = .ok (.iload 4, 2) := by decide +kernel
theorem d_M_quotientScale_56 : decode b_M_quotientScale 56 = .ok (.if_icmp .le 7, 3) := by decide +kernel
theorem d_M_quotientScale_59 : decode b_M_quotientScale 59 = .ok (.iload_n 2, 1) := by decide +kernel
theorem d_M_quotientScale_60 : decode b_M_quotientScale 60 = .ok (.goto 5, 3) := by decide +kernel
theorem d_M_quotientScale_63 : decode b_M_quotientScale 63 = .ok (.iload 4, 2) := by decide +kernel
theorem d_M_quotientScale_65 : decode b_M_quotientScale 65 = .ok (.istore 4, 2) := by decide +kernel
theorem d_M_quotientScale_67 : decode b_M_quotientScale 67 = .ok (.iload 4, 2) := by decide +kernel
theorem d_M_quotientScale_69 : decode b_M_quotientScale 69 = .ok (.bipush 24, 2) := by decide +kernel
theorem d_M_quotientScale_71 : decode b_M_quotientScale 71 = .ok (.if_icmp .le 8, 3) := by decide +kernel
theorem d_M_quotientScale_74 : decode b_M_quotientScale 74 = .ok (.bipush 24, 2) := by decide +kernel
theorem d_M_quotientScale_76 : decode b_M_quotientScale 76 = .ok (.goto 5, 3) := by decide +kernel
theorem d_M_quotientScale_79 : decode b_M_quotientScale 79 = .ok (.iload 4, 2) := by decide +kernel
theorem d_M_quotientScale_81 : decode b_M_quotientScale 81 = .ok (.ireturn, 1) := by decide +kernel
theorem d_M_divide_0 : decode b_M_divide 0 = .ok (.aload_n 0, 1) := by decide +kernel
theorem d_M_divide_1 : decode b_M_divide 1 = .ok (.iload_n 2, 1) := by decide +kernel
theorem d_M_divide_2 : decode b_M_divide 2 = .ok (.iload_n 3, 1) := by decide +kernel
theorem d_M_divide_3 : decode b_M_divide 3 = .ok (.invokevirtual 108, 3) := by decide +kernel
theorem d_M_divide_6 : decode b_M_divide 6 = .ok (.istore 4, 2) := by decide +kernel
theorem d_M_divide_8 : decode b_M_divide 8 = .ok (.aload_n 0, 1) := by decide +kernel
theorem d_M_divide_9 : decode b_M_divide 9 = .ok (.iload 4, 2) := by decide +kernel
theorem d_M_divide_11 : decode b_M_divide 11 = .ok (.iconst 1, 1) := by decide +kernel
theorem d_M_divide_12 : decode b_M_divide 12 = .ok (.iadd, 1) := by decide +kernel
theorem d_M_divide_13 : decode b_M_divide 13 = .ok (.invokevirtual 111, 3) := by decide +kernel
theorem d_M_divide_16 : decode b_M_divide 16 = .ok (.aload_n 0, 1) := by decide +kernel
theorem d_M_divide_17 : decode b_M_divide 17 = .ok (.iload_n 1, 1) := by decide +kernel
theorem d_M_divide_18 : decode b_M_divide 18 = .ok (.iload 4, 2) := by decide +kernel
theorem d_M_divide_20 : decode b_M_divide 20 = .ok (.invokevirtual 114, 3) := by decide +kernel
theorem d_M_divide_23 : decode b_M_divide 23 = .ok (.ireturn, 1) := by decide +kernel
theorem d_M_twentyfold_0 : decode b_M_twentyfold 0 = .ok (.iconst 0, 1) := by decide +kernel
theorem d_M_twentyfold_1 : decode b_M_twentyfold 1 = .ok (.istore_n 1, 1) := by decide +kernel
theorem d_M_twentyfold_2 : decode b_M_twentyfold 2 = .ok (.aload_n 0, 1) := by decide +kernel
theorem d_M_twentyfold_3 : decode b_M_twentyfold 3 = .ok (.getfield 38, 3) := by decide +kernel
theorem d_M_twentyfold_6 : decode b_M_twentyfold 6 = .ok (.iconst 0, 1) := by decide +kernel
theorem d_M_twentyfold_7 : decode b_M_twentyfold 7 = .ok (.iconst 1, 1) := by decide +kernel
theorem d_M_twentyfold_8 : decode b_M_twentyfold 8 = .ok (.iastore, 1) := by decide +kernel
theorem d_M_twentyfold_9 : decode b_M_twentyfold 9 = .ok (.iconst 0, 1) := by decide +kernel
theorem d_M_twentyfold_10 : decode b_M_twentyfold 10 = .ok (.istore_n 2, 1) := by decide +kernel
theorem d_M_twentyfold_11 : decode b_M_twentyfold 11 = .ok (.iload_n 2, 1) := by decide +kernel
theorem d_M_twentyfold_12 : decode b_M_twentyfold 12 = .ok (.bipush 46, 2) := by decide +kernel
theorem d_M_twentyfold_14 : decode b_M_twentyfold 14 = .ok (.if_icmp .ge 37, 3) := by decide +kernel
theorem d_M_twentyfold_17 : decode b_M_twentyfold 17 = .ok (.iconst 2, 1) := by decide +kernel
theorem d_M_twentyfold_18 : decode b_M_twentyfold 18 = .ok (.aload_n 0, 1) := by decide +kernel
theorem d_M_twentyfold_19 : decode b_M_twentyfold 19 = .ok (.getfield 47, 3) := by decide +kernel
theorem d_M_twentyfold_22 : decode b_M_twentyfold 22 = .ok (.iload_n 2, 1) := by decide +kernel
theorem d_M_twentyfold_23 : decode b_M_twentyfold 23 = .ok (.iaload, 1) := by decide +kernel
theorem d_M_twentyfold_24 : decode b_M_twentyfold 24 = .ok (.imul, 1) := by decide +kernel
theorem d_M_twentyfold_25 : decode b_M_twentyfold 25 = .ok (.iload_n 1, 1) := by decide +kernel
theorem d_M_twentyfold_26 : decode b_M_twentyfold 26 = .ok (.iadd, 1) := by decide +kernel
theorem d_M_twentyfold_27 : decode b_M_twentyfold 27 = .ok (.istore_n 3, 1) := by decide +kernel
theorem d_M_twentyfold_28 : decode b_M_twentyfold 28 = .ok (.iload_n 3, 1) := by decide +kernel
theorem d_M_twentyfold_29 : decode b_M_twentyfold 29 = .ok (.bipush 10, 2) := by decide +kernel
theorem d_M_twentyfold_31 : decode b_M_twentyfold 31 = .ok (.idiv, 1) := by decide +kernel
theorem d_M_twentyfold_32 : decode b_M_twentyfold 32 = .ok (.istore_n 1, 1) := by decide +kernel
theorem d_M_twentyfold_33 : decode b_M_twentyfold 33 = .ok (.aload_n 0, 1) := by decide +kernel
theorem d_M_twentyfold_34 : decode b_M_twentyfold 34 = .ok (.getfield 38, 3) := by decide +kernel
theorem d_M_twentyfold_37 : decode b_M_twentyfold 37 = .ok (.iload_n 2, 1) := by decide +kernel
theorem d_M_twentyfold_38 : decode b_M_twentyfold 38 = .ok (.iconst 1, 1) := by decide +kernel
theorem d_M_twentyfold_39 : decode b_M_twentyfold 39 = .ok (.iadd, 1) := by decide +kernel
theorem d_M_twentyfold_40 : decode b_M_twentyfold 40 = .ok (.iload_n 3, 1) := by decide +kernel
theorem d_M_twentyfold_41 : decode b_M_twentyfold 41 = .ok (.bipush 10, 2) := by decide +kernel
theorem d_M_twentyfold_43 : decode b_M_twentyfold 43 = .ok (.irem, 1) := by decide +kernel
theorem d_M_twentyfold_44 : decode b_M_twentyfold 44 = .ok (.iastore, 1) := by decide +kernel
theorem d_M_twentyfold_45 : decode b_M_twentyfold 45 = .ok (.iinc 2 1, 3) := by decide +kernel
theorem d_M_twentyfold_48 : decode b_M_twentyfold 48 = .ok (.goto (-37), 3) := by decide +kernel
theorem d_M_twentyfold_51 : decode b_M_twentyfold 51 = .ok (.bipush 47, 2) := by decide +kernel
theorem d_M_twentyfold_53 : decode b_M_twentyfold 53 = .ok (.istore_n 2, 1) := by decide +kernel
theorem d_M_twentyfold_54 : decode b_M_twentyfold 54 = .ok (.iload_n 2, 1) := by decide +kernel
theorem d_M_twentyfold_55 : decode b_M_twentyfold 55 = .ok (.bipush 56, 2) := by decide +kernel
theorem d_M_twentyfold_57 : decode b_M_twentyfold 57 = .ok (.if_icmp .ge 16, 3) := by decide +kernel
theorem d_M_twentyfold_60 : decode b_M_twentyfold 60 = .ok (.aload_n 0, 1) := by decide +kernel
theorem d_M_twentyfold_61 : decode b_M_twentyfold 61 = .ok (.getfield 38, 3) := by decide +kernel
theorem d_M_twentyfold_64 : decode b_M_twentyfold 64 = .ok (.iload_n 2, 1) := by decide +kernel
theorem d_M_twentyfold_65 : decode b_M_twentyfold 65 = .ok (.iconst 0, 1) := by decide +kernel
theorem d_M_twentyfold_66 : decode b_M_twentyfold 66 = .ok (.iastore, 1) := by decide +kernel
theorem d_M_twentyfold_67 : decode b_M_twentyfold 67 = .ok (.iinc 2 1, 3) := by decide +kernel
theorem d_M_twentyfold_70 : decode b_M_twentyfold 70 = .ok (.goto (-16), 3) := by decide +kernel
theorem d_M_twentyfold_73 : decode b_M_twentyfold 73 = .ok (.return_, 1) := by decide +kernel
theorem d_M_twoMore_0 : decode b_M_twoMore 0 = .ok (.aload_n 0, 1) := by decide +kernel
theorem d_M_twoMore_1 : decode b_M_twoMore 1 = .ok (.getfield 38, 3) := by decide +kernel
theorem d_M_twoMore_4 : decode b_M_twoMore 4 = .ok (.iconst 0, 1) := by decide +kernel
theorem d_M_twoMore_5 : decode b_M_twoMore 5 = .ok (.dup2, 1) := by decide +kernel
theorem d_M_twoMore_6 : decode b_M_twoMore 6 = .ok (.iaload, 1) := by decide +kernel
theorem d_M_twoMore_7 : decode b_M_twoMore 7 = .ok (.iconst 2, 1) := by decide +kernel
theorem d_M_twoMore_8 : decode b_M_twoMore 8 = .ok (.iadd, 1) := by decide +kernel
theorem d_M_twoMore_9 : decode b_M_twoMore 9 = .ok (.iastore, 1) := by decide +kernel
theorem d_M_twoMore_10 : decode b_M_twoMore 10 = .ok (.iconst 0, 1) := by decide +kernel
theorem d_M_twoMore_11 : decode b_M_twoMore 11 = .ok (.istore_n 1, 1) := by decide +kernel
theorem d_M_twoMore_12 : decode b_M_twoMore 12 = .ok (.iload_n 1, 1) := by decide +kernel
theorem d_M_twoMore_13 : decode b_M_twoMore 13 = .ok (.bipush 55, 2) := by decide +kernel
theorem d_M_twoMore_15 : decode b_M_twoMore 15 = .ok (.if_icmp .ge 43, 3) := by decide +kernel
theorem d_M_twoMore_18 : decode b_M_twoMore 18 = .ok (.aload_n 0, 1) := by decide +kernel
theorem d_M_twoMore_19 : decode b_M_twoMore 19 = .ok (.getfield 38, 3) := by decide +kernel
theorem d_M_twoMore_22 : decode b_M_twoMore 22 = .ok (.iload_n 1, 1) := by decide +kernel
theorem d_M_twoMore_23 : decode b_M_twoMore 23 = .ok (.iaload, 1) := by decide +kernel
theorem d_M_twoMore_24 : decode b_M_twoMore 24 = .ok (.bipush 9, 2) := by decide +kernel
theorem d_M_twoMore_26 : decode b_M_twoMore 26 = .ok (.if_icmp .le 26, 3) := by decide +kernel
theorem d_M_twoMore_29 : decode b_M_twoMore 29 = .ok (.aload_n 0, 1) := by decide +kernel
theorem d_M_twoMore_30 : decode b_M_twoMore 30 = .ok (.getfield 38, 3) := by decide +kernel
theorem d_M_twoMore_33 : decode b_M_twoMore 33 = .ok (.iload_n 1, 1) := by decide +kernel
theorem d_M_twoMore_34 : decode b_M_twoMore 34 = .ok (.dup2, 1) := by decide +kernel
theorem d_M_twoMore_35 : decode b_M_twoMore 35 = .ok (.iaload, 1) := by decide +kernel
theorem d_M_twoMore_36 : decode b_M_twoMore 36 = .ok (.bipush 10, 2) := by decide +kernel
theorem d_M_twoMore_38 : decode b_M_twoMore 38 = .ok (.isub, 1) := by decide +kernel
theorem d_M_twoMore_39 : decode b_M_twoMore 39 = .ok (.iastore, 1) := by decide +kernel
theorem d_M_twoMore_40 : decode b_M_twoMore 40 = .ok (.aload_n 0, 1) := by decide +kernel
theorem d_M_twoMore_41 : decode b_M_twoMore 41 = .ok (.getfield 38, 3) := by decide +kernel
theorem d_M_twoMore_44 : decode b_M_twoMore 44 = .ok (.iload_n 1, 1) := by decide +kernel
theorem d_M_twoMore_45 : decode b_M_twoMore 45 = .ok (.iconst 1, 1) := by decide +kernel
theorem d_M_twoMore_46 : decode b_M_twoMore 46 = .ok (.iadd, 1) := by decide +kernel
theorem d_M_twoMore_47 : decode b_M_twoMore 47 = .ok (.dup2, 1) := by decide +kernel
theorem d_M_twoMore_48 : decode b_M_twoMore 48 = .ok (.iaload, 1) := by decide +kernel
theorem d_M_twoMore_49 : decode b_M_twoMore 49 = .ok (.iconst 1, 1) := by decide +kernel
theorem d_M_twoMore_50 : decode b_M_twoMore 50 = .ok (.iadd, 1) := by decide +kernel
theorem d_M_twoMore_51 : decode b_M_twoMore 51 = .ok (.iastore, 1) := by decide +kernel
theorem d_M_twoMore_52 : decode b_M_twoMore 52 = .ok (.iinc 1 1, 3) := by decide +kernel
theorem d_M_twoMore_55 : decode b_M_twoMore 55 = .ok (.goto (-43), 3) := by decide +kernel
theorem d_M_twoMore_58 : decode b_M_twoMore 58 = .ok (.return_, 1) := by decide +kernel
theorem d_M_squareRoot_0 : decode b_M_squareRoot 0 = .ok (.aload_n 0, 1) := by decide +kernel
theorem d_M_squareRoot_1 : decode b_M_squareRoot 1 = .ok (.invokevirtual 89, 3) := by decide +kernel
theorem d_M_squareRoot_4 : decode b_M_squareRoot 4 = .ok (.iconst 0, 1) := by decide +kernel
theorem d_M_squareRoot_5 : decode b_M_squareRoot 5 = .ok (.istore_n 2, 1) := by decide +kernel
theorem d_M_squareRoot_6 : decode b_M_squareRoot 6 = .ok (.iload_n 2, 1) := by decide +kernel
theorem d_M_squareRoot_7 : decode b_M_squareRoot 7 = .ok (.bipush 46, 2) := by decide +kernel
theorem d_M_squareRoot_9 : decode b_M_squareRoot 9 = .ok (.if_icmp .ge 16, 3) := by decide +kernel
theorem d_M_squareRoot_12 : decode b_M_squareRoot 12 = .ok (.aload_n 0, 1) := by decide +kernel
theorem d_M_squareRoot_13 : decode b_M_squareRoot 13 = .ok (.getfield 47, 3) := by decide +kernel
theorem d_M_squareRoot_16 : decode b_M_squareRoot 16 = .ok (.iload_n 2, 1) := by decide +kernel
theorem d_M_squareRoot_17 : decode b_M_squareRoot 17 = .ok (.iconst 0, 1) := by decide +kernel
theorem d_M_squareRoot_18 : decode b_M_squareRoot 18 = .ok (.iastore, 1) := by decide +kernel
theorem d_M_squareRoot_19 : decode b_M_squareRoot 19 = .ok (.iinc 2 1, 3) := by decide +kernel
theorem d_M_squareRoot_22 : decode b_M_squareRoot 22 = .ok (.goto (-16), 3) := by decide +kernel
theorem d_M_squareRoot_25 : decode b_M_squareRoot 25 = .ok (.bipush 41, 2) := by decide +kernel
theorem d_M_squareRoot_27 : decode b_M_squareRoot 27 = .ok (.istore_n 2, 1) := by decide +kernel
theorem d_M_squareRoot_28 : decode b_M_squareRoot 28 = .ok (.iload_n 2, 1) := by decide +kernel
theorem d_M_squareRoot_29 : decode b_M_squareRoot 29 = .ok (.ifCond .lt 140, 3) := by decide +kernel
theorem d_M_squareRoot_32 : decode b_M_squareRoot 32 = .ok (.iconst 1, 1) := by decide +kernel
theorem d_M_squareRoot_33 : decode b_M_squareRoot 33 = .ok (.istore_n 3, 1) := by decide +kernel
theorem d_M_squareRoot_34 : decode b_M_squareRoot 34 = .ok (.iload_n 3, 1) := by decide +kernel
theorem d_M_squareRoot_35 : decode b_M_squareRoot 35 = .ok (.ifCond .lt 50, 3) := by decide +kernel
theorem d_M_squareRoot_38 : decode b_M_squareRoot 38 = .ok (.iconst 2, 1) := by decide +kernel
theorem d_M_squareRoot_39 : decode b_M_squareRoot 39 = .ok (.iload_n 2, 1) := by decide +kernel
theorem d_M_squareRoot_40 : decode b_M_squareRoot 40 = .ok (.imul, 1) := by decide +kernel
theorem d_M_squareRoot_41 : decode b_M_squareRoot 41 = .ok (.iload_n 3, 1) := by decide +kernel
theorem d_M_squareRoot_42 : decode b_M_squareRoot 42 = .ok (.iadd, 1) := by decide +kernel
theorem d_M_squareRoot_43 : decode b_M_squareRoot 43 = .ok (.bipush 24, 2) := by decide +kernel
theorem d_M_squareRoot_45 : decode b_M_squareRoot 45 = .ok (.iadd, 1) := by decide +kernel
theorem d_M_squareRoot_46 : decode b_M_squareRoot 46 = .ok (.iconst 2, 1) := by decide +kernel
theorem d_M_squareRoot_47 : decode b_M_squareRoot 47 = .ok (.iload_n 1, 1) := by decide +kernel
theorem d_M_squareRoot_48 : decode b_M_squareRoot 48 = .ok (.imul, 1) := by decide +kernel
theorem d_M_squareRoot_49 : decode b_M_squareRoot 49 = .ok (.isub, 1) := by decide +kernel
theorem d_M_squareRoot_50 : decode b_M_squareRoot 50 = .ok (.istore 4, 2) := by decide +kernel
theorem d_M_squareRoot_52 : decode b_M_squareRoot 52 = .ok (.aload_n 0, 1) := by decide +kernel
theorem d_M_squareRoot_53 : decode b_M_squareRoot 53 = .ok (.iload 4, 2) := by decide +kernel
theorem d_M_squareRoot_55 : decode b_M_squareRoot 55 = .ok (.ifCond .lt 20, 3) := by decide +kernel
theorem d_M_squareRoot_58 : decode b_M_squareRoot 58 = .ok (.iload 4, 2) := by decide +kernel
theorem d_M_squareRoot_60 : decode b_M_squareRoot 60 = .ok (.bipush 56, 2) := by decide +kernel
theorem d_M_squareRoot_62 : decode b_M_squareRoot 62 = .ok (.if_icmp .ge 13, 3) := by decide +kernel
theorem d_M_squareRoot_65 : decode b_M_squareRoot 65 = .ok (.aload_n 0, 1) := by decide +kernel
theorem d_M_squareRoot_66 : decode b_M_squareRoot 66 = .ok (.getfield 35, 3) := by decide +kernel
theorem d_M_squareRoot_69 : decode b_M_squareRoot 69 = .ok (.iload 4, 2) := by decide +kernel
theorem d_M_squareRoot_71 : decode b_M_squareRoot 71 = .ok (.iaload, 1) := by decide +kernel
theorem d_M_squareRoot_72 : decode b_M_squareRoot 72 = .ok (.goto 4, 3) := by decide +kernel
theorem d_M_squareRoot_75 : decode b_M_squareRoot 75 = .ok (.iconst 0, 1) := by decide +kernel
theorem d_M_squareRoot_76 : decode b_M_squareRoot 76 = .ok (.invokevirtual 92, 3) := by decide +kernel
theorem d_M_squareRoot_79 : decode b_M_squareRoot 79 = .ok (.iinc 3 (-1), 3) := by decide +kernel
theorem d_M_squareRoot_82 : decode b_M_squareRoot 82 = .ok (.goto (-48), 3) := by decide +kernel
theorem d_M_squareRoot_85 : decode b_M_squareRoot 85 = .ok (.aload_n 0, 1) := by decide +kernel
theorem d_M_squareRoot_86 : decode b_M_squareRoot 86 = .ok (.invokevirtual 117, 3) := by decide +kernel
theorem d_M_squareRoot_89 : decode b_M_squareRoot 89 = .ok (.iconst 0, 1) := by decide +kernel
theorem d_M_squareRoot_90 : decode b_M_squareRoot 90 = .ok (.istore_n 3, 1) := by decide +kernel
theorem d_M_squareRoot_91 : decode b_M_squareRoot 91 = .ok (.iconst 0, 1) := by decide +kernel
theorem d_M_squareRoot_92 : decode b_M_squareRoot 92 = .ok (.istore 4, 2) := by decide +kernel
theorem d_M_squareRoot_94 : decode b_M_squareRoot 94 = .ok (.iload 4, 2) := by decide +kernel
theorem d_M_squareRoot_96 : decode b_M_squareRoot 96 = .ok (.bipush 9, 2) := by decide +kernel
theorem d_M_squareRoot_98 : decode b_M_squareRoot 98 = .ok (.if_icmp .ge 27, 3) := by decide +kernel
theorem d_M_squareRoot_101 : decode b_M_squareRoot 101 = .ok (.aload_n 0, 1) := by decide +kernel
theorem d_M_squareRoot_102 : decode b_M_squareRoot 102 = .ok (.invokevirtual 95, 3) := by decide +kernel
theorem d_M_squareRoot_105 : decode b_M_squareRoot 105 = .ok (.ifCond .eq 20, 3) := by decide +kernel
theorem d_M_squareRoot_108 : decode b_M_squareRoot 108 = .ok (.aload_n 0, 1) := by decide +kernel
theorem d_M_squareRoot_109 : decode b_M_squareRoot 109 = .ok (.invokevirtual 99, 3) := by decide +kernel
theorem d_M_squareRoot_112 : decode b_M_squareRoot 112 = .ok (.aload_n 0, 1) := by decide +kernel
theorem d_M_squareRoot_113 : decode b_M_squareRoot 113 = .ok (.invokevirtual 120, 3) := by decide +kernel
theorem d_M_squareRoot_116 : decode b_M_squareRoot 116 = .ok (.iinc 3 1, 3) := by decide +kernel
theorem d_M_squareRoot_119 : decode b_M_squareRoot 119 = .ok (.iinc 4 1, 3) := by decide +kernel
theorem d_M_squareRoot_122 : decode b_M_squareRoot 122 = .ok (.goto (-28), 3) := by decide +kernel
theorem d_M_squareRoot_125 : decode b_M_squareRoot 125 = .ok (.bipush 45, 2) := by decide +kernel
theorem d_M_squareRoot_127 : decode b_M_squareRoot 127 = .ok (.istore 4, 2) := by decide +kernel
theorem d_M_squareRoot_129 : decode b_M_squareRoot 129 = .ok (.iload 4, 2) := by decide +kernel
theorem d_M_squareRoot_131 : decode b_M_squareRoot 131 = .ok (.ifCond .le 25, 3) := by decide +kernel
theorem d_M_squareRoot_134 : decode b_M_squareRoot 134 = .ok (.aload_n 0, 1) := by decide +kernel
theorem d_M_squareRoot_135 : decode b_M_squareRoot 135 = .ok (.getfield 47, 3) := by decide +kernel
theorem d_M_squareRoot_138 : decode b_M_squareRoot 138 = .ok (.iload 4, 2) := by decide +kernel
theorem d_M_squareRoot_140 : decode b_M_squareRoot 140 = .ok (.aload_n 0, 1) := by decide +kernel
theorem d_M_squareRoot_141 : decode b_M_squareRoot 141 = .ok (.getfield 47, 3) := by decide +kernel
theorem d_M_squareRoot_144 : decode b_M_squareRoot 144 = .ok (.iload 4, 2) := by decide +kernel
theorem d_M_squareRoot_146 : decode b_M_squareRoot 146 = .ok (.iconst 1, 1) := by decide +kernel
theorem d_M_squareRoot_147 : decode b_M_squareRoot 147 = .ok (.isub, 1) := by decide +kernel
theorem d_M_squareRoot_148 : decode b_M_squareRoot 148 = .ok (.iaload, 1) := by decide +kernel
theorem d_M_squareRoot_149 : decode b_M_squareRoot 149 = .ok (.iastore, 1) := by decide +kernel
theorem d_M_squareRoot_150 : decode b_M_squareRoot 150 = .ok (.iinc 4 (-1), 3) := by decide +kernel
theorem d_M_squareRoot_153 : decode b_M_squareRoot 153 = .ok (.goto (-24), 3) := by decide +kernel
theorem d_M_squareRoot_156 : decode b_M_squareRoot 156 = .ok (.aload_n 0, 1) := by decide +kernel
theorem d_M_squareRoot_157 : decode b_M_squareRoot 157 = .ok (.getfield 47, 3) := by decide +kernel
theorem d_M_squareRoot_160 : decode b_M_squareRoot 160 = .ok (.iconst 0, 1) := by decide +kernel
theorem d_M_squareRoot_161 : decode b_M_squareRoot 161 = .ok (.iload_n 3, 1) := by decide +kernel
theorem d_M_squareRoot_162 : decode b_M_squareRoot 162 = .ok (.iastore, 1) := by decide +kernel
theorem d_M_squareRoot_163 : decode b_M_squareRoot 163 = .ok (.iinc 2 (-1), 3) := by decide +kernel
theorem d_M_squareRoot_166 : decode b_M_squareRoot 166 = .ok (.goto (-138), 3) := by decide +kernel
theorem d_M_squareRoot_169 : decode b_M_squareRoot 169 = .ok (.aload_n 0, 1) := by decide +kernel
theorem d_M_squareRoot_170 : decode b_M_squareRoot 170 = .ok (.invokevirtual 82, 3) := by decide +kernel
theorem d_M_squareRoot_173 : decode b_M_squareRoot 173 = .ok (.iconst 0, 1) := by decide +kernel
theorem d_M_squareRoot_174 : decode b_M_squareRoot 174 = .ok (.istore_n 2, 1) := by decide +kernel
theorem d_M_squareRoot_175 : decode b_M_squareRoot 175 = .ok (.iload_n 2, 1) := by decide +kernel
theorem d_M_squareRoot_176 : decode b_M_squareRoot 176 = .ok (.bipush 46, 2) := by decide +kernel
theorem d_M_squareRoot_178 : decode b_M_squareRoot 178 = .ok (.if_icmp .ge 26, 3) := by decide +kernel
theorem d_M_squareRoot_181 : decode b_M_squareRoot 181 = .ok (.aload_n 0, 1) := by decide +kernel
theorem d_M_squareRoot_182 : decode b_M_squareRoot 182 = .ok (.getfield 41, 3) := by decide +kernel
theorem d_M_squareRoot_185 : decode b_M_squareRoot 185 = .ok (.bipush 48, 2) := by decide +kernel
theorem d_M_squareRoot_187 : decode b_M_squareRoot 187 = .ok (.iload_n 1, 1) := by decide +kernel
theorem d_M_squareRoot_188 : decode b_M_squareRoot 188 = .ok (.isub, 1) := by decide +kernel
theorem d_M_squareRoot_189 : decode b_M_squareRoot 189 = .ok (.iload_n 2, 1) := by decide +kernel
theorem d_M_squareRoot_190 : decode b_M_squareRoot 190 = .ok (.iadd, 1) := by decide +kernel
theorem d_M_squareRoot_191 : decode b_M_squareRoot 191 = .ok (.aload_n 0, 1) := by decide +kernel
theorem d_M_squareRoot_192 : decode b_M_squareRoot 192 = .ok (.getfield 47, 3) := by decide +kernel
theorem d_M_squareRoot_195 : decode b_M_squareRoot 195 = .ok (.iload_n 2, 1) := by decide +kernel
theorem d_M_squareRoot_196 : decode b_M_squareRoot 196 = .ok (.iaload, 1) := by decide +kernel
theorem d_M_squareRoot_197 : decode b_M_squareRoot 197 = .ok (.iastore, 1) := by decide +kernel
theorem d_M_squareRoot_198 : decode b_M_squareRoot 198 = .ok (.iinc 2 1, 3) := by decide +kernel
theorem d_M_squareRoot_201 : decode b_M_squareRoot 201 = .ok (.goto (-26), 3) := by decide +kernel
theorem d_M_squareRoot_204 : decode b_M_squareRoot 204 = .ok (.return_, 1) := by decide +kernel
theorem d_M_type_0 : decode b_M_type 0 = .ok (.aload_n 0, 1) := by decide +kernel
theorem d_M_type_1 : decode b_M_type 1 = .ok (.getfield 123, 3) := by decide +kernel
theorem d_M_type_4 : decode b_M_type 4 = .ok (.bipush 80, 2) := by decide +kernel
theorem d_M_type_6 : decode b_M_type 6 = .ok (.if_icmp .eq 15, 3) := by decide +kernel
theorem d_M_type_9 : decode b_M_type 9 = .ok (.iload_n 1, 1) := by decide +kernel
theorem d_M_type_10 : decode b_M_type 10 = .ok (.bipush 32, 2) := by decide +kernel
theorem d_M_type_12 : decode b_M_type 12 = .ok (.if_icmp .lt 9, 3) := by decide +kernel
theorem d_M_type_15 : decode b_M_type 15 = .ok (.iload_n 1, 1) := by decide +kernel
theorem d_M_type_16 : decode b_M_type 16 = .ok (.bipush 126, 2) := by decide +kernel
theorem d_M_type_18 : decode b_M_type 18 = .ok (.if_icmp .le 5, 3) := by decide +kernel
theorem d_M_type_21 : decode b_M_type 21 = .ok (.iconst 0, 1) := by decide +kernel
theorem d_M_type_22 : decode b_M_type 22 = .ok (.ireturn, 1) := by decide +kernel
theorem d_M_type_23 : decode b_M_type 23 = .ok (.aload_n 0, 1) := by decide +kernel
theorem d_M_type_24 : decode b_M_type 24 = .ok (.getfield 23, 3) := by decide +kernel
theorem d_M_type_27 : decode b_M_type 27 = .ok (.aload_n 0, 1) := by decide +kernel
theorem d_M_type_28 : decode b_M_type 28 = .ok (.getfield 123, 3) := by decide +kernel
theorem d_M_type_31 : decode b_M_type 31 = .ok (.iload_n 1, 1) := by decide +kernel
theorem d_M_type_32 : decode b_M_type 32 = .ok (.iastore, 1) := by decide +kernel
theorem d_M_type_33 : decode b_M_type 33 = .ok (.aload_n 0, 1) := by decide +kernel
theorem d_M_type_34 : decode b_M_type 34 = .ok (.dup, 1) := by decide +kernel
theorem d_M_type_35 : decode b_M_type 35 = .ok (.getfield 123, 3) := by decide +kernel
theorem d_M_type_38 : decode b_M_type 38 = .ok (.iconst 1, 1) := by decide +kernel
theorem d_M_type_39 : decode b_M_type 39 = .ok (.iadd, 1) := by decide +kernel
theorem d_M_type_40 : decode b_M_type 40 = .ok (.putfield 123, 3) := by decide +kernel
theorem d_M_type_43 : decode b_M_type 43 = .ok (.iconst 1, 1) := by decide +kernel
theorem d_M_type_44 : decode b_M_type 44 = .ok (.ireturn, 1) := by decide +kernel
theorem d_M_isLetter_0 : decode b_M_isLetter 0 = .ok (.iload_n 1, 1) := by decide +kernel
theorem d_M_isLetter_1 : decode b_M_isLetter 1 = .ok (.aload_n 0, 1) := by decide +kernel
theorem d_M_isLetter_2 : decode b_M_isLetter 2 = .ok (.getfield 123, 3) := by decide +kernel
theorem d_M_isLetter_5 : decode b_M_isLetter 5 = .ok (.if_icmp .ge 20, 3) := by decide +kernel
theorem d_M_isLetter_8 : decode b_M_isLetter 8 = .ok (.aload_n 0, 1) := by decide +kernel
theorem d_M_isLetter_9 : decode b_M_isLetter 9 = .ok (.getfield 23, 3) := by decide +kernel
theorem d_M_isLetter_12 : decode b_M_isLetter 12 = .ok (.iload_n 1, 1) := by decide +kernel
theorem d_M_isLetter_13 : decode b_M_isLetter 13 = .ok (.iaload, 1) := by decide +kernel
theorem d_M_isLetter_14 : decode b_M_isLetter 14 = .ok (.bipush 32, 2) := by decide +kernel
theorem d_M_isLetter_16 : decode b_M_isLetter 16 = .ok (.ior, 1) := by decide +kernel
theorem d_M_isLetter_17 : decode b_M_isLetter 17 = .ok (.iload_n 2, 1) := by decide +kernel
theorem d_M_isLetter_18 : decode b_M_isLetter 18 = .ok (.if_icmp .ne 7, 3) := by decide +kernel
theorem d_M_isLetter_21 : decode b_M_isLetter 21 = .ok (.iconst 1, 1) := by decide +kernel
theorem d_M_isLetter_22 : decode b_M_isLetter 22 = .ok (.goto 4, 3) := by decide +kernel
theorem d_M_isLetter_25 : decode b_M_isLetter 25 = .ok (.iconst 0, 1) := by decide +kernel
theorem d_M_isLetter_26 : decode b_M_isLetter 26 = .ok (.ireturn, 1) := by decide +kernel
theorem d_M_isSign_0 : decode b_M_isSign 0 = .ok (.iload_n 1, 1) := by decide +kernel
theorem d_M_isSign_1 : decode b_M_isSign 1 = .ok (.aload_n 0, 1) := by decide +kernel
theorem d_M_isSign_2 : decode b_M_isSign 2 = .ok (.getfield 123, 3) := by decide +kernel
theorem d_M_isSign_5 : decode b_M_isSign 5 = .ok (.if_icmp .ge 29, 3) := by decide +kernel
theorem d_M_isSign_8 : decode b_M_isSign 8 = .ok (.aload_n 0, 1) := by decide +kernel
theorem d_M_isSign_9 : decode b_M_isSign 9 = .ok (.getfield 23, 3) := by decide +kernel
theorem d_M_isSign_12 : decode b_M_isSign 12 = .ok (.iload_n 1, 1) := by decide +kernel
theorem d_M_isSign_13 : decode b_M_isSign 13 = .ok (.iaload, 1) := by decide +kernel
theorem d_M_isSign_14 : decode b_M_isSign 14 = .ok (.bipush 43, 2) := by decide +kernel
theorem d_M_isSign_16 : decode b_M_isSign 16 = .ok (.if_icmp .eq 14, 3) := by decide +kernel
theorem d_M_isSign_19 : decode b_M_isSign 19 = .ok (.aload_n 0, 1) := by decide +kernel
theorem d_M_isSign_20 : decode b_M_isSign 20 = .ok (.getfield 23, 3) := by decide +kernel
theorem d_M_isSign_23 : decode b_M_isSign 23 = .ok (.iload_n 1, 1) := by decide +kernel
theorem d_M_isSign_24 : decode b_M_isSign 24 = .ok (.iaload, 1) := by decide +kernel
theorem d_M_isSign_25 : decode b_M_isSign 25 = .ok (.bipush 45, 2) := by decide +kernel
theorem d_M_isSign_27 : decode b_M_isSign 27 = .ok (.if_icmp .ne 7, 3) := by decide +kernel
theorem d_M_isSign_30 : decode b_M_isSign 30 = .ok (.iconst 1, 1) := by decide +kernel
theorem d_M_isSign_31 : decode b_M_isSign 31 = .ok (.goto 4, 3) := by decide +kernel
theorem d_M_isSign_34 : decode b_M_isSign 34 = .ok (.iconst 0, 1) := by decide +kernel
theorem d_M_isSign_35 : decode b_M_isSign 35 = .ok (.ireturn, 1) := by decide +kernel
theorem d_M_isDigit_0 : decode b_M_isDigit 0 = .ok (.iload_n 1, 1) := by decide +kernel
theorem d_M_isDigit_1 : decode b_M_isDigit 1 = .ok (.aload_n 0, 1) := by decide +kernel
theorem d_M_isDigit_2 : decode b_M_isDigit 2 = .ok (.getfield 123, 3) := by decide +kernel
theorem d_M_isDigit_5 : decode b_M_isDigit 5 = .ok (.if_icmp .ge 29, 3) := by decide +kernel
theorem d_M_isDigit_8 : decode b_M_isDigit 8 = .ok (.aload_n 0, 1) := by decide +kernel
theorem d_M_isDigit_9 : decode b_M_isDigit 9 = .ok (.getfield 23, 3) := by decide +kernel
theorem d_M_isDigit_12 : decode b_M_isDigit 12 = .ok (.iload_n 1, 1) := by decide +kernel
theorem d_M_isDigit_13 : decode b_M_isDigit 13 = .ok (.iaload, 1) := by decide +kernel
theorem d_M_isDigit_14 : decode b_M_isDigit 14 = .ok (.bipush 48, 2) := by decide +kernel
theorem d_M_isDigit_16 : decode b_M_isDigit 16 = .ok (.if_icmp .lt 18, 3) := by decide +kernel
theorem d_M_isDigit_19 : decode b_M_isDigit 19 = .ok (.aload_n 0, 1) := by decide +kernel
theorem d_M_isDigit_20 : decode b_M_isDigit 20 = .ok (.getfield 23, 3) := by decide +kernel
theorem d_M_isDigit_23 : decode b_M_isDigit 23 = .ok (.iload_n 1, 1) := by decide +kernel
theorem d_M_isDigit_24 : decode b_M_isDigit 24 = .ok (.iaload, 1) := by decide +kernel
theorem d_M_isDigit_25 : decode b_M_isDigit 25 = .ok (.bipush 57, 2) := by decide +kernel
theorem d_M_isDigit_27 : decode b_M_isDigit 27 = .ok (.if_icmp .gt 7, 3) := by decide +kernel
theorem d_M_isDigit_30 : decode b_M_isDigit 30 = .ok (.iconst 1, 1) := by decide +kernel
theorem d_M_isDigit_31 : decode b_M_isDigit 31 = .ok (.goto 4, 3) := by decide +kernel
theorem d_M_isDigit_34 : decode b_M_isDigit 34 = .ok (.iconst 0, 1) := by decide +kernel
theorem d_M_isDigit_35 : decode b_M_isDigit 35 = .ok (.ireturn, 1) := by decide +kernel
theorem d_M_letter_0 : decode b_M_letter 0 = .ok (.iload_n 1, 1) := by decide +kernel
theorem d_M_letter_1 : decode b_M_letter 1 = .ok (.tableswitch 55 0 6 #[43, 46, 49, 43, 46, 43, 52], 43) := by decide +kernel
theorem d_M_letter_44 : decode b_M_letter 44 = .ok (.bipush 105, 2) := by decide +kernel
theorem d_M_letter_46 : decode b_M_letter 46 = .ok (.ireturn, 1) := by decide +kernel
theorem d_M_letter_47 : decode b_M_letter 47 = .ok (.bipush 110, 2) := by decide +kernel
theorem d_M_letter_49 : decode b_M_letter 49 = .ok (.ireturn, 1) := by decide +kernel
theorem d_M_letter_50 : decode b_M_letter 50 = .ok (.bipush 102, 2) := by decide +kernel
theorem d_M_letter_52 : decode b_M_letter 52 = .ok (.ireturn, 1) := by decide +kernel
theorem d_M_letter_53 : decode b_M_letter 53 = .ok (.bipush 116, 2) := by decide +kernel
theorem d_M_letter_55 : decode b_M_letter 55 = .ok (.ireturn, 1) := by decide +kernel
theorem d_M_letter_56 : decode b_M_letter 56 = .ok (.bipush 121, 2) := by decide +kernel
theorem d_M_letter_58 : decode b_M_letter 58 = .ok (.ireturn, 1) := by decide +kernel
theorem d_M_infinity_0 : decode b_M_infinity 0 = .ok (.aload_n 0, 1) := by decide +kernel
theorem d_M_infinity_1 : decode b_M_infinity 1 = .ok (.getfield 123, 3) := by decide +kernel
theorem d_M_infinity_4 : decode b_M_infinity 4 = .ok (.iload_n 1, 1) := by decide +kernel
theorem d_M_infinity_5 : decode b_M_infinity 5 = .ok (.isub, 1) := by decide +kernel
theorem d_M_infinity_6 : decode b_M_infinity 6 = .ok (.istore_n 2, 1) := by decide +kernel
theorem d_M_infinity_7 : decode b_M_infinity 7 = .ok (.iload_n 2, 1) := by decide +kernel
theorem d_M_infinity_8 : decode b_M_infinity 8 = .ok (.iconst 3, 1) := by decide +kernel
theorem d_M_infinity_9 : decode b_M_infinity 9 = .ok (.if_icmp .eq 9, 3) := by decide +kernel
theorem d_M_infinity_12 : decode b_M_infinity 12 = .ok (.iload_n 2, 1) := by decide +kernel
theorem d_M_infinity_13 : decode b_M_infinity 13 = .ok (.bipush 8, 2) := by decide +kernel
theorem d_M_infinity_15 : decode b_M_infinity 15 = .ok (.if_icmp .ne 7, 3) := by decide +kernel
theorem d_M_infinity_18 : decode b_M_infinity 18 = .ok (.iconst 1, 1) := by decide +kernel
theorem d_M_infinity_19 : decode b_M_infinity 19 = .ok (.goto 4, 3) := by decide +kernel
theorem d_M_infinity_22 : decode b_M_infinity 22 = .ok (.iconst 0, 1) := by decide +kernel
theorem d_M_infinity_23 : decode b_M_infinity 23 = .ok (.istore_n 3, 1) := by decide +kernel
theorem d_M_infinity_24 : decode b_M_infinity 24 = .ok (.iconst 0, 1) := by decide +kernel
theorem d_M_infinity_25 : decode b_M_infinity 25 = .ok (.istore 4, 2) := by decide +kernel
theorem d_M_infinity_27 : decode b_M_infinity 27 = .ok (.iload 4, 2) := by decide +kernel
theorem d_M_infinity_29 : decode b_M_infinity 29 = .ok (.iload_n 2, 1) := by decide +kernel
theorem d_M_infinity_30 : decode b_M_infinity 30 = .ok (.if_icmp .ge 28, 3) := by decide +kernel
theorem d_M_infinity_33 : decode b_M_infinity 33 = .ok (.iload_n 3, 1) := by decide +kernel
theorem d_M_infinity_34 : decode b_M_infinity 34 = .ok (.ifCond .eq 24, 3) := by decide +kernel
theorem d_M_infinity_37 : decode b_M_infinity 37 = .ok (.aload_n 0, 1) := by decide +kernel
theorem d_M_infinity_38 : decode b_M_infinity 38 = .ok (.iload_n 1, 1) := by decide +kernel
theorem d_M_infinity_39 : decode b_M_infinity 39 = .ok (.iload 4, 2) := by decide +kernel
theorem d_M_infinity_41 : decode b_M_infinity 41 = .ok (.iadd, 1) := by decide +kernel
theorem d_M_infinity_42 : decode b_M_infinity 42 = .ok (.aload_n 0, 1) := by decide +kernel
theorem d_M_infinity_43 : decode b_M_infinity 43 = .ok (.iload 4, 2) := by decide +kernel
theorem d_M_infinity_45 : decode b_M_infinity 45 = .ok (.invokevirtual 127, 3) := by decide +kernel
theorem d_M_infinity_48 : decode b_M_infinity 48 = .ok (.invokevirtual 131, 3) := by decide +kernel
theorem d_M_infinity_51 : decode b_M_infinity 51 = .ok (.istore_n 3, 1) := by decide +kernel
theorem d_M_infinity_52 : decode b_M_infinity 52 = .ok (.iinc 4 1, 3) := by decide +kernel
theorem d_M_infinity_55 : decode b_M_infinity 55 = .ok (.goto (-28), 3) := by decide +kernel
theorem d_M_infinity_58 : decode b_M_infinity 58 = .ok (.iload_n 3, 1) := by decide +kernel
theorem d_M_infinity_59 : decode b_M_infinity 59 = .ok (.ireturn, 1) := by decide +kernel
theorem d_M_enter_0 : decode b_M_enter 0 = .ok (.aload_n 0, 1) := by decide +kernel
theorem d_M_enter_1 : decode b_M_enter 1 = .ok (.iload_n 1, 1) := by decide +kernel
theorem d_M_enter_2 : decode b_M_enter 2 = .ok (.bipush 7, 2) := by decide +kernel
theorem d_M_enter_4 : decode b_M_enter 4 = .ok (.invokevirtual 135, 3) := by decide +kernel
theorem d_M_enter_7 : decode b_M_enter 7 = .ok (.ifCond .eq 5, 3) := by decide +kernel
theorem d_M_enter_10 : decode b_M_enter 10 = .ok (.iconst (-1), 1) := by decide +kernel
theorem d_M_enter_11 : decode b_M_enter 11 = .ok (.ireturn, 1) := by decide +kernel
theorem d_M_enter_12 : decode b_M_enter 12 = .ok (.aload_n 0, 1) := by decide +kernel
theorem d_M_enter_13 : decode b_M_enter 13 = .ok (.getfield 123, 3) := by decide +kernel
theorem d_M_enter_16 : decode b_M_enter 16 = .ok (.iconst 3, 1) := by decide +kernel
theorem d_M_enter_17 : decode b_M_enter 17 = .ok (.if_icmp .ne 43, 3) := by decide +kernel
theorem d_M_enter_20 : decode b_M_enter 20 = .ok (.aload_n 0, 1) := by decide +kernel
theorem d_M_enter_21 : decode b_M_enter 21 = .ok (.iconst 0, 1) := by decide +kernel
theorem d_M_enter_22 : decode b_M_enter 22 = .ok (.bipush 110, 2) := by decide +kernel
theorem d_M_enter_24 : decode b_M_enter 24 = .ok (.invokevirtual 131, 3) := by decide +kernel
theorem d_M_enter_27 : decode b_M_enter 27 = .ok (.ifCond .eq 33, 3) := by decide +kernel
theorem d_M_enter_30 : decode b_M_enter 30 = .ok (.aload_n 0, 1) := by decide +kernel
theorem d_M_enter_31 : decode b_M_enter 31 = .ok (.iconst 1, 1) := by decide +kernel
theorem d_M_enter_32 : decode b_M_enter 32 = .ok (.bipush 97, 2) := by decide +kernel
theorem d_M_enter_34 : decode b_M_enter 34 = .ok (.invokevirtual 131, 3) := by decide +kernel
theorem d_M_enter_37 : decode b_M_enter 37 = .ok (.ifCond .eq 23, 3) := by decide +kernel
theorem d_M_enter_40 : decode b_M_enter 40 = .ok (.aload_n 0, 1) := by decide +kernel
theorem d_M_enter_41 : decode b_M_enter 41 = .ok (.iconst 2, 1) := by decide +kernel
theorem d_M_enter_42 : decode b_M_enter 42 = .ok (.bipush 110, 2) := by decide +kernel
theorem d_M_enter_44 : decode b_M_enter 44 = .ok (.invokevirtual 131, 3) := by decide +kernel
theorem d_M_enter_47 : decode b_M_enter 47 = .ok (.ifCond .eq 13, 3) := by decide +kernel
theorem d_M_enter_50 : decode b_M_enter 50 = .ok (.aload_n 0, 1) := by decide +kernel
theorem d_M_enter_51 : decode b_M_enter 51 = .ok (.iload_n 1, 1) := by decide +kernel
theorem d_M_enter_52 : decode b_M_enter 52 = .ok (.iconst 1, 1) := by decide +kernel
theorem d_M_enter_53 : decode b_M_enter 53 = .ok (.invokevirtual 138, 3) := by decide +kernel
theorem d_M_enter_56 : decode b_M_enter 56 = .ok (.istore_n 2, 1) := by decide +kernel
theorem d_M_enter_57 : decode b_M_enter 57 = .ok (.goto 75, 3) := by decide +kernel
theorem d_M_enter_60 : decode b_M_enter 60 = .ok (.aload_n 0, 1) := by decide +kernel
theorem d_M_enter_61 : decode b_M_enter 61 = .ok (.iconst 0, 1) := by decide +kernel
theorem d_M_enter_62 : decode b_M_enter 62 = .ok (.invokevirtual 141, 3) := by decide +kernel
theorem d_M_enter_65 : decode b_M_enter 65 = .ok (.ifCond .eq 7, 3) := by decide +kernel
theorem d_M_enter_68 : decode b_M_enter 68 = .ok (.iconst 1, 1) := by decide +kernel
theorem d_M_enter_69 : decode b_M_enter 69 = .ok (.goto 4, 3) := by decide +kernel
theorem d_M_enter_72 : decode b_M_enter 72 = .ok (.iconst 0, 1) := by decide +kernel
theorem d_M_enter_73 : decode b_M_enter 73 = .ok (.istore_n 3, 1) := by decide +kernel
theorem d_M_enter_74 : decode b_M_enter 74 = .ok (.iload_n 3, 1) := by decide +kernel
theorem d_M_enter_75 : decode b_M_enter 75 = .ok (.iconst 1, 1) := by decide +kernel
theorem d_M_enter_76 : decode b_M_enter 76 = .ok (.if_icmp .ne 18, 3) := by decide +kernel
theorem d_M_enter_79 : decode b_M_enter 79 = .ok (.aload_n 0, 1) := by decide +kernel
theorem d_M_enter_80 : decode b_M_enter 80 = .ok (.getfield 23, 3) := by decide +kernel
theorem d_M_enter_83 : decode b_M_enter 83 = .ok (.iconst 0, 1) := by decide +kernel
theorem d_M_enter_84 : decode b_M_enter 84 = .ok (.iaload, 1) := by decide +kernel
theorem d_M_enter_85 : decode b_M_enter 85 = .ok (.bipush 45, 2) := by decide +kernel
theorem d_M_enter_87 : decode b_M_enter 87 = .ok (.if_icmp .ne 7, 3) := by decide +kernel
theorem d_M_enter_90 : decode b_M_enter 90 = .ok (.iconst 1, 1) := by decide +kernel
theorem d_M_enter_91 : decode b_M_enter 91 = .ok (.goto 4, 3) := by decide +kernel
theorem d_M_enter_94 : decode b_M_enter 94 = .ok (.iconst 0, 1) := by decide +kernel
theorem d_M_enter_95 : decode b_M_enter 95 = .ok (.istore 4, 2) := by decide +kernel
theorem d_M_enter_97 : decode b_M_enter 97 = .ok (.aload_n 0, 1) := by decide +kernel
theorem d_M_enter_98 : decode b_M_enter 98 = .ok (.iload_n 3, 1) := by decide +kernel
theorem d_M_enter_99 : decode b_M_enter 99 = .ok (.invokevirtual 144, 3) := by decide +kernel
theorem d_M_enter_102 : decode b_M_enter 102 = .ok (.ifCond .eq 21, 3) := by decide +kernel
theorem d_M_enter_105 : decode b_M_enter 105 = .ok (.aload_n 0, 1) := by decide +kernel
theorem d_M_enter_106 : decode b_M_enter 106 = .ok (.iload_n 1, 1) := by decide +kernel
theorem d_M_enter_107 : decode b_M_enter 107 = .ok (.iload 4, 2) := by decide +kernel
theorem d_M_enter_109 : decode b_M_enter 109 = .ok (.ifCond .eq 7, 3) := by decide +kernel
theorem d_M_enter_112 : decode b_M_enter 112 = .ok (.iconst 3, 1) := by decide +kernel
theorem d_M_enter_113 : decode b_M_enter 113 = .ok (.goto 4, 3) := by decide +kernel
theorem d_M_enter_116 : decode b_M_enter 116 = .ok (.iconst 2, 1) := by decide +kernel
theorem d_M_enter_117 : decode b_M_enter 117 = .ok (.invokevirtual 138, 3) := by decide +kernel
theorem d_M_enter_120 : decode b_M_enter 120 = .ok (.goto 11, 3) := by decide +kernel
theorem d_M_enter_123 : decode b_M_enter 123 = .ok (.aload_n 0, 1) := by decide +kernel
theorem d_M_enter_124 : decode b_M_enter 124 = .ok (.iload_n 1, 1) := by decide +kernel
theorem d_M_enter_125 : decode b_M_enter 125 = .ok (.iload_n 3, 1) := by decide +kernel
theorem d_M_enter_126 : decode b_M_enter 126 = .ok (.iload 4, 2) := by decide +kernel
theorem d_M_enter_128 : decode b_M_enter 128 = .ok (.invokevirtual 147, 3) := by decide +kernel
theorem d_M_enter_131 : decode b_M_enter 131 = .ok (.istore_n 2, 1) := by decide +kernel
theorem d_M_enter_132 : decode b_M_enter 132 = .ok (.aload_n 0, 1) := by decide +kernel
theorem d_M_enter_133 : decode b_M_enter 133 = .ok (.iconst 0, 1) := by decide +kernel
theorem d_M_enter_134 : decode b_M_enter 134 = .ok (.putfield 123, 3) := by decide +kernel
theorem d_M_enter_137 : decode b_M_enter 137 = .ok (.iload_n 2, 1) := by decide +kernel
theorem d_M_enter_138 : decode b_M_enter 138 = .ok (.ireturn, 1) := by decide +kernel
theorem d_M_number_0 : decode b_M_number 0 = .ok (.iload_n 2, 1) := by decide +kernel
theorem d_M_number_1 : decode b_M_number 1 = .ok (.istore 4, 2) := by decide +kernel
theorem d_M_number_3 : decode b_M_number 3 = .ok (.iconst 0, 1) := by decide +kernel
theorem d_M_number_4 : decode b_M_number 4 = .ok (.istore 5, 2) := by decide +kernel
theorem d_M_number_6 : decode b_M_number 6 = .ok (.iconst 0, 1) := by decide +kernel
theorem d_M_number_7 : decode b_M_number 7 = .ok (.istore 6, 2) := by decide +kernel
theorem d_M_number_9 : decode b_M_number 9 = .ok (.iconst 0, 1) := by decide +kernel
theorem d_M_number_10 : decode b_M_number 10 = .ok (.istore 7, 2) := by decide +kernel
theorem d_M_number_12 : decode b_M_number 12 = .ok (.aload_n 0, 1) := by decide +kernel
theorem d_M_number_13 : decode b_M_number 13 = .ok (.iload 4, 2) := by decide +kernel
theorem d_M_number_15 : decode b_M_number 15 = .ok (.invokevirtual 151, 3) := by decide +kernel
theorem d_M_number_18 : decode b_M_number 18 = .ok (.ifCond .ne 29, 3) := by decide +kernel
theorem d_M_number_21 : decode b_M_number 21 = .ok (.iload 7, 2) := by decide +kernel
theorem d_M_number_23 : decode b_M_number 23 = .ok (.ifCond .ne 59, 3) := by decide +kernel
theorem d_M_number_26 : decode b_M_number 26 = .ok (.iload 4, 2) := by decide +kernel
theorem d_M_number_28 : decode b_M_number 28 = .ok (.aload_n 0, 1) := by decide +kernel
theorem d_M_number_29 : decode b_M_number 29 = .ok (.getfield 123, 3) := by decide +kernel
theorem d_M_number_32 : decode b_M_number 32 = .ok (.if_icmp .ge 50, 3) := by decide +kernel
theorem d_M_number_35 : decode b_M_number 35 = .ok (.aload_n 0, 1) := by decide +kernel
theorem d_M_number_36 : decode b_M_number 36 = .ok (.getfield 23, 3) := by decide +kernel
theorem d_M_number_39 : decode b_M_number 39 = .ok (.iload 4, 2) := by decide +kernel
theorem d_M_number_41 : decode b_M_number 41 = .ok (.iaload, 1) := by decide +kernel
theorem d_M_number_42 : decode b_M_number 42 = .ok (.bipush 46, 2) := by decide +kernel
theorem d_M_number_44 : decode b_M_number 44 = .ok (.if_icmp .ne 38, 3) := by decide +kernel
theorem d_M_number_47 : decode b_M_number 47 = .ok (.aload_n 0, 1) := by decide +kernel
theorem d_M_number_48 : decode b_M_number 48 = .ok (.iload 4, 2) := by decide +kernel
theorem d_M_number_50 : decode b_M_number 50 = .ok (.invokevirtual 151, 3) := by decide +kernel
theorem d_M_number_53 : decode b_M_number 53 = .ok (.ifCond .ne 9, 3) := by decide +kernel
theorem d_M_number_56 : decode b_M_number 56 = .ok (.iconst 1, 1) := by decide +kernel
theorem d_M_number_57 : decode b_M_number 57 = .ok (.istore 7, 2) := by decide +kernel
theorem d_M_number_59 : decode b_M_number 59 = .ok (.goto 17, 3) := by decide +kernel
theorem d_M_number_62 : decode b_M_number 62 = .ok (.iload 7, 2) := by decide +kernel
theorem d_M_number_64 : decode b_M_number 64 = .ok (.ifCond .eq 9, 3) := by decide +kernel
theorem d_M_number_67 : decode b_M_number 67 = .ok (.iinc 6 1, 3) := by decide +kernel
theorem d_M_number_70 : decode b_M_number 70 = .ok (.goto 6, 3) := by decide +kernel
theorem d_M_number_73 : decode b_M_number 73 = .ok (.iinc 5 1, 3) := by decide +kernel
theorem d_M_number_76 : decode b_M_number 76 = .ok (.iinc 4 1, 3) := by decide +kernel
theorem d_M_number_79 : decode b_M_number 79 = .ok (.goto (-67), 3) := by decide +kernel
theorem d_M_number_82 : decode b_M_number 82 = .ok (.iload 4, 2) := by decide +kernel
theorem d_M_number_84 : decode b_M_number 84 = .ok (.istore 8, 2) := by decide +kernel
theorem d_M_number_86 : decode b_M_number 86 = .ok (.iconst 0, 1) := by decide +kernel
theorem d_M_number_87 : decode b_M_number 87 = .ok (.istore 9, 2) := by decide +kernel
theorem d_M_number_89 : decode b_M_number 89 = .ok (.aload_n 0, 1) := by decide +kernel
theorem d_M_number_90 : decode b_M_number 90 = .ok (.iload 4, 2) := by decide +kernel
theorem d_M_number_92 : decode b_M_number 92 = .ok (.bipush 101, 2) := by decide +kernel
theorem d_M_number_94 : decode b_M_number 94 = .ok (.invokevirtual 131, 3) := by decide +kernel
theorem d_M_number_97 : decode b_M_number 97 = .ok (.ifCond .eq 130, 3) := by decide +kernel
theorem d_M_number_100 : decode b_M_number 100 = .ok (.iinc 4 1, 3) := by decide +kernel
theorem d_M_number_103 : decode b_M_number 103 = .ok (.aload_n 0, 1) := by decide +kernel
theorem d_M_number_104 : decode b_M_number 104 = .ok (.iload 4, 2) := by decide +kernel
theorem d_M_number_106 : decode b_M_number 106 = .ok (.invokevirtual 141, 3) := by decide +kernel
theorem d_M_number_109 : decode b_M_number 109 = .ok (.ifCond .eq 19, 3) := by decide +kernel
theorem d_M_number_112 : decode b_M_number 112 = .ok (.aload_n 0, 1) := by decide +kernel
theorem d_M_number_113 : decode b_M_number 113 = .ok (.getfield 23, 3) := by decide +kernel
theorem d_M_number_116 : decode b_M_number 116 = .ok (.iload 4, 2) := by decide +kernel
theorem d_M_number_118 : decode b_M_number 118 = .ok (.iaload, 1) := by decide +kernel
theorem d_M_number_119 : decode b_M_number 119 = .ok (.bipush 45, 2) := by decide +kernel
theorem d_M_number_121 : decode b_M_number 121 = .ok (.if_icmp .ne 7, 3) := by decide +kernel
theorem d_M_number_124 : decode b_M_number 124 = .ok (.iconst 1, 1) := by decide +kernel
theorem d_M_number_125 : decode b_M_number 125 = .ok (.goto 4, 3) := by decide +kernel
theorem d_M_number_128 : decode b_M_number 128 = .ok (.iconst 0, 1) := by decide +kernel
theorem d_M_number_129 : decode b_M_number 129 = .ok (.istore 10, 2) := by decide +kernel
theorem d_M_number_131 : decode b_M_number 131 = .ok (.aload_n 0, 1) := by decide +kernel
theorem d_M_number_132 : decode b_M_number 132 = .ok (.iload 4, 2) := by decide +kernel
theorem d_M_number_134 : decode b_M_number 134 = .ok (.invokevirtual 141, 3) := by decide +kernel
theorem d_M_number_137 : decode b_M_number 137 = .ok (.ifCond .eq 10, 3) := by decide +kernel
theorem d_M_number_140 : decode b_M_number 140 = .ok (.iload 4, 2) := by decide +kernel
theorem d_M_number_142 : decode b_M_number 142 = .ok (.iconst 1, 1) := by decide +kernel
theorem d_M_number_143 : decode b_M_number 143 = .ok (.iadd, 1) := by decide +kernel
theorem d_M_number_144 : decode b_M_number 144 = .ok (.goto 5, 3) := by decide +kernel
theorem d_M_number_147 : decode b_M_number 147 = .ok (.iload 4, 2) := by decide +kernel
theorem d_M_number_149 : decode b_M_number 149 = .ok (.istore 4, 2) := by decide +kernel
theorem d_M_number_151 : decode b_M_number 151 = .ok (.iload 4, 2) := by decide +kernel
theorem d_M_number_153 : decode b_M_number 153 = .ok (.istore 11, 2) := by decide +kernel
theorem d_M_number_155 : decode b_M_number 155 = .ok (.aload_n 0, 1) := by decide +kernel
theorem d_M_number_156 : decode b_M_number 156 = .ok (.iload 4, 2) := by decide +kernel
theorem d_M_number_158 : decode b_M_number 158 = .ok (.invokevirtual 151, 3) := by decide +kernel
theorem d_M_number_161 : decode b_M_number 161 = .ok (.ifCond .eq 36, 3) := by decide +kernel
theorem d_M_number_164 : decode b_M_number 164 = .ok (.iload 4, 2) := by decide +kernel
theorem d_M_number_166 : decode b_M_number 166 = .ok (.iload 11, 2) := by decide +kernel
theorem d_M_number_168 : decode b_M_number 168 = .ok (.iconst 3, 1) := by decide +kernel
theorem d_M_number_169 : decode b_M_number 169 = .ok (.iadd, 1) := by decide +kernel
theorem d_M_number_170 : decode b_M_number 170 = .ok (.if_icmp .ge 27, 3) := by decide +kernel
theorem d_M_number_173 : decode b_M_number 173 = .ok (.bipush 10, 2) := by decide +kernel
theorem d_M_number_175 : decode b_M_number 175 = .ok (.iload 9, 2) := by decide +kernel
theorem d_M_number_177 : decode b_M_number 177 = .ok (.imul, 1) := by decide +kernel
theorem d_M_number_178 : decode b_M_number 178 = .ok (.aload_n 0, 1) := by decide +kernel
theorem d_M_number_179 : decode b_M_number 179 = .ok (.getfield 23, 3) := by decide +kernel
theorem d_M_number_182 : decode b_M_number 182 = .ok (.iload 4, 2) := by decide +kernel
theorem d_M_number_184 : decode b_M_number 184 = .ok (.iaload, 1) := by decide +kernel
theorem d_M_number_185 : decode b_M_number 185 = .ok (.iadd, 1) := by decide +kernel
theorem d_M_number_186 : decode b_M_number 186 = .ok (.bipush 48, 2) := by decide +kernel
theorem d_M_number_188 : decode b_M_number 188 = .ok (.isub, 1) := by decide +kernel
theorem d_M_number_189 : decode b_M_number 189 = .ok (.istore 9, 2) := by decide +kernel
theorem d_M_number_191 : decode b_M_number 191 = .ok (.iinc 4 1, 3) := by decide +kernel
theorem d_M_number_194 : decode b_M_number 194 = .ok (.goto (-39), 3) := by decide +kernel
theorem d_M_number_197 : decode b_M_number 197 = .ok (.iload 10, 2) := by decide +kernel
theorem d_M_number_199 : decode b_M_number 199 = .ok (.ifCond .eq 9, 3) := by decide +kernel
theorem d_M_number_202 : decode b_M_number 202 = .ok (.iload 9, 2) := by decide +kernel
theorem d_M_number_204 : decode b_M_number 204 = .ok (.ineg, 1) := by decide +kernel
theorem d_M_number_205 : decode b_M_number 205 = .ok (.goto 5, 3) := by decide +kernel
theorem d_M_number_208 : decode b_M_number 208 = .ok (.iload 9, 2) := by decide +kernel
theorem d_M_number_210 : decode b_M_number 210 = .ok (.istore 9, 2) := by decide +kernel
theorem d_M_number_212 : decode b_M_number 212 = .ok (.iload 4, 2) := by decide +kernel
theorem d_M_number_214 : decode b_M_number 214 = .ok (.iload 11, 2) := by decide +kernel
theorem d_M_number_216 : decode b_M_number 216 = .ok (.if_icmp .ne 7, 3) := by decide +kernel
theorem d_M_number_219 : decode b_M_number 219 = .ok (.iconst (-1), 1) := by decide +kernel
theorem d_M_number_220 : decode b_M_number 220 = .ok (.goto 5, 3) := by decide +kernel
theorem d_M_number_223 : decode b_M_number 223 = .ok (.iload 4, 2) := by decide +kernel
theorem d_M_number_225 : decode b_M_number 225 = .ok (.istore 4, 2) := by decide +kernel
theorem d_M_number_227 : decode b_M_number 227 = .ok (.iload 5, 2) := by decide +kernel
theorem d_M_number_229 : decode b_M_number 229 = .ok (.iload 6, 2) := by decide +kernel
theorem d_M_number_231 : decode b_M_number 231 = .ok (.iadd, 1) := by decide +kernel
theorem d_M_number_232 : decode b_M_number 232 = .ok (.ifCond .eq 12, 3) := by decide +kernel
theorem d_M_number_235 : decode b_M_number 235 = .ok (.iload 4, 2) := by decide +kernel
theorem d_M_number_237 : decode b_M_number 237 = .ok (.aload_n 0, 1) := by decide +kernel
theorem d_M_number_238 : decode b_M_number 238 = .ok (.getfield 123, 3) := by decide +kernel
theorem d_M_number_241 : decode b_M_number 241 = .ok (.if_icmp .eq 6, 3) := by decide +kernel
theorem d_M_number_244 : decode b_M_number 244 = .ok (.bipush (-2), 2) := by decide +kernel
theorem d_M_number_246 : decode b_M_number 246 = .ok (.ireturn, 1) := by decide +kernel
theorem d_M_number_247 : decode b_M_number 247 = .ok (.aload_n 0, 1) := by decide +kernel
theorem d_M_number_248 : decode b_M_number 248 = .ok (.invokevirtual 82, 3) := by decide +kernel
theorem d_M_number_251 : decode b_M_number 251 = .ok (.aload_n 0, 1) := by decide +kernel
theorem d_M_number_252 : decode b_M_number 252 = .ok (.iload_n 3, 1) := by decide +kernel
theorem d_M_number_253 : decode b_M_number 253 = .ok (.putfield 50, 3) := by decide +kernel
theorem d_M_number_256 : decode b_M_number 256 = .ok (.aload_n 0, 1) := by decide +kernel
theorem d_M_number_257 : decode b_M_number 257 = .ok (.iload_n 2, 1) := by decide +kernel
theorem d_M_number_258 : decode b_M_number 258 = .ok (.iload 8, 2) := by decide +kernel
theorem d_M_number_260 : decode b_M_number 260 = .ok (.iload 5, 2) := by decide +kernel
theorem d_M_number_262 : decode b_M_number 262 = .ok (.iload 9, 2) := by decide +kernel
theorem d_M_number_264 : decode b_M_number 264 = .ok (.iadd, 1) := by decide +kernel
theorem d_M_number_265 : decode b_M_number 265 = .ok (.invokevirtual 154, 3) := by decide +kernel
theorem d_M_number_268 : decode b_M_number 268 = .ok (.istore 10, 2) := by decide +kernel
theorem d_M_number_270 : decode b_M_number 270 = .ok (.iload 6, 2) := by decide +kernel
theorem d_M_number_272 : decode b_M_number 272 = .ok (.iload 9, 2) := by decide +kernel
theorem d_M_number_274 : decode b_M_number 274 = .ok (.isub, 1) := by decide +kernel
theorem d_M_number_275 : decode b_M_number 275 = .ok (.istore 11, 2) := by decide +kernel
theorem d_M_number_277 : decode b_M_number 277 = .ok (.iload 10, 2) := by decide +kernel
theorem d_M_number_279 : decode b_M_number 279 = .ok (.ifCond .eq 8, 3) := by decide +kernel
theorem d_M_number_282 : decode b_M_number 282 = .ok (.bipush (-3), 2) := by decide +kernel
theorem d_M_number_284 : decode b_M_number 284 = .ok (.goto 31, 3) := by decide +kernel
theorem d_M_number_287 : decode b_M_number 287 = .ok (.aload_n 0, 1) := by decide +kernel
theorem d_M_number_288 : decode b_M_number 288 = .ok (.iload_n 1, 1) := by decide +kernel
theorem d_M_number_289 : decode b_M_number 289 = .ok (.iload 11, 2) := by decide +kernel
theorem d_M_number_291 : decode b_M_number 291 = .ok (.ifCond .ge 7, 3) := by decide +kernel
theorem d_M_number_294 : decode b_M_number 294 = .ok (.iconst 0, 1) := by decide +kernel
theorem d_M_number_295 : decode b_M_number 295 = .ok (.goto 17, 3) := by decide +kernel
theorem d_M_number_298 : decode b_M_number 298 = .ok (.iload 11, 2) := by decide +kernel
theorem d_M_number_300 : decode b_M_number 300 = .ok (.bipush 24, 2) := by decide +kernel
theorem d_M_number_302 : decode b_M_number 302 = .ok (.if_icmp .le 8, 3) := by decide +kernel
theorem d_M_number_305 : decode b_M_number 305 = .ok (.bipush 24, 2) := by decide +kernel
theorem d_M_number_307 : decode b_M_number 307 = .ok (.goto 5, 3) := by decide +kernel
theorem d_M_number_310 : decode b_M_number 310 = .ok (.iload 11, 2) := by decide +kernel
theorem d_M_number_312 : decode b_M_number 312 = .ok (.invokevirtual 114, 3) := by decide +kernel
theorem d_M_number_315 : decode b_M_number 315 = .ok (.ireturn, 1) := by decide +kernel
theorem d_M_writeDown_0 : decode b_M_writeDown 0 = .ok (.iconst 0, 1) := by decide +kernel
theorem d_M_writeDown_1 : decode b_M_writeDown 1 = .ok (.istore 4, 2) := by decide +kernel
theorem d_M_writeDown_3 : decode b_M_writeDown 3 = .ok (.bipush 47, 2) := by decide +kernel
theorem d_M_writeDown_5 : decode b_M_writeDown 5 = .ok (.iload_n 3, 1) := by decide +kernel
theorem d_M_writeDown_6 : decode b_M_writeDown 6 = .ok (.iadd, 1) := by decide +kernel
theorem d_M_writeDown_7 : decode b_M_writeDown 7 = .ok (.istore 5, 2) := by decide +kernel
theorem d_M_writeDown_9 : decode b_M_writeDown 9 = .ok (.iload_n 1, 1) := by decide +kernel
theorem d_M_writeDown_10 : decode b_M_writeDown 10 = .ok (.istore 6, 2) := by decide +kernel
theorem d_M_writeDown_12 : decode b_M_writeDown 12 = .ok (.iload 6, 2) := by decide +kernel
theorem d_M_writeDown_14 : decode b_M_writeDown 14 = .ok (.iload_n 2, 1) := by decide +kernel
theorem d_M_writeDown_15 : decode b_M_writeDown 15 = .ok (.if_icmp .ge 78, 3) := by decide +kernel
theorem d_M_writeDown_18 : decode b_M_writeDown 18 = .ok (.aload_n 0, 1) := by decide +kernel
theorem d_M_writeDown_19 : decode b_M_writeDown 19 = .ok (.iload 6, 2) := by decide +kernel
theorem d_M_writeDown_21 : decode b_M_writeDown 21 = .ok (.invokevirtual 151, 3) := by decide +kernel
theorem d_M_writeDown_24 : decode b_M_writeDown 24 = .ok (.ifCond .eq 63, 3) := by decide +kernel
theorem d_M_writeDown_27 : decode b_M_writeDown 27 = .ok (.aload_n 0, 1) := by decide +kernel
theorem d_M_writeDown_28 : decode b_M_writeDown 28 = .ok (.getfield 23, 3) := by decide +kernel
theorem d_M_writeDown_31 : decode b_M_writeDown 31 = .ok (.iload 6, 2) := by decide +kernel
theorem d_M_writeDown_33 : decode b_M_writeDown 33 = .ok (.iaload, 1) := by decide +kernel
theorem d_M_writeDown_34 : decode b_M_writeDown 34 = .ok (.bipush 48, 2) := by decide +kernel
theorem d_M_writeDown_36 : decode b_M_writeDown 36 = .ok (.isub, 1) := by decide +kernel
theorem d_M_writeDown_37 : decode b_M_writeDown 37 = .ok (.istore 7, 2) := by decide +kernel
theorem d_M_writeDown_39 : decode b_M_writeDown 39 = .ok (.iload 4, 2) := by decide +kernel
theorem d_M_writeDown_41 : decode b_M_writeDown 41 = .ok (.ifCond .ne 15, 3) := by decide +kernel
theorem d_M_writeDown_44 : decode b_M_writeDown 44 = .ok (.iload 7, 2) := by decide +kernel
theorem d_M_writeDown_46 : decode b_M_writeDown 46 = .ok (.ifCond .le 14, 3) := by decide +kernel
theorem d_M_writeDown_49 : decode b_M_writeDown 49 = .ok (.iload 5, 2) := by decide +kernel
theorem d_M_writeDown_51 : decode b_M_writeDown 51 = .ok (.bipush 80, 2) := by decide +kernel
theorem d_M_writeDown_53 : decode b_M_writeDown 53 = .ok (.if_icmp .lt 7, 3) := by decide +kernel
theorem d_M_writeDown_56 : decode b_M_writeDown 56 = .ok (.iconst 1, 1) := by decide +kernel
theorem d_M_writeDown_57 : decode b_M_writeDown 57 = .ok (.goto 4, 3) := by decide +kernel
theorem d_M_writeDown_60 : decode b_M_writeDown 60 = .ok (.iconst 0, 1) := by decide +kernel
theorem d_M_writeDown_61 : decode b_M_writeDown 61 = .ok (.istore 4, 2) := by decide +kernel
theorem d_M_writeDown_63 : decode b_M_writeDown 63 = .ok (.iload 5, 2) := by decide +kernel
theorem d_M_writeDown_65 : decode b_M_writeDown 65 = .ok (.ifCond .lt 19, 3) := by decide +kernel
theorem d_M_writeDown_68 : decode b_M_writeDown 68 = .ok (.iload 5, 2) := by decide +kernel
theorem d_M_writeDown_70 : decode b_M_writeDown 70 = .ok (.bipush 80, 2) := by decide +kernel
theorem d_M_writeDown_72 : decode b_M_writeDown 72 = .ok (.if_icmp .ge 12, 3) := by decide +kernel
theorem d_M_writeDown_75 : decode b_M_writeDown 75 = .ok (.aload_n 0, 1) := by decide +kernel
theorem d_M_writeDown_76 : decode b_M_writeDown 76 = .ok (.getfield 41, 3) := by decide +kernel
theorem d_M_writeDown_79 : decode b_M_writeDown 79 = .ok (.iload 5, 2) := by decide +kernel
theorem d_M_writeDown_81 : decode b_M_writeDown 81 = .ok (.iload 7, 2) := by decide +kernel
theorem d_M_writeDown_83 : decode b_M_writeDown 83 = .ok (.iastore, 1) := by decide +kernel
theorem d_M_writeDown_84 : decode b_M_writeDown 84 = .ok (.iinc 5 (-1), 3) := by decide +kernel
theorem d_M_writeDown_87 : decode b_M_writeDown 87 = .ok (.iinc 6 1, 3) := by decide +kernel
theorem d_M_writeDown_90 : decode b_M_writeDown 90 = .ok (.goto (-78), 3) := by decide +kernel
theorem d_M_writeDown_93 : decode b_M_writeDown 93 = .ok (.iload 4, 2) := by decide +kernel
theorem d_M_writeDown_95 : decode b_M_writeDown 95 = .ok (.ireturn, 1) := by decide +kernel
theorem d_M_whole_0 : decode b_M_whole 0 = .ok (.iconst 1, 1) := by decide +kernel
theorem d_M_whole_1 : decode b_M_whole 1 = .ok (.istore_n 2, 1) := by decide +kernel
theorem d_M_whole_2 : decode b_M_whole 2 = .ok (.bipush 24, 2) := by decide +kernel
theorem d_M_whole_4 : decode b_M_whole 4 = .ok (.istore_n 3, 1) := by decide +kernel
theorem d_M_whole_5 : decode b_M_whole 5 = .ok (.iload_n 3, 1) := by decide +kernel
theorem d_M_whole_6 : decode b_M_whole 6 = .ok (.bipush 56, 2) := by decide +kernel
theorem d_M_whole_8 : decode b_M_whole 8 = .ok (.if_icmp .ge 32, 3) := by decide +kernel
theorem d_M_whole_11 : decode b_M_whole 11 = .ok (.aload_n 0, 1) := by decide +kernel
theorem d_M_whole_12 : decode b_M_whole 12 = .ok (.getfield 20, 3) := by decide +kernel
theorem d_M_whole_15 : decode b_M_whole 15 = .ok (.bipush 56, 2) := by decide +kernel
theorem d_M_whole_17 : decode b_M_whole 17 = .ok (.iload_n 1, 1) := by decide +kernel
theorem d_M_whole_18 : decode b_M_whole 18 = .ok (.imul, 1) := by decide +kernel
theorem d_M_whole_19 : decode b_M_whole 19 = .ok (.iload_n 3, 1) := by decide +kernel
theorem d_M_whole_20 : decode b_M_whole 20 = .ok (.iadd, 1) := by decide +kernel
theorem d_M_whole_21 : decode b_M_whole 21 = .ok (.iaload, 1) := by decide +kernel
theorem d_M_whole_22 : decode b_M_whole 22 = .ok (.ifCond .eq 10, 3) := by decide +kernel
theorem d_M_whole_25 : decode b_M_whole 25 = .ok (.iload_n 3, 1) := by decide +kernel
theorem d_M_whole_26 : decode b_M_whole 26 = .ok (.bipush 23, 2) := by decide +kernel
theorem d_M_whole_28 : decode b_M_whole 28 = .ok (.isub, 1) := by decide +kernel
theorem d_M_whole_29 : decode b_M_whole 29 = .ok (.goto 4, 3) := by decide +kernel
theorem d_M_whole_32 : decode b_M_whole 32 = .ok (.iload_n 2, 1) := by decide +kernel
theorem d_M_whole_33 : decode b_M_whole 33 = .ok (.istore_n 2, 1) := by decide +kernel
theorem d_M_whole_34 : decode b_M_whole 34 = .ok (.iinc 3 1, 3) := by decide +kernel
theorem d_M_whole_37 : decode b_M_whole 37 = .ok (.goto (-32), 3) := by decide +kernel
theorem d_M_whole_40 : decode b_M_whole 40 = .ok (.iload_n 2, 1) := by decide +kernel
theorem d_M_whole_41 : decode b_M_whole 41 = .ok (.ireturn, 1) := by decide +kernel
theorem d_M_length_0 : decode b_M_length 0 = .ok (.aload_n 0, 1) := by decide +kernel
theorem d_M_length_1 : decode b_M_length 1 = .ok (.iload_n 1, 1) := by decide +kernel
theorem d_M_length_2 : decode b_M_length 2 = .ok (.bipush 7, 2) := by decide +kernel
theorem d_M_length_4 : decode b_M_length 4 = .ok (.invokevirtual 135, 3) := by decide +kernel
theorem d_M_length_7 : decode b_M_length 7 = .ok (.ifCond .eq 5, 3) := by decide +kernel
theorem d_M_length_10 : decode b_M_length 10 = .ok (.iconst (-1), 1) := by decide +kernel
theorem d_M_length_11 : decode b_M_length 11 = .ok (.ireturn, 1) := by decide +kernel
theorem d_M_length_12 : decode b_M_length 12 = .ok (.aload_n 0, 1) := by decide +kernel
theorem d_M_length_13 : decode b_M_length 13 = .ok (.getfield 7, 3) := by decide +kernel
theorem d_M_length_16 : decode b_M_length 16 = .ok (.iload_n 1, 1) := by decide +kernel
theorem d_M_length_17 : decode b_M_length 17 = .ok (.iaload, 1) := by decide +kernel
theorem d_M_length_18 : decode b_M_length 18 = .ok (.ifCond .eq 35, 3) := by decide +kernel
theorem d_M_length_21 : decode b_M_length 21 = .ok (.aload_n 0, 1) := by decide +kernel
theorem d_M_length_22 : decode b_M_length 22 = .ok (.getfield 7, 3) := by decide +kernel
theorem d_M_length_25 : decode b_M_length 25 = .ok (.iload_n 1, 1) := by decide +kernel
theorem d_M_length_26 : decode b_M_length 26 = .ok (.iaload, 1) := by decide +kernel
theorem d_M_length_27 : decode b_M_length 27 = .ok (.iconst 1, 1) := by decide +kernel
theorem d_M_length_28 : decode b_M_length 28 = .ok (.if_icmp .ne 7, 3) := by decide +kernel
theorem d_M_length_31 : decode b_M_length 31 = .ok (.iconst 3, 1) := by decide +kernel
theorem d_M_length_32 : decode b_M_length 32 = .ok (.goto 20, 3) := by decide +kernel
theorem d_M_length_35 : decode b_M_length 35 = .ok (.aload_n 0, 1) := by decide +kernel
theorem d_M_length_36 : decode b_M_length 36 = .ok (.getfield 7, 3) := by decide +kernel
theorem d_M_length_39 : decode b_M_length 39 = .ok (.iload_n 1, 1) := by decide +kernel
theorem d_M_length_40 : decode b_M_length 40 = .ok (.iaload, 1) := by decide +kernel
theorem d_M_length_41 : decode b_M_length 41 = .ok (.iconst 2, 1) := by decide +kernel
theorem d_M_length_42 : decode b_M_length 42 = .ok (.if_icmp .ne 8, 3) := by decide +kernel
theorem d_M_length_45 : decode b_M_length 45 = .ok (.bipush 8, 2) := by decide +kernel
theorem d_M_length_47 : decode b_M_length 47 = .ok (.goto 5, 3) := by decide +kernel
theorem d_M_length_50 : decode b_M_length 50 = .ok (.bipush 9, 2) := by decide +kernel
theorem d_M_length_52 : decode b_M_length 52 = .ok (.ireturn, 1) := by decide +kernel
theorem d_M_length_53 : decode b_M_length 53 = .ok (.aload_n 0, 1) := by decide +kernel
theorem d_M_length_54 : decode b_M_length 54 = .ok (.getfield 13, 3) := by decide +kernel
theorem d_M_length_57 : decode b_M_length 57 = .ok (.iload_n 1, 1) := by decide +kernel
theorem d_M_length_58 : decode b_M_length 58 = .ok (.baload, 1) := by decide +kernel
theorem d_M_length_59 : decode b_M_length 59 = .ok (.ifCond .eq 7, 3) := by decide +kernel
theorem d_M_length_62 : decode b_M_length 62 = .ok (.iconst 1, 1) := by decide +kernel
theorem d_M_length_63 : decode b_M_length 63 = .ok (.goto 4, 3) := by decide +kernel
theorem d_M_length_66 : decode b_M_length 66 = .ok (.iconst 0, 1) := by decide +kernel
theorem d_M_length_67 : decode b_M_length 67 = .ok (.aload_n 0, 1) := by decide +kernel
theorem d_M_length_68 : decode b_M_length 68 = .ok (.iload_n 1, 1) := by decide +kernel
theorem d_M_length_69 : decode b_M_length 69 = .ok (.invokevirtual 158, 3) := by decide +kernel
theorem d_M_length_72 : decode b_M_length 72 = .ok (.iadd, 1) := by decide +kernel
theorem d_M_length_73 : decode b_M_length 73 = .ok (.aload_n 0, 1) := by decide +kernel
theorem d_M_length_74 : decode b_M_length 74 = .ok (.getfield 17, 3) := by decide +kernel
theorem d_M_length_77 : decode b_M_length 77 = .ok (.iload_n 1, 1) := by decide +kernel
theorem d_M_length_78 : decode b_M_length 78 = .ok (.iaload, 1) := by decide +kernel
theorem d_M_length_79 : decode b_M_length 79 = .ok (.ifCond .le 14, 3) := by decide +kernel
theorem d_M_length_82 : decode b_M_length 82 = .ok (.aload_n 0, 1) := by decide +kernel
theorem d_M_length_83 : decode b_M_length 83 = .ok (.getfield 17, 3) := by decide +kernel
theorem d_M_length_86 : decode b_M_length 86 = .ok (.iload_n 1, 1) := by decide +kernel
theorem d_M_length_87 : decode b_M_length 87 = .ok (.iaload, 1) := by decide +kernel
theorem d_M_length_88 : decode b_M_length 88 = .ok (.iconst 1, 1) := by decide +kernel
theorem d_M_length_89 : decode b_M_length 89 = .ok (.iadd, 1) := by decide +kernel
theorem d_M_length_90 : decode b_M_length 90 = .ok (.goto 4, 3) := by decide +kernel
theorem d_M_length_93 : decode b_M_length 93 = .ok (.iconst 0, 1) := by decide +kernel
theorem d_M_length_94 : decode b_M_length 94 = .ok (.iadd, 1) := by decide +kernel
theorem d_M_length_95 : decode b_M_length 95 = .ok (.ireturn, 1) := by decide +kernel
theorem d_M_character_0 : decode b_M_character 0 = .ok (.aload_n 0, 1) := by decide +kernel
theorem d_M_character_1 : decode b_M_character 1 = .ok (.iload_n 1, 1) := by decide +kernel
theorem d_M_character_2 : decode b_M_character 2 = .ok (.bipush 7, 2) := by decide +kernel
theorem d_M_character_4 : decode b_M_character 4 = .ok (.invokevirtual 135, 3) := by decide +kernel
theorem d_M_character_7 : decode b_M_character 7 = .ok (.ifCond .ne 18, 3) := by decide +kernel
theorem d_M_character_10 : decode b_M_character 10 = .ok (.aload_n 0, 1) := by decide +kernel
theorem d_M_character_11 : decode b_M_character 11 = .ok (.iload_n 2, 1) := by decide +kernel
theorem d_M_character_12 : decode b_M_character 12 = .ok (.aload_n 0, 1) := by decide +kernel
theorem d_M_character_13 : decode b_M_character 13 = .ok (.iload_n 1, 1) := by decide +kernel
theorem d_M_character_14 : decode b_M_character 14 = .ok (.invokevirtual 161, 3) := by decide +kernel
theorem d_M_character_17 : decode b_M_character 17 = .ok (.iconst 1, 1) := by decide +kernel
theorem d_M_character_18 : decode b_M_character 18 = .ok (.isub, 1) := by decide +kernel
theorem d_M_character_19 : decode b_M_character 19 = .ok (.invokevirtual 135, 3) := by decide +kernel
theorem d_M_character_22 : decode b_M_character 22 = .ok (.ifCond .eq 5, 3) := by decide +kernel
theorem d_M_character_25 : decode b_M_character 25 = .ok (.iconst (-1), 1) := by decide +kernel
theorem d_M_character_26 : decode b_M_character 26 = .ok (.ireturn, 1) := by decide +kernel
theorem d_M_character_27 : decode b_M_character 27 = .ok (.aload_n 0, 1) := by decide +kernel
theorem d_M_character_28 : decode b_M_character 28 = .ok (.getfield 7, 3) := by decide +kernel
theorem d_M_character_31 : decode b_M_character 31 = .ok (.iload_n 1, 1) := by decide +kernel
theorem d_M_character_32 : decode b_M_character 32 = .ok (.iaload, 1) := by decide +kernel
theorem d_M_character_33 : decode b_M_character 33 = .ok (.iconst 1, 1) := by decide +kernel
theorem d_M_character_34 : decode b_M_character 34 = .ok (.if_icmp .ne 16, 3) := by decide +kernel
theorem d_M_character_37 : decode b_M_character 37 = .ok (.iload_n 2, 1) := by decide +kernel
theorem d_M_character_38 : decode b_M_character 38 = .ok (.iconst 1, 1) := by decide +kernel
theorem d_M_character_39 : decode b_M_character 39 = .ok (.if_icmp .ne 8, 3) := by decide +kernel
theorem d_M_character_42 : decode b_M_character 42 = .ok (.bipush 97, 2) := by decide +kernel
theorem d_M_character_44 : decode b_M_character 44 = .ok (.goto 5, 3) := by decide +kernel
theorem d_M_character_47 : decode b_M_character 47 = .ok (.bipush 78, 2) := by decide +kernel
theorem d_M_character_49 : decode b_M_character 49 = .ok (.ireturn, 1) := by decide +kernel
theorem d_M_character_50 : decode b_M_character 50 = .ok (.iload_n 2, 1) := by decide +kernel
theorem d_M_character_51 : decode b_M_character 51 = .ok (.aload_n 0, 1) := by decide +kernel
theorem d_M_character_52 : decode b_M_character 52 = .ok (.getfield 7, 3) := by decide +kernel
theorem d_M_character_55 : decode b_M_character 55 = .ok (.iload_n 1, 1) := by decide +kernel
theorem d_M_character_56 : decode b_M_character 56 = .ok (.iaload, 1) := by decide +kernel
theorem d_M_character_57 : decode b_M_character 57 = .ok (.iconst 3, 1) := by decide +kernel
theorem d_M_character_58 : decode b_M_character 58 = .ok (.if_icmp .eq 21, 3) := by decide +kernel
theorem d_M_character_61 : decode b_M_character 61 = .ok (.aload_n 0, 1) := by decide +kernel
theorem d_M_character_62 : decode b_M_character 62 = .ok (.getfield 7, 3) := by decide +kernel
theorem d_M_character_65 : decode b_M_character 65 = .ok (.iload_n 1, 1) := by decide +kernel
theorem d_M_character_66 : decode b_M_character 66 = .ok (.iaload, 1) := by decide +kernel
theorem d_M_character_67 : decode b_M_character 67 = .ok (.ifCond .ne 16, 3) := by decide +kernel
theorem d_M_character_70 : decode b_M_character 70 = .ok (.aload_n 0, 1) := by decide +kernel
theorem d_M_character_71 : decode b_M_character 71 = .ok (.getfield 13, 3) := by decide +kernel
theorem d_M_character_74 : decode b_M_character 74 = .ok (.iload_n 1, 1) := by decide +kernel
theorem d_M_character_75 : decode b_M_character 75 = .ok (.baload, 1) := by decide +kernel
theorem d_M_character_76 : decode b_M_character 76 = .ok (.ifCond .eq 7, 3) := by decide +kernel
theorem d_M_character_79 : decode b_M_character 79 = .ok (.iconst 1, 1) := by decide +kernel
theorem d_M_character_80 : decode b_M_character 80 = .ok (.goto 4, 3) := by decide +kernel
theorem d_M_character_83 : decode b_M_character 83 = .ok (.iconst 0, 1) := by decide +kernel
theorem d_M_character_84 : decode b_M_character 84 = .ok (.isub, 1) := by decide +kernel
theorem d_M_character_85 : decode b_M_character 85 = .ok (.istore_n 3, 1) := by decide +kernel
theorem d_M_character_86 : decode b_M_character 86 = .ok (.iload_n 3, 1) := by decide +kernel
theorem d_M_character_87 : decode b_M_character 87 = .ok (.ifCond .ge 6, 3) := by decide +kernel
theorem d_M_character_90 : decode b_M_character 90 = .ok (.bipush 45, 2) := by decide +kernel
theorem d_M_character_92 : decode b_M_character 92 = .ok (.ireturn, 1) := by decide +kernel
theorem d_M_character_93 : decode b_M_character 93 = .ok (.aload_n 0, 1) := by decide +kernel
theorem d_M_character_94 : decode b_M_character 94 = .ok (.getfield 7, 3) := by decide +kernel
theorem d_M_character_97 : decode b_M_character 97 = .ok (.iload_n 1, 1) := by decide +kernel
theorem d_M_character_98 : decode b_M_character 98 = .ok (.iaload, 1) := by decide +kernel
theorem d_M_character_99 : decode b_M_character 99 = .ok (.ifCond .eq 18, 3) := by decide +kernel
theorem d_M_character_102 : decode b_M_character 102 = .ok (.iload_n 3, 1) := by decide +kernel
theorem d_M_character_103 : decode b_M_character 103 = .ok (.ifCond .ne 8, 3) := by decide +kernel
theorem d_M_character_106 : decode b_M_character 106 = .ok (.bipush 73, 2) := by decide +kernel
theorem d_M_character_108 : decode b_M_character 108 = .ok (.goto 8, 3) := by decide +kernel
theorem d_M_character_111 : decode b_M_character 111 = .ok (.aload_n 0, 1) := by decide +kernel
theorem d_M_character_112 : decode b_M_character 112 = .ok (.iload_n 3, 1) := by decide +kernel
theorem d_M_character_113 : decode b_M_character 113 = .ok (.invokevirtual 127, 3) := by decide +kernel
theorem d_M_character_116 : decode b_M_character 116 = .ok (.ireturn, 1) := by decide +kernel
theorem d_M_character_117 : decode b_M_character 117 = .ok (.aload_n 0, 1) := by decide +kernel
theorem d_M_character_118 : decode b_M_character 118 = .ok (.iload_n 1, 1) := by decide +kernel
theorem d_M_character_119 : decode b_M_character 119 = .ok (.invokevirtual 158, 3) := by decide +kernel
theorem d_M_character_122 : decode b_M_character 122 = .ok (.istore 4, 2) := by decide +kernel
theorem d_M_character_124 : decode b_M_character 124 = .ok (.iload_n 3, 1) := by decide +kernel
theorem d_M_character_125 : decode b_M_character 125 = .ok (.iload 4, 2) := by decide +kernel
theorem d_M_character_127 : decode b_M_character 127 = .ok (.if_icmp .ne 6, 3) := by decide +kernel
theorem d_M_character_130 : decode b_M_character 130 = .ok (.bipush 46, 2) := by decide +kernel
theorem d_M_character_132 : decode b_M_character 132 = .ok (.ireturn, 1) := by decide +kernel
theorem d_M_character_133 : decode b_M_character 133 = .ok (.bipush 48, 2) := by decide +kernel
theorem d_M_character_135 : decode b_M_character 135 = .ok (.aload_n 0, 1) := by decide +kernel
theorem d_M_character_136 : decode b_M_character 136 = .ok (.getfield 20, 3) := by decide +kernel
theorem d_M_character_139 : decode b_M_character 139 = .ok (.bipush 56, 2) := by decide +kernel
theorem d_M_character_141 : decode b_M_character 141 = .ok (.iload_n 1, 1) := by decide +kernel
theorem d_M_character_142 : decode b_M_character 142 = .ok (.imul, 1) := by decide +kernel
theorem d_M_character_143 : decode b_M_character 143 = .ok (.iload_n 3, 1) := by decide +kernel
theorem d_M_character_144 : decode b_M_character 144 = .ok (.iload 4, 2) := by decide +kernel
theorem d_M_character_146 : decode b_M_character 146 = .ok (.if_icmp .ge 13, 3) := by decide +kernel
theorem d_M_character_149 : decode b_M_character 149 = .ok (.bipush 23, 2) := by decide +kernel
theorem d_M_character_151 : decode b_M_character 151 = .ok (.iload 4, 2) := by decide +kernel
theorem d_M_character_153 : decode b_M_character 153 = .ok (.iadd, 1) := by decide +kernel
theorem d_M_character_154 : decode b_M_character 154 = .ok (.iload_n 3, 1) := by decide +kernel
theorem d_M_character_155 : decode b_M_character 155 = .ok (.isub, 1) := by decide +kernel
theorem d_M_character_156 : decode b_M_character 156 = .ok (.goto 10, 3) := by decide +kernel
theorem d_M_character_159 : decode b_M_character 159 = .ok (.bipush 24, 2) := by decide +kernel
theorem d_M_character_161 : decode b_M_character 161 = .ok (.iload_n 3, 1) := by decide +kernel
theorem d_M_character_162 : decode b_M_character 162 = .ok (.iload 4, 2) := by decide +kernel
theorem d_M_character_164 : decode b_M_character 164 = .ok (.isub, 1) := by decide +kernel
theorem d_M_character_165 : decode b_M_character 165 = .ok (.isub, 1) := by decide +kernel
theorem d_M_character_166 : decode b_M_character 166 = .ok (.iadd, 1) := by decide +kernel
theorem d_M_character_167 : decode b_M_character 167 = .ok (.iaload, 1) := by decide +kernel
theorem d_M_character_168 : decode b_M_character 168 = .ok (.iadd, 1) := by decide +kernel
theorem d_M_character_169 : decode b_M_character 169 = .ok (.ireturn, 1) := by decide +kernel
theorem d_M_scale_0 : decode b_M_scale 0 = .ok (.aload_n 0, 1) := by decide +kernel
theorem d_M_scale_1 : decode b_M_scale 1 = .ok (.iload_n 1, 1) := by decide +kernel
theorem d_M_scale_2 : decode b_M_scale 2 = .ok (.bipush 7, 2) := by decide +kernel
theorem d_M_scale_4 : decode b_M_scale 4 = .ok (.invokevirtual 135, 3) := by decide +kernel
theorem d_M_scale_7 : decode b_M_scale 7 = .ok (.ifCond .ne 12, 3) := by decide +kernel
theorem d_M_scale_10 : decode b_M_scale 10 = .ok (.aload_n 0, 1) := by decide +kernel
theorem d_M_scale_11 : decode b_M_scale 11 = .ok (.getfield 7, 3) := by decide +kernel
theorem d_M_scale_14 : decode b_M_scale 14 = .ok (.iload_n 1, 1) := by decide +kernel
theorem d_M_scale_15 : decode b_M_scale 15 = .ok (.iaload, 1) := by decide +kernel
theorem d_M_scale_16 : decode b_M_scale 16 = .ok (.ifCond .eq 7, 3) := by decide +kernel
theorem d_M_scale_19 : decode b_M_scale 19 = .ok (.iconst (-1), 1) := by decide +kernel
theorem d_M_scale_20 : decode b_M_scale 20 = .ok (.goto 9, 3) := by decide +kernel
theorem d_M_scale_23 : decode b_M_scale 23 = .ok (.aload_n 0, 1) := by decide +kernel
theorem d_M_scale_24 : decode b_M_scale 24 = .ok (.getfield 17, 3) := by decide +kernel
theorem d_M_scale_27 : decode b_M_scale 27 = .ok (.iload_n 1, 1) := by decide +kernel
theorem d_M_scale_28 : decode b_M_scale 28 = .ok (.iaload, 1) := by decide +kernel
theorem d_M_scale_29 : decode b_M_scale 29 = .ok (.ireturn, 1) := by decide +kernel
theorem d_M_apply_0 : decode b_M_apply 0 = .ok (.aload_n 0, 1) := by decide +kernel
theorem d_M_apply_1 : decode b_M_apply 1 = .ok (.iload_n 1, 1) := by decide +kernel
theorem d_M_apply_2 : decode b_M_apply 2 = .ok (.iconst 5, 1) := by decide +kernel
theorem d_M_apply_3 : decode b_M_apply 3 = .ok (.invokevirtual 135, 3) := by decide +kernel
theorem d_M_apply_6 : decode b_M_apply 6 = .ok (.ifCond .ne 34, 3) := by decide +kernel
theorem d_M_apply_9 : decode b_M_apply 9 = .ok (.aload_n 0, 1) := by decide +kernel
theorem d_M_apply_10 : decode b_M_apply 10 = .ok (.iload_n 2, 1) := by decide +kernel
theorem d_M_apply_11 : decode b_M_apply 11 = .ok (.bipush 7, 2) := by decide +kernel
theorem d_M_apply_13 : decode b_M_apply 13 = .ok (.invokevirtual 135, 3) := by decide +kernel
theorem d_M_apply_16 : decode b_M_apply 16 = .ok (.ifCond .ne 24, 3) := by decide +kernel
theorem d_M_apply_19 : decode b_M_apply 19 = .ok (.aload_n 0, 1) := by decide +kernel
theorem d_M_apply_20 : decode b_M_apply 20 = .ok (.iload_n 3, 1) := by decide +kernel
theorem d_M_apply_21 : decode b_M_apply 21 = .ok (.bipush 7, 2) := by decide +kernel
theorem d_M_apply_23 : decode b_M_apply 23 = .ok (.invokevirtual 135, 3) := by decide +kernel
theorem d_M_apply_26 : decode b_M_apply 26 = .ok (.ifCond .ne 14, 3) := by decide +kernel
theorem d_M_apply_29 : decode b_M_apply 29 = .ok (.aload_n 0, 1) := by decide +kernel
theorem d_M_apply_30 : decode b_M_apply 30 = .ok (.iload 4, 2) := by decide +kernel
theorem d_M_apply_32 : decode b_M_apply 32 = .ok (.bipush 7, 2) := by decide +kernel
theorem d_M_apply_34 : decode b_M_apply 34 = .ok (.invokevirtual 135, 3) := by decide +kernel
theorem d_M_apply_37 : decode b_M_apply 37 = .ok (.ifCond .eq 5, 3) := by decide +kernel
theorem d_M_apply_40 : decode b_M_apply 40 = .ok (.iconst (-1), 1) := by decide +kernel
theorem d_M_apply_41 : decode b_M_apply 41 = .ok (.ireturn, 1) := by decide +kernel
theorem d_M_apply_42 : decode b_M_apply 42 = .ok (.aload_n 0, 1) := by decide +kernel
theorem d_M_apply_43 : decode b_M_apply 43 = .ok (.getfield 7, 3) := by decide +kernel
theorem d_M_apply_46 : decode b_M_apply 46 = .ok (.iload_n 3, 1) := by decide +kernel
theorem d_M_apply_47 : decode b_M_apply 47 = .ok (.iaload, 1) := by decide +kernel
theorem d_M_apply_48 : decode b_M_apply 48 = .ok (.iconst 1, 1) := by decide +kernel
theorem d_M_apply_49 : decode b_M_apply 49 = .ok (.if_icmp .eq 14, 3) := by decide +kernel
theorem d_M_apply_52 : decode b_M_apply 52 = .ok (.aload_n 0, 1) := by decide +kernel
theorem d_M_apply_53 : decode b_M_apply 53 = .ok (.getfield 7, 3) := by decide +kernel
theorem d_M_apply_56 : decode b_M_apply 56 = .ok (.iload 4, 2) := by decide +kernel
theorem d_M_apply_58 : decode b_M_apply 58 = .ok (.iaload, 1) := by decide +kernel
theorem d_M_apply_59 : decode b_M_apply 59 = .ok (.iconst 1, 1) := by decide +kernel
theorem d_M_apply_60 : decode b_M_apply 60 = .ok (.if_icmp .ne 10, 3) := by decide +kernel
theorem d_M_apply_63 : decode b_M_apply 63 = .ok (.aload_n 0, 1) := by decide +kernel
theorem d_M_apply_64 : decode b_M_apply 64 = .ok (.iload_n 2, 1) := by decide +kernel
theorem d_M_apply_65 : decode b_M_apply 65 = .ok (.iconst 1, 1) := by decide +kernel
theorem d_M_apply_66 : decode b_M_apply 66 = .ok (.invokevirtual 138, 3) := by decide +kernel
theorem d_M_apply_69 : decode b_M_apply 69 = .ok (.ireturn, 1) := by decide +kernel
theorem d_M_apply_70 : decode b_M_apply 70 = .ok (.aload_n 0, 1) := by decide +kernel
theorem d_M_apply_71 : decode b_M_apply 71 = .ok (.getfield 7, 3) := by decide +kernel
theorem d_M_apply_74 : decode b_M_apply 74 = .ok (.iload_n 3, 1) := by decide +kernel
theorem d_M_apply_75 : decode b_M_apply 75 = .ok (.iaload, 1) := by decide +kernel
theorem d_M_apply_76 : decode b_M_apply 76 = .ok (.iconst 1, 1) := by decide +kernel
theorem d_M_apply_77 : decode b_M_apply 77 = .ok (.if_icmp .gt 14, 3) := by decide +kernel
theorem d_M_apply_80 : decode b_M_apply 80 = .ok (.aload_n 0, 1) := by decide +kernel
theorem d_M_apply_81 : decode b_M_apply 81 = .ok (.getfield 7, 3) := by decide +kernel
theorem d_M_apply_84 : decode b_M_apply 84 = .ok (.iload 4, 2) := by decide +kernel
theorem d_M_apply_86 : decode b_M_apply 86 = .ok (.iaload, 1) := by decide +kernel
theorem d_M_apply_87 : decode b_M_apply 87 = .ok (.iconst 1, 1) := by decide +kernel
theorem d_M_apply_88 : decode b_M_apply 88 = .ok (.if_icmp .le 13, 3) := by decide +kernel
theorem d_M_apply_91 : decode b_M_apply 91 = .ok (.aload_n 0, 1) := by decide +kernel
theorem d_M_apply_92 : decode b_M_apply 92 = .ok (.iload_n 1, 1) := by decide +kernel
theorem d_M_apply_93 : decode b_M_apply 93 = .ok (.iload_n 2, 1) := by decide +kernel
theorem d_M_apply_94 : decode b_M_apply 94 = .ok (.iload_n 3, 1) := by decide +kernel
theorem d_M_apply_95 : decode b_M_apply 95 = .ok (.iload 4, 2) := by decide +kernel
theorem d_M_apply_97 : decode b_M_apply 97 = .ok (.invokevirtual 164, 3) := by decide +kernel
theorem d_M_apply_100 : decode b_M_apply 100 = .ok (.ireturn, 1) := by decide +kernel
theorem d_M_apply_101 : decode b_M_apply 101 = .ok (.aload_n 0, 1) := by decide +kernel
theorem d_M_apply_102 : decode b_M_apply 102 = .ok (.iload_n 3, 1) := by decide +kernel
theorem d_M_apply_103 : decode b_M_apply 103 = .ok (.invokevirtual 168, 3) := by decide +kernel
theorem d_M_apply_106 : decode b_M_apply 106 = .ok (.aload_n 0, 1) := by decide +kernel
theorem d_M_apply_107 : decode b_M_apply 107 = .ok (.iload 4, 2) := by decide +kernel
theorem d_M_apply_109 : decode b_M_apply 109 = .ok (.invokevirtual 171, 3) := by decide +kernel
theorem d_M_apply_112 : decode b_M_apply 112 = .ok (.iload_n 1, 1) := by decide +kernel
theorem d_M_apply_113 : decode b_M_apply 113 = .ok (.iconst 3, 1) := by decide +kernel
theorem d_M_apply_114 : decode b_M_apply 114 = .ok (.if_icmp .lt 14, 3) := by decide +kernel
theorem d_M_apply_117 : decode b_M_apply 117 = .ok (.aload_n 0, 1) := by decide +kernel
theorem d_M_apply_118 : decode b_M_apply 118 = .ok (.iconst 1, 1) := by decide +kernel
theorem d_M_apply_119 : decode b_M_apply 119 = .ok (.invokevirtual 85, 3) := by decide +kernel
theorem d_M_apply_122 : decode b_M_apply 122 = .ok (.ifCond .ge 6, 3) := by decide +kernel
theorem d_M_apply_125 : decode b_M_apply 125 = .ok (.bipush (-4), 2) := by decide +kernel
theorem d_M_apply_127 : decode b_M_apply 127 = .ok (.ireturn, 1) := by decide +kernel
theorem d_M_apply_128 : decode b_M_apply 128 = .ok (.aload_n 0, 1) := by decide +kernel
theorem d_M_apply_129 : decode b_M_apply 129 = .ok (.getfield 17, 3) := by decide +kernel
theorem d_M_apply_132 : decode b_M_apply 132 = .ok (.iload_n 3, 1) := by decide +kernel
theorem d_M_apply_133 : decode b_M_apply 133 = .ok (.iaload, 1) := by decide +kernel
theorem d_M_apply_134 : decode b_M_apply 134 = .ok (.istore 5, 2) := by decide +kernel
theorem d_M_apply_136 : decode b_M_apply 136 = .ok (.aload_n 0, 1) := by decide +kernel
theorem d_M_apply_137 : decode b_M_apply 137 = .ok (.getfield 17, 3) := by decide +kernel
theorem d_M_apply_140 : decode b_M_apply 140 = .ok (.iload 4, 2) := by decide +kernel
theorem d_M_apply_142 : decode b_M_apply 142 = .ok (.iaload, 1) := by decide +kernel
theorem d_M_apply_143 : decode b_M_apply 143 = .ok (.istore 6, 2) := by decide +kernel
theorem d_M_apply_145 : decode b_M_apply 145 = .ok (.iload 5, 2) := by decide +kernel
theorem d_M_apply_147 : decode b_M_apply 147 = .ok (.iload 6, 2) := by decide +kernel
theorem d_M_apply_149 : decode b_M_apply 149 = .ok (.if_icmp .le 8, 3) := by decide +kernel
theorem d_M_apply_152 : decode b_M_apply 152 = .ok (.iload 5, 2) := by decide +kernel
theorem d_M_apply_154 : decode b_M_apply 154 = .ok (.goto 5, 3) := by decide +kernel
theorem d_M_apply_157 : decode b_M_apply 157 = .ok (.iload 6, 2) := by decide +kernel
theorem d_M_apply_159 : decode b_M_apply 159 = .ok (.istore 7, 2) := by decide +kernel
theorem d_M_apply_161 : decode b_M_apply 161 = .ok (.iload_n 1, 1) := by decide +kernel
theorem d_M_apply_162 : decode b_M_apply 162 = .ok (.tableswitch 100 0 4 #[34, 34, 52, 78, 88], 34) := by decide +kernel
theorem d_M_apply_196 : decode b_M_apply 196 = .ok (.aload_n 0, 1) := by decide +kernel
theorem d_M_apply_197 : decode b_M_apply 197 = .ok (.iload_n 2, 1) := by decide +kernel
theorem d_M_apply_198 : decode b_M_apply 198 = .ok (.iload_n 1, 1) := by decide +kernel
theorem d_M_apply_199 : decode b_M_apply 199 = .ok (.iconst 1, 1) := by decide +kernel
theorem d_M_apply_200 : decode b_M_apply 200 = .ok (.if_icmp .ne 7, 3) := by decide +kernel
theorem d_M_apply_203 : decode b_M_apply 203 = .ok (.iconst 1, 1) := by decide +kernel
theorem d_M_apply_204 : decode b_M_apply 204 = .ok (.goto 4, 3) := by decide +kernel
theorem d_M_apply_207 : decode b_M_apply 207 = .ok (.iconst 0, 1) := by decide +kernel
theorem d_M_apply_208 : decode b_M_apply 208 = .ok (.iload 7, 2) := by decide +kernel
theorem d_M_apply_210 : decode b_M_apply 210 = .ok (.invokevirtual 174, 3) := by decide +kernel
theorem d_M_apply_213 : decode b_M_apply 213 = .ok (.ireturn, 1) := by decide +kernel
theorem d_M_apply_214 : decode b_M_apply 214 = .ok (.aload_n 0, 1) := by decide +kernel
theorem d_M_apply_215 : decode b_M_apply 215 = .ok (.iload_n 2, 1) := by decide +kernel
theorem d_M_apply_216 : decode b_M_apply 216 = .ok (.iload 5, 2) := by decide +kernel
theorem d_M_apply_218 : decode b_M_apply 218 = .ok (.iload 6, 2) := by decide +kernel
theorem d_M_apply_220 : decode b_M_apply 220 = .ok (.iadd, 1) := by decide +kernel
theorem d_M_apply_221 : decode b_M_apply 221 = .ok (.bipush 24, 2) := by decide +kernel
theorem d_M_apply_223 : decode b_M_apply 223 = .ok (.if_icmp .le 8, 3) := by decide +kernel
theorem d_M_apply_226 : decode b_M_apply 226 = .ok (.bipush 24, 2) := by decide +kernel
theorem d_M_apply_228 : decode b_M_apply 228 = .ok (.goto 8, 3) := by decide +kernel
theorem d_M_apply_231 : decode b_M_apply 231 = .ok (.iload 5, 2) := by decide +kernel
theorem d_M_apply_233 : decode b_M_apply 233 = .ok (.iload 6, 2) := by decide +kernel
theorem d_M_apply_235 : decode b_M_apply 235 = .ok (.iadd, 1) := by decide +kernel
theorem d_M_apply_236 : decode b_M_apply 236 = .ok (.invokevirtual 178, 3) := by decide +kernel
theorem d_M_apply_239 : decode b_M_apply 239 = .ok (.ireturn, 1) := by decide +kernel
theorem d_M_apply_240 : decode b_M_apply 240 = .ok (.aload_n 0, 1) := by decide +kernel
theorem d_M_apply_241 : decode b_M_apply 241 = .ok (.iload_n 2, 1) := by decide +kernel
theorem d_M_apply_242 : decode b_M_apply 242 = .ok (.iload 5, 2) := by decide +kernel
theorem d_M_apply_244 : decode b_M_apply 244 = .ok (.iload 6, 2) := by decide +kernel
theorem d_M_apply_246 : decode b_M_apply 246 = .ok (.invokevirtual 181, 3) := by decide +kernel
theorem d_M_apply_249 : decode b_M_apply 249 = .ok (.ireturn, 1) := by decide +kernel
theorem d_M_apply_250 : decode b_M_apply 250 = .ok (.aload_n 0, 1) := by decide +kernel
theorem d_M_apply_251 : decode b_M_apply 251 = .ok (.iconst 0, 1) := by decide +kernel
theorem d_M_apply_252 : decode b_M_apply 252 = .ok (.invokevirtual 111, 3) := by decide +kernel
theorem d_M_apply_255 : decode b_M_apply 255 = .ok (.aload_n 0, 1) := by decide +kernel
theorem d_M_apply_256 : decode b_M_apply 256 = .ok (.iload_n 2, 1) := by decide +kernel
theorem d_M_apply_257 : decode b_M_apply 257 = .ok (.iconst 0, 1) := by decide +kernel
theorem d_M_apply_258 : decode b_M_apply 258 = .ok (.invokevirtual 72, 3) := by decide +kernel
theorem d_M_apply_261 : decode b_M_apply 261 = .ok (.ireturn, 1) := by decide +kernel
theorem d_M_apply_262 : decode b_M_apply 262 = .ok (.aload_n 0, 1) := by decide +kernel
theorem d_M_apply_263 : decode b_M_apply 263 = .ok (.iload_n 2, 1) := by decide +kernel
theorem d_M_apply_264 : decode b_M_apply 264 = .ok (.iload 7, 2) := by decide +kernel
theorem d_M_apply_266 : decode b_M_apply 266 = .ok (.invokevirtual 185, 3) := by decide +kernel
theorem d_M_apply_269 : decode b_M_apply 269 = .ok (.ireturn, 1) := by decide +kernel
theorem d_M_add_0 : decode b_M_add 0 = .ok (.aload_n 0, 1) := by decide +kernel
theorem d_M_add_1 : decode b_M_add 1 = .ok (.invokevirtual 82, 3) := by decide +kernel
theorem d_M_add_4 : decode b_M_add 4 = .ok (.iconst 0, 1) := by decide +kernel
theorem d_M_add_5 : decode b_M_add 5 = .ok (.istore 4, 2) := by decide +kernel
theorem d_M_add_7 : decode b_M_add 7 = .ok (.iload 4, 2) := by decide +kernel
theorem d_M_add_9 : decode b_M_add 9 = .ok (.bipush 56, 2) := by decide +kernel
theorem d_M_add_11 : decode b_M_add 11 = .ok (.if_icmp .ge 71, 3) := by decide +kernel
theorem d_M_add_14 : decode b_M_add 14 = .ok (.aload_n 0, 1) := by decide +kernel
theorem d_M_add_15 : decode b_M_add 15 = .ok (.getfield 41, 3) := by decide +kernel
theorem d_M_add_18 : decode b_M_add 18 = .ok (.bipush 24, 2) := by decide +kernel
theorem d_M_add_20 : decode b_M_add 20 = .ok (.iload 4, 2) := by decide +kernel
theorem d_M_add_22 : decode b_M_add 22 = .ok (.iadd, 1) := by decide +kernel
theorem d_M_add_23 : decode b_M_add 23 = .ok (.aload_n 0, 1) := by decide +kernel
theorem d_M_add_24 : decode b_M_add 24 = .ok (.getfield 76, 3) := by decide +kernel
theorem d_M_add_27 : decode b_M_add 27 = .ok (.ifCond .eq 14, 3) := by decide +kernel
theorem d_M_add_30 : decode b_M_add 30 = .ok (.aload_n 0, 1) := by decide +kernel
theorem d_M_add_31 : decode b_M_add 31 = .ok (.getfield 35, 3) := by decide +kernel
theorem d_M_add_34 : decode b_M_add 34 = .ok (.iload 4, 2) := by decide +kernel
theorem d_M_add_36 : decode b_M_add 36 = .ok (.iaload, 1) := by decide +kernel
theorem d_M_add_37 : decode b_M_add 37 = .ok (.ineg, 1) := by decide +kernel
theorem d_M_add_38 : decode b_M_add 38 = .ok (.goto 10, 3) := by decide +kernel
theorem d_M_add_41 : decode b_M_add 41 = .ok (.aload_n 0, 1) := by decide +kernel
theorem d_M_add_42 : decode b_M_add 42 = .ok (.getfield 35, 3) := by decide +kernel
theorem d_M_add_45 : decode b_M_add 45 = .ok (.iload 4, 2) := by decide +kernel
theorem d_M_add_47 : decode b_M_add 47 = .ok (.iaload, 1) := by decide +kernel
theorem d_M_add_48 : decode b_M_add 48 = .ok (.aload_n 0, 1) := by decide +kernel
theorem d_M_add_49 : decode b_M_add 49 = .ok (.getfield 79, 3) := by decide +kernel
theorem d_M_add_52 : decode b_M_add 52 = .ok (.iload_n 2, 1) := by decide +kernel
theorem d_M_add_53 : decode b_M_add 53 = .ok (.if_icmp .eq 14, 3) := by decide +kernel
theorem d_M_add_56 : decode b_M_add 56 = .ok (.aload_n 0, 1) := by decide +kernel
theorem d_M_add_57 : decode b_M_add 57 = .ok (.getfield 38, 3) := by decide +kernel
theorem d_M_add_60 : decode b_M_add 60 = .ok (.iload 4, 2) := by decide +kernel
theorem d_M_add_62 : decode b_M_add 62 = .ok (.iaload, 1) := by decide +kernel
theorem d_M_add_63 : decode b_M_add 63 = .ok (.ineg, 1) := by decide +kernel
theorem d_M_add_64 : decode b_M_add 64 = .ok (.goto 10, 3) := by decide +kernel
theorem d_M_add_67 : decode b_M_add 67 = .ok (.aload_n 0, 1) := by decide +kernel
theorem d_M_add_68 : decode b_M_add 68 = .ok (.getfield 38, 3) := by decide +kernel
theorem d_M_add_71 : decode b_M_add 71 = .ok (.iload 4, 2) := by decide +kernel
theorem d_M_add_73 : decode b_M_add 73 = .ok (.iaload, 1) := by decide +kernel
theorem d_M_add_74 : decode b_M_add 74 = .ok (.iadd, 1) := by decide +kernel
theorem d_M_add_75 : decode b_M_add 75 = .ok (.iastore, 1) := by decide +kernel
theorem d_M_add_76 : decode b_M_add 76 = .ok (.iinc 4 1, 3) := by decide +kernel
theorem d_M_add_79 : decode b_M_add 79 = .ok (.goto (-72), 3) := by decide +kernel
theorem d_M_add_82 : decode b_M_add 82 = .ok (.aload_n 0, 1) := by decide +kernel
theorem d_M_add_83 : decode b_M_add 83 = .ok (.iload_n 1, 1) := by decide +kernel
theorem d_M_add_84 : decode b_M_add 84 = .ok (.iload_n 3, 1) := by decide +kernel
theorem d_M_add_85 : decode b_M_add 85 = .ok (.invokevirtual 114, 3) := by decide +kernel
theorem d_M_add_88 : decode b_M_add 88 = .ok (.ireturn, 1) := by decide +kernel
theorem d_M_multiply_0 : decode b_M_multiply 0 = .ok (.aload_n 0, 1) := by decide +kernel
theorem d_M_multiply_1 : decode b_M_multiply 1 = .ok (.invokevirtual 82, 3) := by decide +kernel
theorem d_M_multiply_4 : decode b_M_multiply 4 = .ok (.aload_n 0, 1) := by decide +kernel
theorem d_M_multiply_5 : decode b_M_multiply 5 = .ok (.aload_n 0, 1) := by decide +kernel
theorem d_M_multiply_6 : decode b_M_multiply 6 = .ok (.getfield 76, 3) := by decide +kernel
theorem d_M_multiply_9 : decode b_M_multiply 9 = .ok (.aload_n 0, 1) := by decide +kernel
theorem d_M_multiply_10 : decode b_M_multiply 10 = .ok (.getfield 79, 3) := by decide +kernel
theorem d_M_multiply_13 : decode b_M_multiply 13 = .ok (.if_icmp .eq 7, 3) := by decide +kernel
theorem d_M_multiply_16 : decode b_M_multiply 16 = .ok (.iconst 1, 1) := by decide +kernel
theorem d_M_multiply_17 : decode b_M_multiply 17 = .ok (.goto 4, 3) := by decide +kernel
theorem d_M_multiply_20 : decode b_M_multiply 20 = .ok (.iconst 0, 1) := by decide +kernel
theorem d_M_multiply_21 : decode b_M_multiply 21 = .ok (.putfield 50, 3) := by decide +kernel
theorem d_M_multiply_24 : decode b_M_multiply 24 = .ok (.iconst 0, 1) := by decide +kernel
theorem d_M_multiply_25 : decode b_M_multiply 25 = .ok (.istore_n 3, 1) := by decide +kernel
theorem d_M_multiply_26 : decode b_M_multiply 26 = .ok (.iload_n 3, 1) := by decide +kernel
theorem d_M_multiply_27 : decode b_M_multiply 27 = .ok (.bipush 56, 2) := by decide +kernel
theorem d_M_multiply_29 : decode b_M_multiply 29 = .ok (.if_icmp .ge 51, 3) := by decide +kernel
theorem d_M_multiply_32 : decode b_M_multiply 32 = .ok (.iconst 0, 1) := by decide +kernel
theorem d_M_multiply_33 : decode b_M_multiply 33 = .ok (.istore 4, 2) := by decide +kernel
theorem d_M_multiply_35 : decode b_M_multiply 35 = .ok (.iload 4, 2) := by decide +kernel
theorem d_M_multiply_37 : decode b_M_multiply 37 = .ok (.bipush 56, 2) := by decide +kernel
theorem d_M_multiply_39 : decode b_M_multiply 39 = .ok (.if_icmp .ge 35, 3) := by decide +kernel
theorem d_M_multiply_42 : decode b_M_multiply 42 = .ok (.aload_n 0, 1) := by decide +kernel
theorem d_M_multiply_43 : decode b_M_multiply 43 = .ok (.getfield 41, 3) := by decide +kernel
theorem d_M_multiply_46 : decode b_M_multiply 46 = .ok (.iload_n 3, 1) := by decide +kernel
theorem d_M_multiply_47 : decode b_M_multiply 47 = .ok (.iload 4, 2) := by decide +kernel
theorem d_M_multiply_49 : decode b_M_multiply 49 = .ok (.iadd, 1) := by decide +kernel
theorem d_M_multiply_50 : decode b_M_multiply 50 = .ok (.dup2, 1) := by decide +kernel
theorem d_M_multiply_51 : decode b_M_multiply 51 = .ok (.iaload, 1) := by decide +kernel
theorem d_M_multiply_52 : decode b_M_multiply 52 = .ok (.aload_n 0, 1) := by decide +kernel
theorem d_M_multiply_53 : decode b_M_multiply 53 = .ok (.getfield 35, 3) := by decide +kernel
theorem d_M_multiply_56 : decode b_M_multiply 56 = .ok (.iload_n 3, 1) := by decide +kernel
theorem d_M_multiply_57 : decode b_M_multiply 57 = .ok (.iaload, 1) := by decide +kernel
theorem d_M_multiply_58 : decode b_M_multiply 58 = .ok (.aload_n 0, 1) := by decide +kernel
theorem d_M_multiply_59 : decode b_M_multiply 59 = .ok (.getfield 38, 3) := by decide +kernel
theorem d_M_multiply_62 : decode b_M_multiply 62 = .ok (.iload 4, 2) := by decide +kernel
theorem d_M_multiply_64 : decode b_M_multiply 64 = .ok (.iaload, 1) := by decide +kernel
theorem d_M_multiply_65 : decode b_M_multiply 65 = .ok (.imul, 1) := by decide +kernel
theorem d_M_multiply_66 : decode b_M_multiply 66 = .ok (.iadd, 1) := by decide +kernel
theorem d_M_multiply_67 : decode b_M_multiply 67 = .ok (.iastore, 1) := by decide +kernel
theorem d_M_multiply_68 : decode b_M_multiply 68 = .ok (.iinc 4 1, 3) := by decide +kernel
theorem d_M_multiply_71 : decode b_M_multiply 71 = .ok (.goto (-36), 3) := by decide +kernel
theorem d_M_multiply_74 : decode b_M_multiply 74 = .ok (.iinc 3 1, 3) := by decide +kernel
theorem d_M_multiply_77 : decode b_M_multiply 77 = .ok (.goto (-51), 3) := by decide +kernel
theorem d_M_multiply_80 : decode b_M_multiply 80 = .ok (.aload_n 0, 1) := by decide +kernel
theorem d_M_multiply_81 : decode b_M_multiply 81 = .ok (.iload_n 1, 1) := by decide +kernel
theorem d_M_multiply_82 : decode b_M_multiply 82 = .ok (.iload_n 2, 1) := by decide +kernel
theorem d_M_multiply_83 : decode b_M_multiply 83 = .ok (.invokevirtual 114, 3) := by decide +kernel
theorem d_M_multiply_86 : decode b_M_multiply 86 = .ok (.ireturn, 1) := by decide +kernel
theorem d_M_remainder_0 : decode b_M_remainder 0 = .ok (.aload_n 0, 1) := by decide +kernel
theorem d_M_remainder_1 : decode b_M_remainder 1 = .ok (.iconst 0, 1) := by decide +kernel
theorem d_M_remainder_2 : decode b_M_remainder 2 = .ok (.invokevirtual 111, 3) := by decide +kernel
theorem d_M_remainder_5 : decode b_M_remainder 5 = .ok (.aload_n 0, 1) := by decide +kernel
theorem d_M_remainder_6 : decode b_M_remainder 6 = .ok (.invokevirtual 82, 3) := by decide +kernel
theorem d_M_remainder_9 : decode b_M_remainder 9 = .ok (.aload_n 0, 1) := by decide +kernel
theorem d_M_remainder_10 : decode b_M_remainder 10 = .ok (.aload_n 0, 1) := by decide +kernel
theorem d_M_remainder_11 : decode b_M_remainder 11 = .ok (.getfield 76, 3) := by decide +kernel
theorem d_M_remainder_14 : decode b_M_remainder 14 = .ok (.putfield 50, 3) := by decide +kernel
theorem d_M_remainder_17 : decode b_M_remainder 17 = .ok (.iconst 0, 1) := by decide +kernel
theorem d_M_remainder_18 : decode b_M_remainder 18 = .ok (.istore_n 3, 1) := by decide +kernel
theorem d_M_remainder_19 : decode b_M_remainder 19 = .ok (.iload_n 3, 1) := by decide +kernel
theorem d_M_remainder_20 : decode b_M_remainder 20 = .ok (.bipush 56, 2) := by decide +kernel
theorem d_M_remainder_22 : decode b_M_remainder 22 = .ok (.if_icmp .ge 24, 3) := by decide +kernel
theorem d_M_remainder_25 : decode b_M_remainder 25 = .ok (.aload_n 0, 1) := by decide +kernel
theorem d_M_remainder_26 : decode b_M_remainder 26 = .ok (.getfield 41, 3) := by decide +kernel
theorem d_M_remainder_29 : decode b_M_remainder 29 = .ok (.bipush 24, 2) := by decide +kernel
theorem d_M_remainder_31 : decode b_M_remainder 31 = .ok (.iload_n 3, 1) := by decide +kernel
theorem d_M_remainder_32 : decode b_M_remainder 32 = .ok (.iadd, 1) := by decide +kernel
theorem d_M_remainder_33 : decode b_M_remainder 33 = .ok (.aload_n 0, 1) := by decide +kernel
theorem d_M_remainder_34 : decode b_M_remainder 34 = .ok (.getfield 44, 3) := by decide +kernel
theorem d_M_remainder_37 : decode b_M_remainder 37 = .ok (.iload_n 3, 1) := by decide +kernel
theorem d_M_remainder_38 : decode b_M_remainder 38 = .ok (.iaload, 1) := by decide +kernel
theorem d_M_remainder_39 : decode b_M_remainder 39 = .ok (.iastore, 1) := by decide +kernel
theorem d_M_remainder_40 : decode b_M_remainder 40 = .ok (.iinc 3 1, 3) := by decide +kernel
theorem d_M_remainder_43 : decode b_M_remainder 43 = .ok (.goto (-24), 3) := by decide +kernel
theorem d_M_remainder_46 : decode b_M_remainder 46 = .ok (.aload_n 0, 1) := by decide +kernel
theorem d_M_remainder_47 : decode b_M_remainder 47 = .ok (.iload_n 1, 1) := by decide +kernel
theorem d_M_remainder_48 : decode b_M_remainder 48 = .ok (.iload_n 2, 1) := by decide +kernel
theorem d_M_remainder_49 : decode b_M_remainder 49 = .ok (.invokevirtual 72, 3) := by decide +kernel
theorem d_M_remainder_52 : decode b_M_remainder 52 = .ok (.ireturn, 1) := by decide +kernel
theorem d_M_zero_0 : decode b_M_zero 0 = .ok (.aload_n 0, 1) := by decide +kernel
theorem d_M_zero_1 : decode b_M_zero 1 = .ok (.invokevirtual 82, 3) := by decide +kernel
theorem d_M_zero_4 : decode b_M_zero 4 = .ok (.aload_n 0, 1) := by decide +kernel
theorem d_M_zero_5 : decode b_M_zero 5 = .ok (.iload_n 1, 1) := by decide +kernel
theorem d_M_zero_6 : decode b_M_zero 6 = .ok (.iconst 0, 1) := by decide +kernel
theorem d_M_zero_7 : decode b_M_zero 7 = .ok (.invokevirtual 72, 3) := by decide +kernel
theorem d_M_zero_10 : decode b_M_zero 10 = .ok (.ireturn, 1) := by decide +kernel
theorem d_M_infinite_0 : decode b_M_infinite 0 = .ok (.aload_n 0, 1) := by decide +kernel
theorem d_M_infinite_1 : decode b_M_infinite 1 = .ok (.getfield 7, 3) := by decide +kernel
theorem d_M_infinite_4 : decode b_M_infinite 4 = .ok (.iload_n 3, 1) := by decide +kernel
theorem d_M_infinite_5 : decode b_M_infinite 5 = .ok (.iaload, 1) := by decide +kernel
theorem d_M_infinite_6 : decode b_M_infinite 6 = .ok (.istore 5, 2) := by decide +kernel
theorem d_M_infinite_8 : decode b_M_infinite 8 = .ok (.iload_n 1, 1) := by decide +kernel
theorem d_M_infinite_9 : decode b_M_infinite 9 = .ok (.iconst 1, 1) := by decide +kernel
theorem d_M_infinite_10 : decode b_M_infinite 10 = .ok (.if_icmp .ne 26, 3) := by decide +kernel
theorem d_M_infinite_13 : decode b_M_infinite 13 = .ok (.aload_n 0, 1) := by decide +kernel
theorem d_M_infinite_14 : decode b_M_infinite 14 = .ok (.getfield 7, 3) := by decide +kernel
theorem d_M_infinite_17 : decode b_M_infinite 17 = .ok (.iload 4, 2) := by decide +kernel
theorem d_M_infinite_19 : decode b_M_infinite 19 = .ok (.iaload, 1) := by decide +kernel
theorem d_M_infinite_20 : decode b_M_infinite 20 = .ok (.iconst 1, 1) := by decide +kernel
theorem d_M_infinite_21 : decode b_M_infinite 21 = .ok (.if_icmp .le 15, 3) := by decide +kernel
theorem d_M_infinite_24 : decode b_M_infinite 24 = .ok (.iconst 5, 1) := by decide +kernel
theorem d_M_infinite_25 : decode b_M_infinite 25 = .ok (.aload_n 0, 1) := by decide +kernel
theorem d_M_infinite_26 : decode b_M_infinite 26 = .ok (.getfield 7, 3) := by decide +kernel
theorem d_M_infinite_29 : decode b_M_infinite 29 = .ok (.iload 4, 2) := by decide +kernel
theorem d_M_infinite_31 : decode b_M_infinite 31 = .ok (.iaload, 1) := by decide +kernel
theorem d_M_infinite_32 : decode b_M_infinite 32 = .ok (.isub, 1) := by decide +kernel
theorem d_M_infinite_33 : decode b_M_infinite 33 = .ok (.goto 10, 3) := by decide +kernel
theorem d_M_infinite_36 : decode b_M_infinite 36 = .ok (.aload_n 0, 1) := by decide +kernel
theorem d_M_infinite_37 : decode b_M_infinite 37 = .ok (.getfield 7, 3) := by decide +kernel
theorem d_M_infinite_40 : decode b_M_infinite 40 = .ok (.iload 4, 2) := by decide +kernel
theorem d_M_infinite_42 : decode b_M_infinite 42 = .ok (.iaload, 1) := by decide +kernel
theorem d_M_infinite_43 : decode b_M_infinite 43 = .ok (.istore 6, 2) := by decide +kernel
theorem d_M_infinite_45 : decode b_M_infinite 45 = .ok (.aload_n 0, 1) := by decide +kernel
theorem d_M_infinite_46 : decode b_M_infinite 46 = .ok (.iload_n 3, 1) := by decide +kernel
theorem d_M_infinite_47 : decode b_M_infinite 47 = .ok (.invokevirtual 188, 3) := by decide +kernel
theorem d_M_infinite_50 : decode b_M_infinite 50 = .ok (.aload_n 0, 1) := by decide +kernel
theorem d_M_infinite_51 : decode b_M_infinite 51 = .ok (.iload 4, 2) := by decide +kernel
theorem d_M_infinite_53 : decode b_M_infinite 53 = .ok (.invokevirtual 188, 3) := by decide +kernel
theorem d_M_infinite_56 : decode b_M_infinite 56 = .ok (.imul, 1) := by decide +kernel
theorem d_M_infinite_57 : decode b_M_infinite 57 = .ok (.istore 7, 2) := by decide +kernel
theorem d_M_infinite_59 : decode b_M_infinite 59 = .ok (.iload_n 1, 1) := by decide +kernel
theorem d_M_infinite_60 : decode b_M_infinite 60 = .ok (.iconst 2, 1) := by decide +kernel
theorem d_M_infinite_61 : decode b_M_infinite 61 = .ok (.if_icmp .ge 45, 3) := by decide +kernel
theorem d_M_infinite_64 : decode b_M_infinite 64 = .ok (.aload_n 0, 1) := by decide +kernel
theorem d_M_infinite_65 : decode b_M_infinite 65 = .ok (.iload_n 2, 1) := by decide +kernel
theorem d_M_infinite_66 : decode b_M_infinite 66 = .ok (.iload 5, 2) := by decide +kernel
theorem d_M_infinite_68 : decode b_M_infinite 68 = .ok (.iconst 1, 1) := by decide +kernel
theorem d_M_infinite_69 : decode b_M_infinite 69 = .ok (.if_icmp .le 20, 3) := by decide +kernel
theorem d_M_infinite_72 : decode b_M_infinite 72 = .ok (.iload 6, 2) := by decide +kernel
theorem d_M_infinite_74 : decode b_M_infinite 74 = .ok (.iconst 1, 1) := by decide +kernel
theorem d_M_infinite_75 : decode b_M_infinite 75 = .ok (.if_icmp .le 14, 3) := by decide +kernel
theorem d_M_infinite_78 : decode b_M_infinite 78 = .ok (.iload 5, 2) := by decide +kernel
theorem d_M_infinite_80 : decode b_M_infinite 80 = .ok (.iload 6, 2) := by decide +kernel
theorem d_M_infinite_82 : decode b_M_infinite 82 = .ok (.if_icmp .eq 7, 3) := by decide +kernel
theorem d_M_infinite_85 : decode b_M_infinite 85 = .ok (.iconst 1, 1) := by decide +kernel
theorem d_M_infinite_86 : decode b_M_infinite 86 = .ok (.goto 16, 3) := by decide +kernel
theorem d_M_infinite_89 : decode b_M_infinite 89 = .ok (.iload 5, 2) := by decide +kernel
theorem d_M_infinite_91 : decode b_M_infinite 91 = .ok (.iconst 1, 1) := by decide +kernel
theorem d_M_infinite_92 : decode b_M_infinite 92 = .ok (.if_icmp .le 8, 3) := by decide +kernel
theorem d_M_infinite_95 : decode b_M_infinite 95 = .ok (.iload 5, 2) := by decide +kernel
theorem d_M_infinite_97 : decode b_M_infinite 97 = .ok (.goto 5, 3) := by decide +kernel
theorem d_M_infinite_100 : decode b_M_infinite 100 = .ok (.iload 6, 2) := by decide +kernel
theorem d_M_infinite_102 : decode b_M_infinite 102 = .ok (.invokevirtual 138, 3) := by decide +kernel
theorem d_M_infinite_105 : decode b_M_infinite 105 = .ok (.ireturn, 1) := by decide +kernel
theorem d_M_infinite_106 : decode b_M_infinite 106 = .ok (.iload_n 1, 1) := by decide +kernel
theorem d_M_infinite_107 : decode b_M_infinite 107 = .ok (.iconst 2, 1) := by decide +kernel
theorem d_M_infinite_108 : decode b_M_infinite 108 = .ok (.if_icmp .ne 28, 3) := by decide +kernel
theorem d_M_infinite_111 : decode b_M_infinite 111 = .ok (.aload_n 0, 1) := by decide +kernel
theorem d_M_infinite_112 : decode b_M_infinite 112 = .ok (.iload_n 2, 1) := by decide +kernel
theorem d_M_infinite_113 : decode b_M_infinite 113 = .ok (.iload 7, 2) := by decide +kernel
theorem d_M_infinite_115 : decode b_M_infinite 115 = .ok (.ifCond .ne 7, 3) := by decide +kernel
theorem d_M_infinite_118 : decode b_M_infinite 118 = .ok (.iconst 1, 1) := by decide +kernel
theorem d_M_infinite_119 : decode b_M_infinite 119 = .ok (.goto 13, 3) := by decide +kernel
theorem d_M_infinite_122 : decode b_M_infinite 122 = .ok (.iload 7, 2) := by decide +kernel
theorem d_M_infinite_124 : decode b_M_infinite 124 = .ok (.ifCond .le 7, 3) := by decide +kernel
theorem d_M_infinite_127 : decode b_M_infinite 127 = .ok (.iconst 2, 1) := by decide +kernel
theorem d_M_infinite_128 : decode b_M_infinite 128 = .ok (.goto 4, 3) := by decide +kernel
theorem d_M_infinite_131 : decode b_M_infinite 131 = .ok (.iconst 3, 1) := by decide +kernel
theorem d_M_infinite_132 : decode b_M_infinite 132 = .ok (.invokevirtual 138, 3) := by decide +kernel
theorem d_M_infinite_135 : decode b_M_infinite 135 = .ok (.ireturn, 1) := by decide +kernel
theorem d_M_infinite_136 : decode b_M_infinite 136 = .ok (.iload 5, 2) := by decide +kernel
theorem d_M_infinite_138 : decode b_M_infinite 138 = .ok (.iconst 1, 1) := by decide +kernel
theorem d_M_infinite_139 : decode b_M_infinite 139 = .ok (.if_icmp .le 11, 3) := by decide +kernel
theorem d_M_infinite_142 : decode b_M_infinite 142 = .ok (.iload 7, 2) := by decide +kernel
theorem d_M_infinite_144 : decode b_M_infinite 144 = .ok (.ifCond .ne 6, 3) := by decide +kernel
theorem d_M_infinite_147 : decode b_M_infinite 147 = .ok (.bipush (-4), 2) := by decide +kernel
theorem d_M_infinite_149 : decode b_M_infinite 149 = .ok (.ireturn, 1) := by decide +kernel
theorem d_M_infinite_150 : decode b_M_infinite 150 = .ok (.iload_n 1, 1) := by decide +kernel
theorem d_M_infinite_151 : decode b_M_infinite 151 = .ok (.iconst 5, 1) := by decide +kernel
theorem d_M_infinite_152 : decode b_M_infinite 152 = .ok (.if_icmp .ne 25, 3) := by decide +kernel
theorem d_M_infinite_155 : decode b_M_infinite 155 = .ok (.iload 5, 2) := by decide +kernel
theorem d_M_infinite_157 : decode b_M_infinite 157 = .ok (.iconst 1, 1) := by decide +kernel
theorem d_M_infinite_158 : decode b_M_infinite 158 = .ok (.if_icmp .le 12, 3) := by decide +kernel
theorem d_M_infinite_161 : decode b_M_infinite 161 = .ok (.aload_n 0, 1) := by decide +kernel
theorem d_M_infinite_162 : decode b_M_infinite 162 = .ok (.iload_n 2, 1) := by decide +kernel
theorem d_M_infinite_163 : decode b_M_infinite 163 = .ok (.iconst 1, 1) := by decide +kernel
theorem d_M_infinite_164 : decode b_M_infinite 164 = .ok (.invokevirtual 138, 3) := by decide +kernel
theorem d_M_infinite_167 : decode b_M_infinite 167 = .ok (.goto 9, 3) := by decide +kernel
theorem d_M_infinite_170 : decode b_M_infinite 170 = .ok (.aload_n 0, 1) := by decide +kernel
theorem d_M_infinite_171 : decode b_M_infinite 171 = .ok (.iload_n 2, 1) := by decide +kernel
theorem d_M_infinite_172 : decode b_M_infinite 172 = .ok (.iload_n 3, 1) := by decide +kernel
theorem d_M_infinite_173 : decode b_M_infinite 173 = .ok (.invokevirtual 191, 3) := by decide +kernel
theorem d_M_infinite_176 : decode b_M_infinite 176 = .ok (.ireturn, 1) := by decide +kernel
theorem d_M_infinite_177 : decode b_M_infinite 177 = .ok (.iload 5, 2) := by decide +kernel
theorem d_M_infinite_179 : decode b_M_infinite 179 = .ok (.ifCond .ne 9, 3) := by decide +kernel
theorem d_M_infinite_182 : decode b_M_infinite 182 = .ok (.aload_n 0, 1) := by decide +kernel
theorem d_M_infinite_183 : decode b_M_infinite 183 = .ok (.iload_n 2, 1) := by decide +kernel
theorem d_M_infinite_184 : decode b_M_infinite 184 = .ok (.invokevirtual 194, 3) := by decide +kernel
theorem d_M_infinite_187 : decode b_M_infinite 187 = .ok (.ireturn, 1) := by decide +kernel
theorem d_M_infinite_188 : decode b_M_infinite 188 = .ok (.aload_n 0, 1) := by decide +kernel
theorem d_M_infinite_189 : decode b_M_infinite 189 = .ok (.iload_n 2, 1) := by decide +kernel
theorem d_M_infinite_190 : decode b_M_infinite 190 = .ok (.iload 6, 2) := by decide +kernel
theorem d_M_infinite_192 : decode b_M_infinite 192 = .ok (.iconst 1, 1) := by decide +kernel
theorem d_M_infinite_193 : decode b_M_infinite 193 = .ok (.if_icmp .le 7, 3) := by decide +kernel
theorem d_M_infinite_196 : decode b_M_infinite 196 = .ok (.iconst 1, 1) := by decide +kernel
theorem d_M_infinite_197 : decode b_M_infinite 197 = .ok (.goto 13, 3) := by decide +kernel
theorem d_M_infinite_200 : decode b_M_infinite 200 = .ok (.iload 7, 2) := by decide +kernel
theorem d_M_infinite_202 : decode b_M_infinite 202 = .ok (.ifCond .le 7, 3) := by decide +kernel
theorem d_M_infinite_205 : decode b_M_infinite 205 = .ok (.iconst 2, 1) := by decide +kernel
theorem d_M_infinite_206 : decode b_M_infinite 206 = .ok (.goto 4, 3) := by decide +kernel
theorem d_M_infinite_209 : decode b_M_infinite 209 = .ok (.iconst 3, 1) := by decide +kernel
theorem d_M_infinite_210 : decode b_M_infinite 210 = .ok (.invokevirtual 138, 3) := by decide +kernel
theorem d_M_infinite_213 : decode b_M_infinite 213 = .ok (.ireturn, 1) := by decide +kernel
theorem d_M_copy_0 : decode b_M_copy 0 = .ok (.aload_n 0, 1) := by decide +kernel
theorem d_M_copy_1 : decode b_M_copy 1 = .ok (.iload_n 2, 1) := by decide +kernel
theorem d_M_copy_2 : decode b_M_copy 2 = .ok (.invokevirtual 168, 3) := by decide +kernel
theorem d_M_copy_5 : decode b_M_copy 5 = .ok (.aload_n 0, 1) := by decide +kernel
theorem d_M_copy_6 : decode b_M_copy 6 = .ok (.invokevirtual 197, 3) := by decide +kernel
theorem d_M_copy_9 : decode b_M_copy 9 = .ok (.aload_n 0, 1) := by decide +kernel
theorem d_M_copy_10 : decode b_M_copy 10 = .ok (.iload_n 1, 1) := by decide +kernel
theorem d_M_copy_11 : decode b_M_copy 11 = .ok (.aload_n 0, 1) := by decide +kernel
theorem d_M_copy_12 : decode b_M_copy 12 = .ok (.getfield 17, 3) := by decide +kernel
theorem d_M_copy_15 : decode b_M_copy 15 = .ok (.iload_n 2, 1) := by decide +kernel
theorem d_M_copy_16 : decode b_M_copy 16 = .ok (.iaload, 1) := by decide +kernel
theorem d_M_copy_17 : decode b_M_copy 17 = .ok (.invokevirtual 72, 3) := by decide +kernel
theorem d_M_copy_20 : decode b_M_copy 20 = .ok (.ireturn, 1) := by decide +kernel
theorem d_M_adjust_0 : decode b_M_adjust 0 = .ok (.aload_n 0, 1) := by decide +kernel
theorem d_M_adjust_1 : decode b_M_adjust 1 = .ok (.iload_n 1, 1) := by decide +kernel
theorem d_M_adjust_2 : decode b_M_adjust 2 = .ok (.bipush 6, 2) := by decide +kernel
theorem d_M_adjust_4 : decode b_M_adjust 4 = .ok (.invokevirtual 135, 3) := by decide +kernel
theorem d_M_adjust_7 : decode b_M_adjust 7 = .ok (.ifCond .ne 23, 3) := by decide +kernel
theorem d_M_adjust_10 : decode b_M_adjust 10 = .ok (.aload_n 0, 1) := by decide +kernel
theorem d_M_adjust_11 : decode b_M_adjust 11 = .ok (.iload_n 2, 1) := by decide +kernel
theorem d_M_adjust_12 : decode b_M_adjust 12 = .ok (.bipush 7, 2) := by decide +kernel
theorem d_M_adjust_14 : decode b_M_adjust 14 = .ok (.invokevirtual 135, 3) := by decide +kernel
theorem d_M_adjust_17 : decode b_M_adjust 17 = .ok (.ifCond .ne 13, 3) := by decide +kernel
theorem d_M_adjust_20 : decode b_M_adjust 20 = .ok (.aload_n 0, 1) := by decide +kernel
theorem d_M_adjust_21 : decode b_M_adjust 21 = .ok (.iload_n 3, 1) := by decide +kernel
theorem d_M_adjust_22 : decode b_M_adjust 22 = .ok (.bipush 7, 2) := by decide +kernel
theorem d_M_adjust_24 : decode b_M_adjust 24 = .ok (.invokevirtual 135, 3) := by decide +kernel
theorem d_M_adjust_27 : decode b_M_adjust 27 = .ok (.ifCond .eq 5, 3) := by decide +kernel
theorem d_M_adjust_30 : decode b_M_adjust 30 = .ok (.iconst (-1), 1) := by decide +kernel
theorem d_M_adjust_31 : decode b_M_adjust 31 = .ok (.ireturn, 1) := by decide +kernel
theorem d_M_adjust_32 : decode b_M_adjust 32 = .ok (.iload_n 1, 1) := by decide +kernel
theorem d_M_adjust_33 : decode b_M_adjust 33 = .ok (.bipush 6, 2) := by decide +kernel
theorem d_M_adjust_35 : decode b_M_adjust 35 = .ok (.if_icmp .ne 34, 3) := by decide +kernel
theorem d_M_adjust_38 : decode b_M_adjust 38 = .ok (.aload_n 0, 1) := by decide +kernel
theorem d_M_adjust_39 : decode b_M_adjust 39 = .ok (.getfield 7, 3) := by decide +kernel
theorem d_M_adjust_42 : decode b_M_adjust 42 = .ok (.iload_n 3, 1) := by decide +kernel
theorem d_M_adjust_43 : decode b_M_adjust 43 = .ok (.iaload, 1) := by decide +kernel
theorem d_M_adjust_44 : decode b_M_adjust 44 = .ok (.iconst 3, 1) := by decide +kernel
theorem d_M_adjust_45 : decode b_M_adjust 45 = .ok (.if_icmp .eq 21, 3) := by decide +kernel
theorem d_M_adjust_48 : decode b_M_adjust 48 = .ok (.aload_n 0, 1) := by decide +kernel
theorem d_M_adjust_49 : decode b_M_adjust 49 = .ok (.getfield 7, 3) := by decide +kernel
theorem d_M_adjust_52 : decode b_M_adjust 52 = .ok (.iload_n 3, 1) := by decide +kernel
theorem d_M_adjust_53 : decode b_M_adjust 53 = .ok (.iaload, 1) := by decide +kernel
theorem d_M_adjust_54 : decode b_M_adjust 54 = .ok (.ifCond .ne 15, 3) := by decide +kernel
theorem d_M_adjust_57 : decode b_M_adjust 57 = .ok (.aload_n 0, 1) := by decide +kernel
theorem d_M_adjust_58 : decode b_M_adjust 58 = .ok (.getfield 13, 3) := by decide +kernel
theorem d_M_adjust_61 : decode b_M_adjust 61 = .ok (.iload_n 3, 1) := by decide +kernel
theorem d_M_adjust_62 : decode b_M_adjust 62 = .ok (.baload, 1) := by decide +kernel
theorem d_M_adjust_63 : decode b_M_adjust 63 = .ok (.ifCond .eq 6, 3) := by decide +kernel
theorem d_M_adjust_66 : decode b_M_adjust 66 = .ok (.bipush (-5), 2) := by decide +kernel
theorem d_M_adjust_68 : decode b_M_adjust 68 = .ok (.ireturn, 1) := by decide +kernel
theorem d_M_adjust_69 : decode b_M_adjust 69 = .ok (.aload_n 0, 1) := by decide +kernel
theorem d_M_adjust_70 : decode b_M_adjust 70 = .ok (.getfield 7, 3) := by decide +kernel
theorem d_M_adjust_73 : decode b_M_adjust 73 = .ok (.iload_n 3, 1) := by decide +kernel
theorem d_M_adjust_74 : decode b_M_adjust 74 = .ok (.iaload, 1) := by decide +kernel
theorem d_M_adjust_75 : decode b_M_adjust 75 = .ok (.ifCond .eq 41, 3) := by decide +kernel
theorem d_M_adjust_78 : decode b_M_adjust 78 = .ok (.aload_n 0, 1) := by decide +kernel
theorem d_M_adjust_79 : decode b_M_adjust 79 = .ok (.iload_n 2, 1) := by decide +kernel
theorem d_M_adjust_80 : decode b_M_adjust 80 = .ok (.iload_n 1, 1) := by decide +kernel
theorem d_M_adjust_81 : decode b_M_adjust 81 = .ok (.iconst 4, 1) := by decide +kernel
theorem d_M_adjust_82 : decode b_M_adjust 82 = .ok (.if_icmp .ne 24, 3) := by decide +kernel
theorem d_M_adjust_85 : decode b_M_adjust 85 = .ok (.aload_n 0, 1) := by decide +kernel
theorem d_M_adjust_86 : decode b_M_adjust 86 = .ok (.getfield 7, 3) := by decide +kernel
theorem d_M_adjust_89 : decode b_M_adjust 89 = .ok (.iload_n 3, 1) := by decide +kernel
theorem d_M_adjust_90 : decode b_M_adjust 90 = .ok (.iaload, 1) := by decide +kernel
theorem d_M_adjust_91 : decode b_M_adjust 91 = .ok (.iconst 1, 1) := by decide +kernel
theorem d_M_adjust_92 : decode b_M_adjust 92 = .ok (.if_icmp .le 14, 3) := by decide +kernel
theorem d_M_adjust_95 : decode b_M_adjust 95 = .ok (.iconst 5, 1) := by decide +kernel
theorem d_M_adjust_96 : decode b_M_adjust 96 = .ok (.aload_n 0, 1) := by decide +kernel
theorem d_M_adjust_97 : decode b_M_adjust 97 = .ok (.getfield 7, 3) := by decide +kernel
theorem d_M_adjust_100 : decode b_M_adjust 100 = .ok (.iload_n 3, 1) := by decide +kernel
theorem d_M_adjust_101 : decode b_M_adjust 101 = .ok (.iaload, 1) := by decide +kernel
theorem d_M_adjust_102 : decode b_M_adjust 102 = .ok (.isub, 1) := by decide +kernel
theorem d_M_adjust_103 : decode b_M_adjust 103 = .ok (.goto 9, 3) := by decide +kernel
theorem d_M_adjust_106 : decode b_M_adjust 106 = .ok (.aload_n 0, 1) := by decide +kernel
theorem d_M_adjust_107 : decode b_M_adjust 107 = .ok (.getfield 7, 3) := by decide +kernel
theorem d_M_adjust_110 : decode b_M_adjust 110 = .ok (.iload_n 3, 1) := by decide +kernel
theorem d_M_adjust_111 : decode b_M_adjust 111 = .ok (.iaload, 1) := by decide +kernel
theorem d_M_adjust_112 : decode b_M_adjust 112 = .ok (.invokevirtual 138, 3) := by decide +kernel
theorem d_M_adjust_115 : decode b_M_adjust 115 = .ok (.ireturn, 1) := by decide +kernel
theorem d_M_adjust_116 : decode b_M_adjust 116 = .ok (.aload_n 0, 1) := by decide +kernel
theorem d_M_adjust_117 : decode b_M_adjust 117 = .ok (.iload_n 3, 1) := by decide +kernel
theorem d_M_adjust_118 : decode b_M_adjust 118 = .ok (.invokevirtual 168, 3) := by decide +kernel
theorem d_M_adjust_121 : decode b_M_adjust 121 = .ok (.aload_n 0, 1) := by decide +kernel
theorem d_M_adjust_122 : decode b_M_adjust 122 = .ok (.invokevirtual 197, 3) := by decide +kernel
theorem d_M_adjust_125 : decode b_M_adjust 125 = .ok (.iload 4, 2) := by decide +kernel
theorem d_M_adjust_127 : decode b_M_adjust 127 = .ok (.bipush (-32), 2) := by decide +kernel
theorem d_M_adjust_129 : decode b_M_adjust 129 = .ok (.if_icmp .ge 8, 3) := by decide +kernel
theorem d_M_adjust_132 : decode b_M_adjust 132 = .ok (.bipush (-32), 2) := by decide +kernel
theorem d_M_adjust_134 : decode b_M_adjust 134 = .ok (.goto 17, 3) := by decide +kernel
theorem d_M_adjust_137 : decode b_M_adjust 137 = .ok (.iload 4, 2) := by decide +kernel
theorem d_M_adjust_139 : decode b_M_adjust 139 = .ok (.bipush 24, 2) := by decide +kernel
theorem d_M_adjust_141 : decode b_M_adjust 141 = .ok (.if_icmp .le 8, 3) := by decide +kernel
theorem d_M_adjust_144 : decode b_M_adjust 144 = .ok (.bipush 24, 2) := by decide +kernel
theorem d_M_adjust_146 : decode b_M_adjust 146 = .ok (.goto 5, 3) := by decide +kernel
theorem d_M_adjust_149 : decode b_M_adjust 149 = .ok (.iload 4, 2) := by decide +kernel
theorem d_M_adjust_151 : decode b_M_adjust 151 = .ok (.istore 5, 2) := by decide +kernel
theorem d_M_adjust_153 : decode b_M_adjust 153 = .ok (.iload_n 1, 1) := by decide +kernel
theorem d_M_adjust_154 : decode b_M_adjust 154 = .ok (.tableswitch 126 0 5 #[38, 46, 72, 72, 88, 116], 38) := by decide +kernel
theorem d_M_adjust_192 : decode b_M_adjust 192 = .ok (.aload_n 0, 1) := by decide +kernel
theorem d_M_adjust_193 : decode b_M_adjust 193 = .ok (.iload_n 2, 1) := by decide +kernel
theorem d_M_adjust_194 : decode b_M_adjust 194 = .ok (.iload 5, 2) := by decide +kernel
theorem d_M_adjust_196 : decode b_M_adjust 196 = .ok (.invokevirtual 114, 3) := by decide +kernel
theorem d_M_adjust_199 : decode b_M_adjust 199 = .ok (.ireturn, 1) := by decide +kernel
theorem d_M_adjust_200 : decode b_M_adjust 200 = .ok (.aload_n 0, 1) := by decide +kernel
theorem d_M_adjust_201 : decode b_M_adjust 201 = .ok (.bipush 48, 2) := by decide +kernel
theorem d_M_adjust_203 : decode b_M_adjust 203 = .ok (.iload 5, 2) := by decide +kernel
theorem d_M_adjust_205 : decode b_M_adjust 205 = .ok (.isub, 1) := by decide +kernel
theorem d_M_adjust_206 : decode b_M_adjust 206 = .ok (.invokevirtual 61, 3) := by decide +kernel
theorem d_M_adjust_209 : decode b_M_adjust 209 = .ok (.aload_n 0, 1) := by decide +kernel
theorem d_M_adjust_210 : decode b_M_adjust 210 = .ok (.iload_n 2, 1) := by decide +kernel
theorem d_M_adjust_211 : decode b_M_adjust 211 = .ok (.iload 5, 2) := by decide +kernel
theorem d_M_adjust_213 : decode b_M_adjust 213 = .ok (.ifCond .ge 7, 3) := by decide +kernel
theorem d_M_adjust_216 : decode b_M_adjust 216 = .ok (.iconst 0, 1) := by decide +kernel
theorem d_M_adjust_217 : decode b_M_adjust 217 = .ok (.goto 5, 3) := by decide +kernel
theorem d_M_adjust_220 : decode b_M_adjust 220 = .ok (.iload 5, 2) := by decide +kernel
theorem d_M_adjust_222 : decode b_M_adjust 222 = .ok (.invokevirtual 72, 3) := by decide +kernel
theorem d_M_adjust_225 : decode b_M_adjust 225 = .ok (.ireturn, 1) := by decide +kernel
theorem d_M_adjust_226 : decode b_M_adjust 226 = .ok (.aload_n 0, 1) := by decide +kernel
theorem d_M_adjust_227 : decode b_M_adjust 227 = .ok (.iload_n 2, 1) := by decide +kernel
theorem d_M_adjust_228 : decode b_M_adjust 228 = .ok (.iload_n 1, 1) := by decide +kernel
theorem d_M_adjust_229 : decode b_M_adjust 229 = .ok (.iconst 3, 1) := by decide +kernel
theorem d_M_adjust_230 : decode b_M_adjust 230 = .ok (.if_icmp .ne 7, 3) := by decide +kernel
theorem d_M_adjust_233 : decode b_M_adjust 233 = .ok (.iconst 1, 1) := by decide +kernel
theorem d_M_adjust_234 : decode b_M_adjust 234 = .ok (.goto 4, 3) := by decide +kernel
theorem d_M_adjust_237 : decode b_M_adjust 237 = .ok (.iconst 0, 1) := by decide +kernel
theorem d_M_adjust_238 : decode b_M_adjust 238 = .ok (.invokevirtual 200, 3) := by decide +kernel
theorem d_M_adjust_241 : decode b_M_adjust 241 = .ok (.ireturn, 1) := by decide +kernel
theorem d_M_adjust_242 : decode b_M_adjust 242 = .ok (.aload_n 0, 1) := by decide +kernel
theorem d_M_adjust_243 : decode b_M_adjust 243 = .ok (.aload_n 0, 1) := by decide +kernel
theorem d_M_adjust_244 : decode b_M_adjust 244 = .ok (.getfield 50, 3) := by decide +kernel
theorem d_M_adjust_247 : decode b_M_adjust 247 = .ok (.ifCond .ne 7, 3) := by decide +kernel
theorem d_M_adjust_250 : decode b_M_adjust 250 = .ok (.iconst 1, 1) := by decide +kernel
theorem d_M_adjust_251 : decode b_M_adjust 251 = .ok (.goto 4, 3) := by decide +kernel
theorem d_M_adjust_254 : decode b_M_adjust 254 = .ok (.iconst 0, 1) := by decide +kernel
theorem d_M_adjust_255 : decode b_M_adjust 255 = .ok (.putfield 50, 3) := by decide +kernel
theorem d_M_adjust_258 : decode b_M_adjust 258 = .ok (.aload_n 0, 1) := by decide +kernel
theorem d_M_adjust_259 : decode b_M_adjust 259 = .ok (.iload_n 2, 1) := by decide +kernel
theorem d_M_adjust_260 : decode b_M_adjust 260 = .ok (.aload_n 0, 1) := by decide +kernel
theorem d_M_adjust_261 : decode b_M_adjust 261 = .ok (.getfield 17, 3) := by decide +kernel
theorem d_M_adjust_264 : decode b_M_adjust 264 = .ok (.iload_n 3, 1) := by decide +kernel
theorem d_M_adjust_265 : decode b_M_adjust 265 = .ok (.iaload, 1) := by decide +kernel
theorem d_M_adjust_266 : decode b_M_adjust 266 = .ok (.invokevirtual 72, 3) := by decide +kernel
theorem d_M_adjust_269 : decode b_M_adjust 269 = .ok (.ireturn, 1) := by decide +kernel
theorem d_M_adjust_270 : decode b_M_adjust 270 = .ok (.aload_n 0, 1) := by decide +kernel
theorem d_M_adjust_271 : decode b_M_adjust 271 = .ok (.iload_n 2, 1) := by decide +kernel
theorem d_M_adjust_272 : decode b_M_adjust 272 = .ok (.aload_n 0, 1) := by decide +kernel
theorem d_M_adjust_273 : decode b_M_adjust 273 = .ok (.invokevirtual 204, 3) := by decide +kernel
theorem d_M_adjust_276 : decode b_M_adjust 276 = .ok (.invokevirtual 72, 3) := by decide +kernel
theorem d_M_adjust_279 : decode b_M_adjust 279 = .ok (.ireturn, 1) := by decide +kernel
theorem d_M_adjust_280 : decode b_M_adjust 280 = .ok (.bipush 16, 2) := by decide +kernel
theorem d_M_adjust_282 : decode b_M_adjust 282 = .ok (.iconst 2, 1) := by decide +kernel
theorem d_M_adjust_283 : decode b_M_adjust 283 = .ok (.aload_n 0, 1) := by decide +kernel
theorem d_M_adjust_284 : decode b_M_adjust 284 = .ok (.iconst 0, 1) := by decide +kernel
theorem d_M_adjust_285 : decode b_M_adjust 285 = .ok (.invokevirtual 102, 3) := by decide +kernel
theorem d_M_adjust_288 : decode b_M_adjust 288 = .ok (.imul, 1) := by decide +kernel
theorem d_M_adjust_289 : decode b_M_adjust 289 = .ok (.isub, 1) := by decide +kernel
theorem d_M_adjust_290 : decode b_M_adjust 290 = .ok (.istore 6, 2) := by decide +kernel
theorem d_M_adjust_292 : decode b_M_adjust 292 = .ok (.aload_n 0, 1) := by decide +kernel
theorem d_M_adjust_293 : decode b_M_adjust 293 = .ok (.getfield 17, 3) := by decide +kernel
theorem d_M_adjust_296 : decode b_M_adjust 296 = .ok (.iload_n 3, 1) := by decide +kernel
theorem d_M_adjust_297 : decode b_M_adjust 297 = .ok (.iaload, 1) := by decide +kernel
theorem d_M_adjust_298 : decode b_M_adjust 298 = .ok (.iload 6, 2) := by decide +kernel
theorem d_M_adjust_300 : decode b_M_adjust 300 = .ok (.if_icmp .le 12, 3) := by decide +kernel
theorem d_M_adjust_303 : decode b_M_adjust 303 = .ok (.aload_n 0, 1) := by decide +kernel
theorem d_M_adjust_304 : decode b_M_adjust 304 = .ok (.getfield 17, 3) := by decide +kernel
theorem d_M_adjust_307 : decode b_M_adjust 307 = .ok (.iload_n 3, 1) := by decide +kernel
theorem d_M_adjust_308 : decode b_M_adjust 308 = .ok (.iaload, 1) := by decide +kernel
theorem d_M_adjust_309 : decode b_M_adjust 309 = .ok (.goto 5, 3) := by decide +kernel
theorem d_M_adjust_312 : decode b_M_adjust 312 = .ok (.iload 6, 2) := by decide +kernel
theorem d_M_adjust_314 : decode b_M_adjust 314 = .ok (.istore 6, 2) := by decide +kernel
theorem d_M_adjust_316 : decode b_M_adjust 316 = .ok (.iload 6, 2) := by decide +kernel
theorem d_M_adjust_318 : decode b_M_adjust 318 = .ok (.bipush 24, 2) := by decide +kernel
theorem d_M_adjust_320 : decode b_M_adjust 320 = .ok (.if_icmp .le 8, 3) := by decide +kernel
theorem d_M_adjust_323 : decode b_M_adjust 323 = .ok (.bipush 24, 2) := by decide +kernel
theorem d_M_adjust_325 : decode b_M_adjust 325 = .ok (.goto 5, 3) := by decide +kernel
theorem d_M_adjust_328 : decode b_M_adjust 328 = .ok (.iload 6, 2) := by decide +kernel
theorem d_M_adjust_330 : decode b_M_adjust 330 = .ok (.istore 6, 2) := by decide +kernel
theorem d_M_adjust_332 : decode b_M_adjust 332 = .ok (.aload_n 0, 1) := by decide +kernel
theorem d_M_adjust_333 : decode b_M_adjust 333 = .ok (.iload 6, 2) := by decide +kernel
theorem d_M_adjust_335 : decode b_M_adjust 335 = .ok (.iconst 1, 1) := by decide +kernel
theorem d_M_adjust_336 : decode b_M_adjust 336 = .ok (.iadd, 1) := by decide +kernel
theorem d_M_adjust_337 : decode b_M_adjust 337 = .ok (.invokevirtual 207, 3) := by decide +kernel
theorem d_M_adjust_340 : decode b_M_adjust 340 = .ok (.aload_n 0, 1) := by decide +kernel
theorem d_M_adjust_341 : decode b_M_adjust 341 = .ok (.iload_n 2, 1) := by decide +kernel
theorem d_M_adjust_342 : decode b_M_adjust 342 = .ok (.iload 6, 2) := by decide +kernel
theorem d_M_adjust_344 : decode b_M_adjust 344 = .ok (.invokevirtual 114, 3) := by decide +kernel
theorem d_M_adjust_347 : decode b_M_adjust 347 = .ok (.ireturn, 1) := by decide +kernel
theorem d_M_toWhole_0 : decode b_M_toWhole 0 = .ok (.iconst 0, 1) := by decide +kernel
theorem d_M_toWhole_1 : decode b_M_toWhole 1 = .ok (.istore_n 3, 1) := by decide +kernel
theorem d_M_toWhole_2 : decode b_M_toWhole 2 = .ok (.iconst 0, 1) := by decide +kernel
theorem d_M_toWhole_3 : decode b_M_toWhole 3 = .ok (.istore 4, 2) := by decide +kernel
theorem d_M_toWhole_5 : decode b_M_toWhole 5 = .ok (.iload 4, 2) := by decide +kernel
theorem d_M_toWhole_7 : decode b_M_toWhole 7 = .ok (.bipush 48, 2) := by decide +kernel
theorem d_M_toWhole_9 : decode b_M_toWhole 9 = .ok (.if_icmp .ge 29, 3) := by decide +kernel
theorem d_M_toWhole_12 : decode b_M_toWhole 12 = .ok (.iload_n 3, 1) := by decide +kernel
theorem d_M_toWhole_13 : decode b_M_toWhole 13 = .ok (.ifCond .ne 13, 3) := by decide +kernel
theorem d_M_toWhole_16 : decode b_M_toWhole 16 = .ok (.aload_n 0, 1) := by decide +kernel
theorem d_M_toWhole_17 : decode b_M_toWhole 17 = .ok (.getfield 41, 3) := by decide +kernel
theorem d_M_toWhole_20 : decode b_M_toWhole 20 = .ok (.iload 4, 2) := by decide +kernel
theorem d_M_toWhole_22 : decode b_M_toWhole 22 = .ok (.iaload, 1) := by decide +kernel
theorem d_M_toWhole_23 : decode b_M_toWhole 23 = .ok (.ifCond .eq 7, 3) := by decide +kernel
theorem d_M_toWhole_26 : decode b_M_toWhole 26 = .ok (.iconst 1, 1) := by decide +kernel
theorem d_M_toWhole_27 : decode b_M_toWhole 27 = .ok (.goto 4, 3) := by decide +kernel
theorem d_M_toWhole_30 : decode b_M_toWhole 30 = .ok (.iconst 0, 1) := by decide +kernel
theorem d_M_toWhole_31 : decode b_M_toWhole 31 = .ok (.istore_n 3, 1) := by decide +kernel
theorem d_M_toWhole_32 : decode b_M_toWhole 32 = .ok (.iinc 4 1, 3) := by decide +kernel
theorem d_M_toWhole_35 : decode b_M_toWhole 35 = .ok (.goto (-30), 3) := by decide +kernel
theorem d_M_toWhole_38 : decode b_M_toWhole 38 = .ok (.aload_n 0, 1) := by decide +kernel
theorem d_M_toWhole_39 : decode b_M_toWhole 39 = .ok (.bipush 48, 2) := by decide +kernel
theorem d_M_toWhole_41 : decode b_M_toWhole 41 = .ok (.invokevirtual 61, 3) := by decide +kernel
theorem d_M_toWhole_44 : decode b_M_toWhole 44 = .ok (.aload_n 0, 1) := by decide +kernel
theorem d_M_toWhole_45 : decode b_M_toWhole 45 = .ok (.getfield 41, 3) := by decide +kernel
theorem d_M_toWhole_48 : decode b_M_toWhole 48 = .ok (.bipush 48, 2) := by decide +kernel
theorem d_M_toWhole_50 : decode b_M_toWhole 50 = .ok (.dup2, 1) := by decide +kernel
theorem d_M_toWhole_51 : decode b_M_toWhole 51 = .ok (.iaload, 1) := by decide +kernel
theorem d_M_toWhole_52 : decode b_M_toWhole 52 = .ok (.iload_n 3, 1) := by decide +kernel
theorem d_M_toWhole_53 : decode b_M_toWhole 53 = .ok (.ifCond .eq 15, 3) := by decide +kernel
theorem d_M_toWhole_56 : decode b_M_toWhole 56 = .ok (.aload_n 0, 1) := by decide +kernel
theorem d_M_toWhole_57 : decode b_M_toWhole 57 = .ok (.getfield 50, 3) := by decide +kernel
theorem d_M_toWhole_60 : decode b_M_toWhole 60 = .ok (.iload_n 2, 1) := by decide +kernel
theorem d_M_toWhole_61 : decode b_M_toWhole 61 = .ok (.if_icmp .ne 7, 3) := by decide +kernel
theorem d_M_toWhole_64 : decode b_M_toWhole 64 = .ok (.iconst 1, 1) := by decide +kernel
theorem d_M_toWhole_65 : decode b_M_toWhole 65 = .ok (.goto 4, 3) := by decide +kernel
theorem d_M_toWhole_68 : decode b_M_toWhole 68 = .ok (.iconst 0, 1) := by decide +kernel
theorem d_M_toWhole_69 : decode b_M_toWhole 69 = .ok (.iadd, 1) := by decide +kernel
theorem d_M_toWhole_70 : decode b_M_toWhole 70 = .ok (.iastore, 1) := by decide +kernel
theorem d_M_toWhole_71 : decode b_M_toWhole 71 = .ok (.aload_n 0, 1) := by decide +kernel
theorem d_M_toWhole_72 : decode b_M_toWhole 72 = .ok (.invokevirtual 58, 3) := by decide +kernel
theorem d_M_toWhole_75 : decode b_M_toWhole 75 = .ok (.aload_n 0, 1) := by decide +kernel
theorem d_M_toWhole_76 : decode b_M_toWhole 76 = .ok (.iload_n 1, 1) := by decide +kernel
theorem d_M_toWhole_77 : decode b_M_toWhole 77 = .ok (.iconst 0, 1) := by decide +kernel
theorem d_M_toWhole_78 : decode b_M_toWhole 78 = .ok (.invokevirtual 72, 3) := by decide +kernel
theorem d_M_toWhole_81 : decode b_M_toWhole 81 = .ok (.ireturn, 1) := by decide +kernel
theorem d_M_least_0 : decode b_M_least 0 = .ok (.iconst 0, 1) := by decide +kernel
theorem d_M_least_1 : decode b_M_least 1 = .ok (.istore_n 1, 1) := by decide +kernel
theorem d_M_least_2 : decode b_M_least 2 = .ok (.iconst 1, 1) := by decide +kernel
theorem d_M_least_3 : decode b_M_least 3 = .ok (.istore_n 2, 1) := by decide +kernel
theorem d_M_least_4 : decode b_M_least 4 = .ok (.iload_n 2, 1) := by decide +kernel
theorem d_M_least_5 : decode b_M_least 5 = .ok (.bipush 24, 2) := by decide +kernel
theorem d_M_least_7 : decode b_M_least 7 = .ok (.if_icmp .gt 27, 3) := by decide +kernel
theorem d_M_least_10 : decode b_M_least 10 = .ok (.aload_n 0, 1) := by decide +kernel
theorem d_M_least_11 : decode b_M_least 11 = .ok (.getfield 41, 3) := by decide +kernel
theorem d_M_least_14 : decode b_M_least 14 = .ok (.bipush 48, 2) := by decide +kernel
theorem d_M_least_16 : decode b_M_least 16 = .ok (.iload_n 2, 1) := by decide +kernel
theorem d_M_least_17 : decode b_M_least 17 = .ok (.isub, 1) := by decide +kernel
theorem d_M_least_18 : decode b_M_least 18 = .ok (.iaload, 1) := by decide +kernel
theorem d_M_least_19 : decode b_M_least 19 = .ok (.ifCond .eq 7, 3) := by decide +kernel
theorem d_M_least_22 : decode b_M_least 22 = .ok (.iload_n 2, 1) := by decide +kernel
theorem d_M_least_23 : decode b_M_least 23 = .ok (.goto 4, 3) := by decide +kernel
theorem d_M_least_26 : decode b_M_least 26 = .ok (.iload_n 1, 1) := by decide +kernel
theorem d_M_least_27 : decode b_M_least 27 = .ok (.istore_n 1, 1) := by decide +kernel
theorem d_M_least_28 : decode b_M_least 28 = .ok (.iinc 2 1, 3) := by decide +kernel
theorem d_M_least_31 : decode b_M_least 31 = .ok (.goto (-27), 3) := by decide +kernel
theorem d_M_least_34 : decode b_M_least 34 = .ok (.iload_n 1, 1) := by decide +kernel
theorem d_M_least_35 : decode b_M_least 35 = .ok (.ireturn, 1) := by decide +kernel
theorem d_M_fit_0 : decode b_M_fit 0 = .ok (.aload_n 0, 1) := by decide +kernel
theorem d_M_fit_1 : decode b_M_fit 1 = .ok (.iload_n 1, 1) := by decide +kernel
theorem d_M_fit_2 : decode b_M_fit 2 = .ok (.bipush 7, 2) := by decide +kernel
theorem d_M_fit_4 : decode b_M_fit 4 = .ok (.invokevirtual 135, 3) := by decide +kernel
theorem d_M_fit_7 : decode b_M_fit 7 = .ok (.ifCond .ne 26, 3) := by decide +kernel
theorem d_M_fit_10 : decode b_M_fit 10 = .ok (.iload_n 2, 1) := by decide +kernel
theorem d_M_fit_11 : decode b_M_fit 11 = .ok (.iconst 1, 1) := by decide +kernel
theorem d_M_fit_12 : decode b_M_fit 12 = .ok (.if_icmp .lt 21, 3) := by decide +kernel
theorem d_M_fit_15 : decode b_M_fit 15 = .ok (.iload_n 2, 1) := by decide +kernel
theorem d_M_fit_16 : decode b_M_fit 16 = .ok (.bipush 56, 2) := by decide +kernel
theorem d_M_fit_18 : decode b_M_fit 18 = .ok (.if_icmp .gt 15, 3) := by decide +kernel
theorem d_M_fit_21 : decode b_M_fit 21 = .ok (.iload_n 3, 1) := by decide +kernel
theorem d_M_fit_22 : decode b_M_fit 22 = .ok (.bipush (-32), 2) := by decide +kernel
theorem d_M_fit_24 : decode b_M_fit 24 = .ok (.if_icmp .lt 9, 3) := by decide +kernel
theorem d_M_fit_27 : decode b_M_fit 27 = .ok (.iload_n 3, 1) := by decide +kernel
theorem d_M_fit_28 : decode b_M_fit 28 = .ok (.bipush 24, 2) := by decide +kernel
theorem d_M_fit_30 : decode b_M_fit 30 = .ok (.if_icmp .le 5, 3) := by decide +kernel
theorem d_M_fit_33 : decode b_M_fit 33 = .ok (.iconst (-1), 1) := by decide +kernel
theorem d_M_fit_34 : decode b_M_fit 34 = .ok (.ireturn, 1) := by decide +kernel
theorem d_M_fit_35 : decode b_M_fit 35 = .ok (.aload_n 0, 1) := by decide +kernel
theorem d_M_fit_36 : decode b_M_fit 36 = .ok (.getfield 7, 3) := by decide +kernel
theorem d_M_fit_39 : decode b_M_fit 39 = .ok (.iload_n 1, 1) := by decide +kernel
theorem d_M_fit_40 : decode b_M_fit 40 = .ok (.iaload, 1) := by decide +kernel
theorem d_M_fit_41 : decode b_M_fit 41 = .ok (.ifCond .eq 20, 3) := by decide +kernel
theorem d_M_fit_44 : decode b_M_fit 44 = .ok (.aload_n 0, 1) := by decide +kernel
theorem d_M_fit_45 : decode b_M_fit 45 = .ok (.getfield 7, 3) := by decide +kernel
theorem d_M_fit_48 : decode b_M_fit 48 = .ok (.iload_n 1, 1) := by decide +kernel
theorem d_M_fit_49 : decode b_M_fit 49 = .ok (.iaload, 1) := by decide +kernel
theorem d_M_fit_50 : decode b_M_fit 50 = .ok (.iconst 1, 1) := by decide +kernel
theorem d_M_fit_51 : decode b_M_fit 51 = .ok (.if_icmp .ne 7, 3) := by decide +kernel
theorem d_M_fit_54 : decode b_M_fit 54 = .ok (.iconst 0, 1) := by decide +kernel
theorem d_M_fit_55 : decode b_M_fit 55 = .ok (.goto 5, 3) := by decide +kernel
theorem d_M_fit_58 : decode b_M_fit 58 = .ok (.bipush (-3), 2) := by decide +kernel
theorem d_M_fit_60 : decode b_M_fit 60 = .ok (.ireturn, 1) := by decide +kernel
theorem d_M_fit_61 : decode b_M_fit 61 = .ok (.aload_n 0, 1) := by decide +kernel
theorem d_M_fit_62 : decode b_M_fit 62 = .ok (.iload_n 1, 1) := by decide +kernel
theorem d_M_fit_63 : decode b_M_fit 63 = .ok (.invokevirtual 168, 3) := by decide +kernel
theorem d_M_fit_66 : decode b_M_fit 66 = .ok (.aload_n 0, 1) := by decide +kernel
theorem d_M_fit_67 : decode b_M_fit 67 = .ok (.invokevirtual 197, 3) := by decide +kernel
theorem d_M_fit_70 : decode b_M_fit 70 = .ok (.aload_n 0, 1) := by decide +kernel
theorem d_M_fit_71 : decode b_M_fit 71 = .ok (.iload_n 3, 1) := by decide +kernel
theorem d_M_fit_72 : decode b_M_fit 72 = .ok (.invokevirtual 69, 3) := by decide +kernel
theorem d_M_fit_75 : decode b_M_fit 75 = .ok (.aload_n 0, 1) := by decide +kernel
theorem d_M_fit_76 : decode b_M_fit 76 = .ok (.bipush 48, 2) := by decide +kernel
theorem d_M_fit_78 : decode b_M_fit 78 = .ok (.iload_n 2, 1) := by decide +kernel
theorem d_M_fit_79 : decode b_M_fit 79 = .ok (.iadd, 1) := by decide +kernel
theorem d_M_fit_80 : decode b_M_fit 80 = .ok (.iload_n 3, 1) := by decide +kernel
theorem d_M_fit_81 : decode b_M_fit 81 = .ok (.isub, 1) := by decide +kernel
theorem d_M_fit_82 : decode b_M_fit 82 = .ok (.invokevirtual 65, 3) := by decide +kernel
theorem d_M_fit_85 : decode b_M_fit 85 = .ok (.ifCond .eq 8, 3) := by decide +kernel
theorem d_M_fit_88 : decode b_M_fit 88 = .ok (.bipush (-3), 2) := by decide +kernel
theorem d_M_fit_90 : decode b_M_fit 90 = .ok (.goto 17, 3) := by decide +kernel
theorem d_M_fit_93 : decode b_M_fit 93 = .ok (.aload_n 0, 1) := by decide +kernel
theorem d_M_fit_94 : decode b_M_fit 94 = .ok (.iload_n 1, 1) := by decide +kernel
theorem d_M_fit_95 : decode b_M_fit 95 = .ok (.iload_n 3, 1) := by decide +kernel
theorem d_M_fit_96 : decode b_M_fit 96 = .ok (.ifCond .ge 7, 3) := by decide +kernel
theorem d_M_fit_99 : decode b_M_fit 99 = .ok (.iconst 0, 1) := by decide +kernel
theorem d_M_fit_100 : decode b_M_fit 100 = .ok (.goto 4, 3) := by decide +kernel
theorem d_M_fit_103 : decode b_M_fit 103 = .ok (.iload_n 3, 1) := by decide +kernel
theorem d_M_fit_104 : decode b_M_fit 104 = .ok (.invokevirtual 72, 3) := by decide +kernel
theorem d_M_fit_107 : decode b_M_fit 107 = .ok (.ireturn, 1) := by decide +kernel
theorem d_M_rank_0 : decode b_M_rank 0 = .ok (.aload_n 0, 1) := by decide +kernel
theorem d_M_rank_1 : decode b_M_rank 1 = .ok (.getfield 7, 3) := by decide +kernel
theorem d_M_rank_4 : decode b_M_rank 4 = .ok (.iload_n 1, 1) := by decide +kernel
theorem d_M_rank_5 : decode b_M_rank 5 = .ok (.iaload, 1) := by decide +kernel
theorem d_M_rank_6 : decode b_M_rank 6 = .ok (.iconst 3, 1) := by decide +kernel
theorem d_M_rank_7 : decode b_M_rank 7 = .ok (.if_icmp .ne 7, 3) := by decide +kernel
theorem d_M_rank_10 : decode b_M_rank 10 = .ok (.iconst 0, 1) := by decide +kernel
theorem d_M_rank_11 : decode b_M_rank 11 = .ok (.goto 31, 3) := by decide +kernel
theorem d_M_rank_14 : decode b_M_rank 14 = .ok (.aload_n 0, 1) := by decide +kernel
theorem d_M_rank_15 : decode b_M_rank 15 = .ok (.getfield 7, 3) := by decide +kernel
theorem d_M_rank_18 : decode b_M_rank 18 = .ok (.iload_n 1, 1) := by decide +kernel
theorem d_M_rank_19 : decode b_M_rank 19 = .ok (.iaload, 1) := by decide +kernel
theorem d_M_rank_20 : decode b_M_rank 20 = .ok (.ifCond .ne 7, 3) := by decide +kernel
theorem d_M_rank_23 : decode b_M_rank 23 = .ok (.iconst 1, 1) := by decide +kernel
theorem d_M_rank_24 : decode b_M_rank 24 = .ok (.goto 18, 3) := by decide +kernel
theorem d_M_rank_27 : decode b_M_rank 27 = .ok (.aload_n 0, 1) := by decide +kernel
theorem d_M_rank_28 : decode b_M_rank 28 = .ok (.getfield 7, 3) := by decide +kernel
theorem d_M_rank_31 : decode b_M_rank 31 = .ok (.iload_n 1, 1) := by decide +kernel
theorem d_M_rank_32 : decode b_M_rank 32 = .ok (.iaload, 1) := by decide +kernel
theorem d_M_rank_33 : decode b_M_rank 33 = .ok (.iconst 2, 1) := by decide +kernel
theorem d_M_rank_34 : decode b_M_rank 34 = .ok (.if_icmp .ne 7, 3) := by decide +kernel
theorem d_M_rank_37 : decode b_M_rank 37 = .ok (.iconst 2, 1) := by decide +kernel
theorem d_M_rank_38 : decode b_M_rank 38 = .ok (.goto 4, 3) := by decide +kernel
theorem d_M_rank_41 : decode b_M_rank 41 = .ok (.iconst 3, 1) := by decide +kernel
theorem d_M_rank_42 : decode b_M_rank 42 = .ok (.ireturn, 1) := by decide +kernel
theorem d_M_compare_0 : decode b_M_compare 0 = .ok (.aload_n 0, 1) := by decide +kernel
theorem d_M_compare_1 : decode b_M_compare 1 = .ok (.iload_n 1, 1) := by decide +kernel
theorem d_M_compare_2 : decode b_M_compare 2 = .ok (.bipush 7, 2) := by decide +kernel
theorem d_M_compare_4 : decode b_M_compare 4 = .ok (.invokevirtual 135, 3) := by decide +kernel
theorem d_M_compare_7 : decode b_M_compare 7 = .ok (.ifCond .ne 13, 3) := by decide +kernel
theorem d_M_compare_10 : decode b_M_compare 10 = .ok (.aload_n 0, 1) := by decide +kernel
theorem d_M_compare_11 : decode b_M_compare 11 = .ok (.iload_n 2, 1) := by decide +kernel
theorem d_M_compare_12 : decode b_M_compare 12 = .ok (.bipush 7, 2) := by decide +kernel
theorem d_M_compare_14 : decode b_M_compare 14 = .ok (.invokevirtual 135, 3) := by decide +kernel
theorem d_M_compare_17 : decode b_M_compare 17 = .ok (.ifCond .eq 6, 3) := by decide +kernel
theorem d_M_compare_20 : decode b_M_compare 20 = .ok (.bipush (-2), 2) := by decide +kernel
theorem d_M_compare_22 : decode b_M_compare 22 = .ok (.ireturn, 1) := by decide +kernel
theorem d_M_compare_23 : decode b_M_compare 23 = .ok (.aload_n 0, 1) := by decide +kernel
theorem d_M_compare_24 : decode b_M_compare 24 = .ok (.getfield 7, 3) := by decide +kernel
theorem d_M_compare_27 : decode b_M_compare 27 = .ok (.iload_n 1, 1) := by decide +kernel
theorem d_M_compare_28 : decode b_M_compare 28 = .ok (.iaload, 1) := by decide +kernel
theorem d_M_compare_29 : decode b_M_compare 29 = .ok (.ifCond .ne 12, 3) := by decide +kernel
theorem d_M_compare_32 : decode b_M_compare 32 = .ok (.aload_n 0, 1) := by decide +kernel
theorem d_M_compare_33 : decode b_M_compare 33 = .ok (.getfield 7, 3) := by decide +kernel
theorem d_M_compare_36 : decode b_M_compare 36 = .ok (.iload_n 2, 1) := by decide +kernel
theorem d_M_compare_37 : decode b_M_compare 37 = .ok (.iaload, 1) := by decide +kernel
theorem d_M_compare_38 : decode b_M_compare 38 = .ok (.ifCond .eq 39, 3) := by decide +kernel
theorem d_M_compare_41 : decode b_M_compare 41 = .ok (.aload_n 0, 1) := by decide +kernel
theorem d_M_compare_42 : decode b_M_compare 42 = .ok (.iload_n 1, 1) := by decide +kernel
theorem d_M_compare_43 : decode b_M_compare 43 = .ok (.invokevirtual 210, 3) := by decide +kernel
theorem d_M_compare_46 : decode b_M_compare 46 = .ok (.aload_n 0, 1) := by decide +kernel
theorem d_M_compare_47 : decode b_M_compare 47 = .ok (.iload_n 2, 1) := by decide +kernel
theorem d_M_compare_48 : decode b_M_compare 48 = .ok (.invokevirtual 210, 3) := by decide +kernel
theorem d_M_compare_51 : decode b_M_compare 51 = .ok (.if_icmp .ge 7, 3) := by decide +kernel
theorem d_M_compare_54 : decode b_M_compare 54 = .ok (.iconst (-1), 1) := by decide +kernel
theorem d_M_compare_55 : decode b_M_compare 55 = .ok (.goto 21, 3) := by decide +kernel
theorem d_M_compare_58 : decode b_M_compare 58 = .ok (.aload_n 0, 1) := by decide +kernel
theorem d_M_compare_59 : decode b_M_compare 59 = .ok (.iload_n 1, 1) := by decide +kernel
theorem d_M_compare_60 : decode b_M_compare 60 = .ok (.invokevirtual 210, 3) := by decide +kernel
theorem d_M_compare_63 : decode b_M_compare 63 = .ok (.aload_n 0, 1) := by decide +kernel
theorem d_M_compare_64 : decode b_M_compare 64 = .ok (.iload_n 2, 1) := by decide +kernel
theorem d_M_compare_65 : decode b_M_compare 65 = .ok (.invokevirtual 210, 3) := by decide +kernel
theorem d_M_compare_68 : decode b_M_compare 68 = .ok (.if_icmp .le 7, 3) := by decide +kernel
theorem d_M_compare_71 : decode b_M_compare 71 = .ok (.iconst 1, 1) := by decide +kernel
theorem d_M_compare_72 : decode b_M_compare 72 = .ok (.goto 4, 3) := by decide +kernel
theorem d_M_compare_75 : decode b_M_compare 75 = .ok (.iconst 0, 1) := by decide +kernel
theorem d_M_compare_76 : decode b_M_compare 76 = .ok (.ireturn, 1) := by decide +kernel
theorem d_M_compare_77 : decode b_M_compare 77 = .ok (.aload_n 0, 1) := by decide +kernel
theorem d_M_compare_78 : decode b_M_compare 78 = .ok (.iload_n 1, 1) := by decide +kernel
theorem d_M_compare_79 : decode b_M_compare 79 = .ok (.invokevirtual 168, 3) := by decide +kernel
theorem d_M_compare_82 : decode b_M_compare 82 = .ok (.aload_n 0, 1) := by decide +kernel
theorem d_M_compare_83 : decode b_M_compare 83 = .ok (.iload_n 2, 1) := by decide +kernel
theorem d_M_compare_84 : decode b_M_compare 84 = .ok (.invokevirtual 171, 3) := by decide +kernel
theorem d_M_compare_87 : decode b_M_compare 87 = .ok (.bipush 55, 2) := by decide +kernel
theorem d_M_compare_89 : decode b_M_compare 89 = .ok (.istore_n 3, 1) := by decide +kernel
theorem d_M_compare_90 : decode b_M_compare 90 = .ok (.iload_n 3, 1) := by decide +kernel
theorem d_M_compare_91 : decode b_M_compare 91 = .ok (.ifCond .lt 79, 3) := by decide +kernel
theorem d_M_compare_94 : decode b_M_compare 94 = .ok (.aload_n 0, 1) := by decide +kernel
theorem d_M_compare_95 : decode b_M_compare 95 = .ok (.getfield 76, 3) := by decide +kernel
theorem d_M_compare_98 : decode b_M_compare 98 = .ok (.ifCond .eq 13, 3) := by decide +kernel
theorem d_M_compare_101 : decode b_M_compare 101 = .ok (.aload_n 0, 1) := by decide +kernel
theorem d_M_compare_102 : decode b_M_compare 102 = .ok (.getfield 35, 3) := by decide +kernel
theorem d_M_compare_105 : decode b_M_compare 105 = .ok (.iload_n 3, 1) := by decide +kernel
theorem d_M_compare_106 : decode b_M_compare 106 = .ok (.iaload, 1) := by decide +kernel
theorem d_M_compare_107 : decode b_M_compare 107 = .ok (.ineg, 1) := by decide +kernel
theorem d_M_compare_108 : decode b_M_compare 108 = .ok (.goto 9, 3) := by decide +kernel
theorem d_M_compare_111 : decode b_M_compare 111 = .ok (.aload_n 0, 1) := by decide +kernel
theorem d_M_compare_112 : decode b_M_compare 112 = .ok (.getfield 35, 3) := by decide +kernel
theorem d_M_compare_115 : decode b_M_compare 115 = .ok (.iload_n 3, 1) := by decide +kernel
theorem d_M_compare_116 : decode b_M_compare 116 = .ok (.iaload, 1) := by decide +kernel
theorem d_M_compare_117 : decode b_M_compare 117 = .ok (.istore 4, 2) := by decide +kernel
theorem d_M_compare_119 : decode b_M_compare 119 = .ok (.aload_n 0, 1) := by decide +kernel
theorem d_M_compare_120 : decode b_M_compare 120 = .ok (.getfield 79, 3) := by decide +kernel
theorem d_M_compare_123 : decode b_M_compare 123 = .ok (.ifCond .eq 13, 3) := by decide +kernel
theorem d_M_compare_126 : decode b_M_compare 126 = .ok (.aload_n 0, 1) := by decide +kernel
theorem d_M_compare_127 : decode b_M_compare 127 = .ok (.getfield 38, 3) := by decide +kernel
theorem d_M_compare_130 : decode b_M_compare 130 = .ok (.iload_n 3, 1) := by decide +kernel
theorem d_M_compare_131 : decode b_M_compare 131 = .ok (.iaload, 1) := by decide +kernel
theorem d_M_compare_132 : decode b_M_compare 132 = .ok (.ineg, 1) := by decide +kernel
theorem d_M_compare_133 : decode b_M_compare 133 = .ok (.goto 9, 3) := by decide +kernel
theorem d_M_compare_136 : decode b_M_compare 136 = .ok (.aload_n 0, 1) := by decide +kernel
theorem d_M_compare_137 : decode b_M_compare 137 = .ok (.getfield 38, 3) := by decide +kernel
theorem d_M_compare_140 : decode b_M_compare 140 = .ok (.iload_n 3, 1) := by decide +kernel
theorem d_M_compare_141 : decode b_M_compare 141 = .ok (.iaload, 1) := by decide +kernel
theorem d_M_compare_142 : decode b_M_compare 142 = .ok (.istore 5, 2) := by decide +kernel
theorem d_M_compare_144 : decode b_M_compare 144 = .ok (.iload 4, 2) := by decide +kernel
theorem d_M_compare_146 : decode b_M_compare 146 = .ok (.iload 5, 2) := by decide +kernel
theorem d_M_compare_148 : decode b_M_compare 148 = .ok (.if_icmp .eq 16, 3) := by decide +kernel
theorem d_M_compare_151 : decode b_M_compare 151 = .ok (.iload 4, 2) := by decide +kernel
theorem d_M_compare_153 : decode b_M_compare 153 = .ok (.iload 5, 2) := by decide +kernel
theorem d_M_compare_155 : decode b_M_compare 155 = .ok (.if_icmp .ge 7, 3) := by decide +kernel
theorem d_M_compare_158 : decode b_M_compare 158 = .ok (.iconst (-1), 1) := by decide +kernel
theorem d_M_compare_159 : decode b_M_compare 159 = .ok (.goto 4, 3) := by decide +kernel
theorem d_M_compare_162 : decode b_M_compare 162 = .ok (.iconst 1, 1) := by decide +kernel
theorem d_M_compare_163 : decode b_M_compare 163 = .ok (.ireturn, 1) := by decide +kernel
theorem d_M_compare_164 : decode b_M_compare 164 = .ok (.iinc 3 (-1), 3) := by decide +kernel
theorem d_M_compare_167 : decode b_M_compare 167 = .ok (.goto (-77), 3) := by decide +kernel
theorem d_M_compare_170 : decode b_M_compare 170 = .ok (.iconst 0, 1) := by decide +kernel
theorem d_M_compare_171 : decode b_M_compare 171 = .ok (.ireturn, 1) := by decide +kernel
theorem d_M_place_0 : decode b_M_place 0 = .ok (.bipush 28, 2) := by decide +kernel
theorem d_M_place_2 : decode b_M_place 2 = .ok (.iload_n 1, 1) := by decide +kernel
theorem d_M_place_3 : decode b_M_place 3 = .ok (.imul, 1) := by decide +kernel
theorem d_M_place_4 : decode b_M_place 4 = .ok (.aload_n 0, 1) := by decide +kernel
theorem d_M_place_5 : decode b_M_place 5 = .ok (.getfield 7, 3) := by decide +kernel
theorem d_M_place_8 : decode b_M_place 8 = .ok (.iload_n 2, 1) := by decide +kernel
theorem d_M_place_9 : decode b_M_place 9 = .ok (.iaload, 1) := by decide +kernel
theorem d_M_place_10 : decode b_M_place 10 = .ok (.ifCond .ne 12, 3) := by decide +kernel
theorem d_M_place_13 : decode b_M_place 13 = .ok (.aload_n 0, 1) := by decide +kernel
theorem d_M_place_14 : decode b_M_place 14 = .ok (.getfield 17, 3) := by decide +kernel
theorem d_M_place_17 : decode b_M_place 17 = .ok (.iload_n 2, 1) := by decide +kernel
theorem d_M_place_18 : decode b_M_place 18 = .ok (.iaload, 1) := by decide +kernel
theorem d_M_place_19 : decode b_M_place 19 = .ok (.goto 12, 3) := by decide +kernel
theorem d_M_place_22 : decode b_M_place 22 = .ok (.bipush 24, 2) := by decide +kernel
theorem d_M_place_24 : decode b_M_place 24 = .ok (.aload_n 0, 1) := by decide +kernel
theorem d_M_place_25 : decode b_M_place 25 = .ok (.getfield 7, 3) := by decide +kernel
theorem d_M_place_28 : decode b_M_place 28 = .ok (.iload_n 2, 1) := by decide +kernel
theorem d_M_place_29 : decode b_M_place 29 = .ok (.iaload, 1) := by decide +kernel
theorem d_M_place_30 : decode b_M_place 30 = .ok (.iadd, 1) := by decide +kernel
theorem d_M_place_31 : decode b_M_place 31 = .ok (.iadd, 1) := by decide +kernel
theorem d_M_place_32 : decode b_M_place 32 = .ok (.ireturn, 1) := by decide +kernel
theorem d_M_gather_0 : decode b_M_gather 0 = .ok (.iconst 0, 1) := by decide +kernel
theorem d_M_gather_1 : decode b_M_gather 1 = .ok (.istore 4, 2) := by decide +kernel
theorem d_M_gather_3 : decode b_M_gather 3 = .ok (.iload 4, 2) := by decide +kernel
theorem d_M_gather_5 : decode b_M_gather 5 = .ok (.bipush 56, 2) := by decide +kernel
theorem d_M_gather_7 : decode b_M_gather 7 = .ok (.if_icmp .ge 65, 3) := by decide +kernel
theorem d_M_gather_10 : decode b_M_gather 10 = .ok (.aload_n 0, 1) := by decide +kernel
theorem d_M_gather_11 : decode b_M_gather 11 = .ok (.getfield 7, 3) := by decide +kernel
theorem d_M_gather_14 : decode b_M_gather 14 = .ok (.iload_n 2, 1) := by decide +kernel
theorem d_M_gather_15 : decode b_M_gather 15 = .ok (.iaload, 1) := by decide +kernel
theorem d_M_gather_16 : decode b_M_gather 16 = .ok (.ifCond .ne 56, 3) := by decide +kernel
theorem d_M_gather_19 : decode b_M_gather 19 = .ok (.aload_n 0, 1) := by decide +kernel
theorem d_M_gather_20 : decode b_M_gather 20 = .ok (.getfield 20, 3) := by decide +kernel
theorem d_M_gather_23 : decode b_M_gather 23 = .ok (.bipush 56, 2) := by decide +kernel
theorem d_M_gather_25 : decode b_M_gather 25 = .ok (.iload_n 2, 1) := by decide +kernel
theorem d_M_gather_26 : decode b_M_gather 26 = .ok (.imul, 1) := by decide +kernel
theorem d_M_gather_27 : decode b_M_gather 27 = .ok (.iload 4, 2) := by decide +kernel
theorem d_M_gather_29 : decode b_M_gather 29 = .ok (.iadd, 1) := by decide +kernel
theorem d_M_gather_30 : decode b_M_gather 30 = .ok (.iaload, 1) := by decide +kernel
theorem d_M_gather_31 : decode b_M_gather 31 = .ok (.istore 5, 2) := by decide +kernel
theorem d_M_gather_33 : decode b_M_gather 33 = .ok (.aload_n 0, 1) := by decide +kernel
theorem d_M_gather_34 : decode b_M_gather 34 = .ok (.getfield 26, 3) := by decide +kernel
theorem d_M_gather_37 : decode b_M_gather 37 = .ok (.bipush 56, 2) := by decide +kernel
theorem d_M_gather_39 : decode b_M_gather 39 = .ok (.iload_n 1, 1) := by decide +kernel
theorem d_M_gather_40 : decode b_M_gather 40 = .ok (.imul, 1) := by decide +kernel
theorem d_M_gather_41 : decode b_M_gather 41 = .ok (.iload 4, 2) := by decide +kernel
theorem d_M_gather_43 : decode b_M_gather 43 = .ok (.iadd, 1) := by decide +kernel
theorem d_M_gather_44 : decode b_M_gather 44 = .ok (.dup2, 1) := by decide +kernel
theorem d_M_gather_45 : decode b_M_gather 45 = .ok (.iaload, 1) := by decide +kernel
theorem d_M_gather_46 : decode b_M_gather 46 = .ok (.aload_n 0, 1) := by decide +kernel
theorem d_M_gather_47 : decode b_M_gather 47 = .ok (.getfield 13, 3) := by decide +kernel
theorem d_M_gather_50 : decode b_M_gather 50 = .ok (.iload_n 2, 1) := by decide +kernel
theorem d_M_gather_51 : decode b_M_gather 51 = .ok (.baload, 1) := by decide +kernel
theorem d_M_gather_52 : decode b_M_gather 52 = .ok (.iload_n 3, 1) := by decide +kernel
theorem d_M_gather_53 : decode b_M_gather 53 = .ok (.if_icmp .eq 9, 3) := by decide +kernel
theorem d_M_gather_56 : decode b_M_gather 56 = .ok (.iload 5, 2) := by decide +kernel
theorem d_M_gather_58 : decode b_M_gather 58 = .ok (.ineg, 1) := by decide +kernel
theorem d_M_gather_59 : decode b_M_gather 59 = .ok (.goto 5, 3) := by decide +kernel
theorem d_M_gather_62 : decode b_M_gather 62 = .ok (.iload 5, 2) := by decide +kernel
theorem d_M_gather_64 : decode b_M_gather 64 = .ok (.iadd, 1) := by decide +kernel
theorem d_M_gather_65 : decode b_M_gather 65 = .ok (.iastore, 1) := by decide +kernel
theorem d_M_gather_66 : decode b_M_gather 66 = .ok (.iinc 4 1, 3) := by decide +kernel
theorem d_M_gather_69 : decode b_M_gather 69 = .ok (.goto (-66), 3) := by decide +kernel
theorem d_M_gather_72 : decode b_M_gather 72 = .ok (.aload_n 0, 1) := by decide +kernel
theorem d_M_gather_73 : decode b_M_gather 73 = .ok (.getfield 32, 3) := by decide +kernel
theorem d_M_gather_76 : decode b_M_gather 76 = .ok (.aload_n 0, 1) := by decide +kernel
theorem d_M_gather_77 : decode b_M_gather 77 = .ok (.iload_n 1, 1) := by decide +kernel
theorem d_M_gather_78 : decode b_M_gather 78 = .ok (.iload_n 2, 1) := by decide +kernel
theorem d_M_gather_79 : decode b_M_gather 79 = .ok (.invokevirtual 213, 3) := by decide +kernel
theorem d_M_gather_82 : decode b_M_gather 82 = .ok (.dup2, 1) := by decide +kernel
theorem d_M_gather_83 : decode b_M_gather 83 = .ok (.iaload, 1) := by decide +kernel
theorem d_M_gather_84 : decode b_M_gather 84 = .ok (.iload_n 3, 1) := by decide +kernel
theorem d_M_gather_85 : decode b_M_gather 85 = .ok (.ifCond .eq 7, 3) := by decide +kernel
theorem d_M_gather_88 : decode b_M_gather 88 = .ok (.iconst (-1), 1) := by decide +kernel
theorem d_M_gather_89 : decode b_M_gather 89 = .ok (.goto 4, 3) := by decide +kernel
theorem d_M_gather_92 : decode b_M_gather 92 = .ok (.iconst 1, 1) := by decide +kernel
theorem d_M_gather_93 : decode b_M_gather 93 = .ok (.iadd, 1) := by decide +kernel
theorem d_M_gather_94 : decode b_M_gather 94 = .ok (.iastore, 1) := by decide +kernel
theorem d_M_gather_95 : decode b_M_gather 95 = .ok (.aload_n 0, 1) := by decide +kernel
theorem d_M_gather_96 : decode b_M_gather 96 = .ok (.getfield 29, 3) := by decide +kernel
theorem d_M_gather_99 : decode b_M_gather 99 = .ok (.iload_n 1, 1) := by decide +kernel
theorem d_M_gather_100 : decode b_M_gather 100 = .ok (.dup2, 1) := by decide +kernel
theorem d_M_gather_101 : decode b_M_gather 101 = .ok (.iaload, 1) := by decide +kernel
theorem d_M_gather_102 : decode b_M_gather 102 = .ok (.iconst 1, 1) := by decide +kernel
theorem d_M_gather_103 : decode b_M_gather 103 = .ok (.iadd, 1) := by decide +kernel
theorem d_M_gather_104 : decode b_M_gather 104 = .ok (.iastore, 1) := by decide +kernel
theorem d_M_gather_105 : decode b_M_gather 105 = .ok (.return_, 1) := by decide +kernel
theorem d_M_accept_0 : decode b_M_accept 0 = .ok (.aload_n 0, 1) := by decide +kernel
theorem d_M_accept_1 : decode b_M_accept 1 = .ok (.iload_n 1, 1) := by decide +kernel
theorem d_M_accept_2 : decode b_M_accept 2 = .ok (.iconst 3, 1) := by decide +kernel
theorem d_M_accept_3 : decode b_M_accept 3 = .ok (.invokevirtual 135, 3) := by decide +kernel
theorem d_M_accept_6 : decode b_M_accept 6 = .ok (.ifCond .ne 13, 3) := by decide +kernel
theorem d_M_accept_9 : decode b_M_accept 9 = .ok (.aload_n 0, 1) := by decide +kernel
theorem d_M_accept_10 : decode b_M_accept 10 = .ok (.iload_n 2, 1) := by decide +kernel
theorem d_M_accept_11 : decode b_M_accept 11 = .ok (.bipush 7, 2) := by decide +kernel
theorem d_M_accept_13 : decode b_M_accept 13 = .ok (.invokevirtual 135, 3) := by decide +kernel
theorem d_M_accept_16 : decode b_M_accept 16 = .ok (.ifCond .eq 5, 3) := by decide +kernel
theorem d_M_accept_19 : decode b_M_accept 19 = .ok (.iconst (-1), 1) := by decide +kernel
theorem d_M_accept_20 : decode b_M_accept 20 = .ok (.ireturn, 1) := by decide +kernel
theorem d_M_accept_21 : decode b_M_accept 21 = .ok (.aload_n 0, 1) := by decide +kernel
theorem d_M_accept_22 : decode b_M_accept 22 = .ok (.getfield 29, 3) := by decide +kernel
theorem d_M_accept_25 : decode b_M_accept 25 = .ok (.iload_n 1, 1) := by decide +kernel
theorem d_M_accept_26 : decode b_M_accept 26 = .ok (.iaload, 1) := by decide +kernel
theorem d_M_accept_27 : decode b_M_accept 27 = .ok (.sipush 1000, 3) := by decide +kernel
theorem d_M_accept_30 : decode b_M_accept 30 = .ok (.if_icmp .ne 6, 3) := by decide +kernel
theorem d_M_accept_33 : decode b_M_accept 33 = .ok (.bipush (-2), 2) := by decide +kernel
theorem d_M_accept_35 : decode b_M_accept 35 = .ok (.ireturn, 1) := by decide +kernel
theorem d_M_accept_36 : decode b_M_accept 36 = .ok (.aload_n 0, 1) := by decide +kernel
theorem d_M_accept_37 : decode b_M_accept 37 = .ok (.iload_n 1, 1) := by decide +kernel
theorem d_M_accept_38 : decode b_M_accept 38 = .ok (.iload_n 2, 1) := by decide +kernel
theorem d_M_accept_39 : decode b_M_accept 39 = .ok (.iconst 0, 1) := by decide +kernel
theorem d_M_accept_40 : decode b_M_accept 40 = .ok (.invokevirtual 216, 3) := by decide +kernel
theorem d_M_accept_43 : decode b_M_accept 43 = .ok (.iconst 0, 1) := by decide +kernel
theorem d_M_accept_44 : decode b_M_accept 44 = .ok (.ireturn, 1) := by decide +kernel
theorem d_M_discard_0 : decode b_M_discard 0 = .ok (.aload_n 0, 1) := by decide +kernel
theorem d_M_discard_1 : decode b_M_discard 1 = .ok (.iload_n 1, 1) := by decide +kernel
theorem d_M_discard_2 : decode b_M_discard 2 = .ok (.iconst 3, 1) := by decide +kernel
theorem d_M_discard_3 : decode b_M_discard 3 = .ok (.invokevirtual 135, 3) := by decide +kernel
theorem d_M_discard_6 : decode b_M_discard 6 = .ok (.ifCond .ne 13, 3) := by decide +kernel
theorem d_M_discard_9 : decode b_M_discard 9 = .ok (.aload_n 0, 1) := by decide +kernel
theorem d_M_discard_10 : decode b_M_discard 10 = .ok (.iload_n 2, 1) := by decide +kernel
theorem d_M_discard_11 : decode b_M_discard 11 = .ok (.bipush 7, 2) := by decide +kernel
theorem d_M_discard_13 : decode b_M_discard 13 = .ok (.invokevirtual 135, 3) := by decide +kernel
theorem d_M_discard_16 : decode b_M_discard 16 = .ok (.ifCond .eq 5, 3) := by decide +kernel
theorem d_M_discard_19 : decode b_M_discard 19 = .ok (.iconst (-1), 1) := by decide +kernel
theorem d_M_discard_20 : decode b_M_discard 20 = .ok (.ireturn, 1) := by decide +kernel
theorem d_M_discard_21 : decode b_M_discard 21 = .ok (.aload_n 0, 1) := by decide +kernel
theorem d_M_discard_22 : decode b_M_discard 22 = .ok (.getfield 29, 3) := by decide +kernel
theorem d_M_discard_25 : decode b_M_discard 25 = .ok (.iload_n 1, 1) := by decide +kernel
theorem d_M_discard_26 : decode b_M_discard 26 = .ok (.iaload, 1) := by decide +kernel
theorem d_M_discard_27 : decode b_M_discard 27 = .ok (.sipush 1000, 3) := by decide +kernel
theorem d_M_discard_30 : decode b_M_discard 30 = .ok (.if_icmp .ne 6, 3) := by decide +kernel
theorem d_M_discard_33 : decode b_M_discard 33 = .ok (.bipush (-2), 2) := by decide +kernel
theorem d_M_discard_35 : decode b_M_discard 35 = .ok (.ireturn, 1) := by decide +kernel
theorem d_M_discard_36 : decode b_M_discard 36 = .ok (.aload_n 0, 1) := by decide +kernel
theorem d_M_discard_37 : decode b_M_discard 37 = .ok (.getfield 32, 3) := by decide +kernel
theorem d_M_discard_40 : decode b_M_discard 40 = .ok (.aload_n 0, 1) := by decide +kernel
theorem d_M_discard_41 : decode b_M_discard 41 = .ok (.iload_n 1, 1) := by decide +kernel
theorem d_M_discard_42 : decode b_M_discard 42 = .ok (.iload_n 2, 1) := by decide +kernel
theorem d_M_discard_43 : decode b_M_discard 43 = .ok (.invokevirtual 213, 3) := by decide +kernel
theorem d_M_discard_46 : decode b_M_discard 46 = .ok (.iaload, 1) := by decide +kernel
theorem d_M_discard_47 : decode b_M_discard 47 = .ok (.ifCond .ne 6, 3) := by decide +kernel
theorem d_M_discard_50 : decode b_M_discard 50 = .ok (.bipush (-6), 2) := by decide +kernel
theorem d_M_discard_52 : decode b_M_discard 52 = .ok (.ireturn, 1) := by decide +kernel
theorem d_M_discard_53 : decode b_M_discard 53 = .ok (.aload_n 0, 1) := by decide +kernel
theorem d_M_discard_54 : decode b_M_discard 54 = .ok (.iload_n 1, 1) := by decide +kernel
theorem d_M_discard_55 : decode b_M_discard 55 = .ok (.iload_n 2, 1) := by decide +kernel
theorem d_M_discard_56 : decode b_M_discard 56 = .ok (.iconst 1, 1) := by decide +kernel
theorem d_M_discard_57 : decode b_M_discard 57 = .ok (.invokevirtual 216, 3) := by decide +kernel
theorem d_M_discard_60 : decode b_M_discard 60 = .ok (.iconst 0, 1) := by decide +kernel
theorem d_M_discard_61 : decode b_M_discard 61 = .ok (.ireturn, 1) := by decide +kernel
theorem d_M_merge_0 : decode b_M_merge 0 = .ok (.aload_n 0, 1) := by decide +kernel
theorem d_M_merge_1 : decode b_M_merge 1 = .ok (.iload_n 1, 1) := by decide +kernel
theorem d_M_merge_2 : decode b_M_merge 2 = .ok (.iconst 3, 1) := by decide +kernel
theorem d_M_merge_3 : decode b_M_merge 3 = .ok (.invokevirtual 135, 3) := by decide +kernel
theorem d_M_merge_6 : decode b_M_merge 6 = .ok (.ifCond .ne 12, 3) := by decide +kernel
theorem d_M_merge_9 : decode b_M_merge 9 = .ok (.aload_n 0, 1) := by decide +kernel
theorem d_M_merge_10 : decode b_M_merge 10 = .ok (.iload_n 2, 1) := by decide +kernel
theorem d_M_merge_11 : decode b_M_merge 11 = .ok (.iconst 3, 1) := by decide +kernel
theorem d_M_merge_12 : decode b_M_merge 12 = .ok (.invokevirtual 135, 3) := by decide +kernel
theorem d_M_merge_15 : decode b_M_merge 15 = .ok (.ifCond .eq 5, 3) := by decide +kernel
theorem d_M_merge_18 : decode b_M_merge 18 = .ok (.iconst (-1), 1) := by decide +kernel
theorem d_M_merge_19 : decode b_M_merge 19 = .ok (.ireturn, 1) := by decide +kernel
theorem d_M_merge_20 : decode b_M_merge 20 = .ok (.aload_n 0, 1) := by decide +kernel
theorem d_M_merge_21 : decode b_M_merge 21 = .ok (.getfield 29, 3) := by decide +kernel
theorem d_M_merge_24 : decode b_M_merge 24 = .ok (.iload_n 1, 1) := by decide +kernel
theorem d_M_merge_25 : decode b_M_merge 25 = .ok (.iaload, 1) := by decide +kernel
theorem d_M_merge_26 : decode b_M_merge 26 = .ok (.aload_n 0, 1) := by decide +kernel
theorem d_M_merge_27 : decode b_M_merge 27 = .ok (.getfield 29, 3) := by decide +kernel
theorem d_M_merge_30 : decode b_M_merge 30 = .ok (.iload_n 2, 1) := by decide +kernel
theorem d_M_merge_31 : decode b_M_merge 31 = .ok (.iaload, 1) := by decide +kernel
theorem d_M_merge_32 : decode b_M_merge 32 = .ok (.iadd, 1) := by decide +kernel
theorem d_M_merge_33 : decode b_M_merge 33 = .ok (.sipush 1000, 3) := by decide +kernel
theorem d_M_merge_36 : decode b_M_merge 36 = .ok (.if_icmp .le 6, 3) := by decide +kernel
theorem d_M_merge_39 : decode b_M_merge 39 = .ok (.bipush (-2), 2) := by decide +kernel
theorem d_M_merge_41 : decode b_M_merge 41 = .ok (.ireturn, 1) := by decide +kernel
theorem d_M_merge_42 : decode b_M_merge 42 = .ok (.iconst 0, 1) := by decide +kernel
theorem d_M_merge_43 : decode b_M_merge 43 = .ok (.istore_n 3, 1) := by decide +kernel
theorem d_M_merge_44 : decode b_M_merge 44 = .ok (.iload_n 3, 1) := by decide +kernel
theorem d_M_merge_45 : decode b_M_merge 45 = .ok (.bipush 56, 2) := by decide +kernel
theorem d_M_merge_47 : decode b_M_merge 47 = .ok (.if_icmp .ge 34, 3) := by decide +kernel
theorem d_M_merge_50 : decode b_M_merge 50 = .ok (.aload_n 0, 1) := by decide +kernel
theorem d_M_merge_51 : decode b_M_merge 51 = .ok (.getfield 26, 3) := by decide +kernel
theorem d_M_merge_54 : decode b_M_merge 54 = .ok (.bipush 56, 2) := by decide +kernel
theorem d_M_merge_56 : decode b_M_merge 56 = .ok (.iload_n 1, 1) := by decide +kernel
theorem d_M_merge_57 : decode b_M_merge 57 = .ok (.imul, 1) := by decide +kernel
theorem d_M_merge_58 : decode b_M_merge 58 = .ok (.iload_n 3, 1) := by decide +kernel
theorem d_M_merge_59 : decode b_M_merge 59 = .ok (.iadd, 1) := by decide +kernel
theorem d_M_merge_60 : decode b_M_merge 60 = .ok (.dup2, 1) := by decide +kernel
theorem d_M_merge_61 : decode b_M_merge 61 = .ok (.iaload, 1) := by decide +kernel
theorem d_M_merge_62 : decode b_M_merge 62 = .ok (.aload_n 0, 1) := by decide +kernel
theorem d_M_merge_63 : decode b_M_merge 63 = .ok (.getfield 26, 3) := by decide +kernel
theorem d_M_merge_66 : decode b_M_merge 66 = .ok (.bipush 56, 2) := by decide +kernel
theorem d_M_merge_68 : decode b_M_merge 68 = .ok (.iload_n 2, 1) := by decide +kernel
theorem d_M_merge_69 : decode b_M_merge 69 = .ok (.imul, 1) := by decide +kernel
theorem d_M_merge_70 : decode b_M_merge 70 = .ok (.iload_n 3, 1) := by decide +kernel
theorem d_M_merge_71 : decode b_M_merge 71 = .ok (.iadd, 1) := by decide +kernel
theorem d_M_merge_72 : decode b_M_merge 72 = .ok (.iaload, 1) := by decide +kernel
theorem d_M_merge_73 : decode b_M_merge 73 = .ok (.iadd, 1) := by decide +kernel
theorem d_M_merge_74 : decode b_M_merge 74 = .ok (.iastore, 1) := by decide +kernel
theorem d_M_merge_75 : decode b_M_merge 75 = .ok (.iinc 3 1, 3) := by decide +kernel
theorem d_M_merge_78 : decode b_M_merge 78 = .ok (.goto (-34), 3) := by decide +kernel
theorem d_M_merge_81 : decode b_M_merge 81 = .ok (.iconst 0, 1) := by decide +kernel
theorem d_M_merge_82 : decode b_M_merge 82 = .ok (.istore_n 3, 1) := by decide +kernel
theorem d_M_merge_83 : decode b_M_merge 83 = .ok (.iload_n 3, 1) := by decide +kernel
theorem d_M_merge_84 : decode b_M_merge 84 = .ok (.bipush 28, 2) := by decide +kernel
theorem d_M_merge_86 : decode b_M_merge 86 = .ok (.if_icmp .ge 34, 3) := by decide +kernel
theorem d_M_merge_89 : decode b_M_merge 89 = .ok (.aload_n 0, 1) := by decide +kernel
theorem d_M_merge_90 : decode b_M_merge 90 = .ok (.getfield 32, 3) := by decide +kernel
theorem d_M_merge_93 : decode b_M_merge 93 = .ok (.bipush 28, 2) := by decide +kernel
theorem d_M_merge_95 : decode b_M_merge 95 = .ok (.iload_n 1, 1) := by decide +kernel
theorem d_M_merge_96 : decode b_M_merge 96 = .ok (.imul, 1) := by decide +kernel
theorem d_M_merge_97 : decode b_M_merge 97 = .ok (.iload_n 3, 1) := by decide +kernel
theorem d_M_merge_98 : decode b_M_merge 98 = .ok (.iadd, 1) := by decide +kernel
theorem d_M_merge_99 : decode b_M_merge 99 = .ok (.dup2, 1) := by decide +kernel
theorem d_M_merge_100 : decode b_M_merge 100 = .ok (.iaload, 1) := by decide +kernel
theorem d_M_merge_101 : decode b_M_merge 101 = .ok (.aload_n 0, 1) := by decide +kernel
theorem d_M_merge_102 : decode b_M_merge 102 = .ok (.getfield 32, 3) := by decide +kernel
theorem d_M_merge_105 : decode b_M_merge 105 = .ok (.bipush 28, 2) := by decide +kernel
theorem d_M_merge_107 : decode b_M_merge 107 = .ok (.iload_n 2, 1) := by decide +kernel
theorem d_M_merge_108 : decode b_M_merge 108 = .ok (.imul, 1) := by decide +kernel
theorem d_M_merge_109 : decode b_M_merge 109 = .ok (.iload_n 3, 1) := by decide +kernel
theorem d_M_merge_110 : decode b_M_merge 110 = .ok (.iadd, 1) := by decide +kernel
theorem d_M_merge_111 : decode b_M_merge 111 = .ok (.iaload, 1) := by decide +kernel
theorem d_M_merge_112 : decode b_M_merge 112 = .ok (.iadd, 1) := by decide +kernel
theorem d_M_merge_113 : decode b_M_merge 113 = .ok (.iastore, 1) := by decide +kernel
theorem d_M_merge_114 : decode b_M_merge 114 = .ok (.iinc 3 1, 3) := by decide +kernel
theorem d_M_merge_117 : decode b_M_merge 117 = .ok (.goto (-34), 3) := by decide +kernel
theorem d_M_merge_120 : decode b_M_merge 120 = .ok (.aload_n 0, 1) := by decide +kernel
theorem d_M_merge_121 : decode b_M_merge 121 = .ok (.getfield 29, 3) := by decide +kernel
theorem d_M_merge_124 : decode b_M_merge 124 = .ok (.iload_n 1, 1) := by decide +kernel
theorem d_M_merge_125 : decode b_M_merge 125 = .ok (.dup2, 1) := by decide +kernel
theorem d_M_merge_126 : decode b_M_merge 126 = .ok (.iaload, 1) := by decide +kernel
theorem d_M_merge_127 : decode b_M_merge 127 = .ok (.aload_n 0, 1) := by decide +kernel
theorem d_M_merge_128 : decode b_M_merge 128 = .ok (.getfield 29, 3) := by decide +kernel
theorem d_M_merge_131 : decode b_M_merge 131 = .ok (.iload_n 2, 1) := by decide +kernel
theorem d_M_merge_132 : decode b_M_merge 132 = .ok (.iaload, 1) := by decide +kernel
theorem d_M_merge_133 : decode b_M_merge 133 = .ok (.iadd, 1) := by decide +kernel
theorem d_M_merge_134 : decode b_M_merge 134 = .ok (.iastore, 1) := by decide +kernel
theorem d_M_merge_135 : decode b_M_merge 135 = .ok (.iconst 0, 1) := by decide +kernel
theorem d_M_merge_136 : decode b_M_merge 136 = .ok (.ireturn, 1) := by decide +kernel
theorem d_M_reset_0 : decode b_M_reset 0 = .ok (.aload_n 0, 1) := by decide +kernel
theorem d_M_reset_1 : decode b_M_reset 1 = .ok (.iload_n 1, 1) := by decide +kernel
theorem d_M_reset_2 : decode b_M_reset 2 = .ok (.iconst 3, 1) := by decide +kernel
theorem d_M_reset_3 : decode b_M_reset 3 = .ok (.invokevirtual 135, 3) := by decide +kernel
theorem d_M_reset_6 : decode b_M_reset 6 = .ok (.ifCond .eq 5, 3) := by decide +kernel
theorem d_M_reset_9 : decode b_M_reset 9 = .ok (.iconst 0, 1) := by decide +kernel
theorem d_M_reset_10 : decode b_M_reset 10 = .ok (.ireturn, 1) := by decide +kernel
theorem d_M_reset_11 : decode b_M_reset 11 = .ok (.iconst 0, 1) := by decide +kernel
theorem d_M_reset_12 : decode b_M_reset 12 = .ok (.istore_n 2, 1) := by decide +kernel
theorem d_M_reset_13 : decode b_M_reset 13 = .ok (.iload_n 2, 1) := by decide +kernel
theorem d_M_reset_14 : decode b_M_reset 14 = .ok (.bipush 56, 2) := by decide +kernel
theorem d_M_reset_16 : decode b_M_reset 16 = .ok (.if_icmp .ge 21, 3) := by decide +kernel
theorem d_M_reset_19 : decode b_M_reset 19 = .ok (.aload_n 0, 1) := by decide +kernel
theorem d_M_reset_20 : decode b_M_reset 20 = .ok (.getfield 26, 3) := by decide +kernel
theorem d_M_reset_23 : decode b_M_reset 23 = .ok (.bipush 56, 2) := by decide +kernel
theorem d_M_reset_25 : decode b_M_reset 25 = .ok (.iload_n 1, 1) := by decide +kernel
theorem d_M_reset_26 : decode b_M_reset 26 = .ok (.imul, 1) := by decide +kernel
theorem d_M_reset_27 : decode b_M_reset 27 = .ok (.iload_n 2, 1) := by decide +kernel
theorem d_M_reset_28 : decode b_M_reset 28 = .ok (.iadd, 1) := by decide +kernel
theorem d_M_reset_29 : decode b_M_reset 29 = .ok (.iconst 0, 1) := by decide +kernel
theorem d_M_reset_30 : decode b_M_reset 30 = .ok (.iastore, 1) := by decide +kernel
theorem d_M_reset_31 : decode b_M_reset 31 = .ok (.iinc 2 1, 3) := by decide +kernel
theorem d_M_reset_34 : decode b_M_reset 34 = .ok (.goto (-21), 3) := by decide +kernel
theorem d_M_reset_37 : decode b_M_reset 37 = .ok (.iconst 0, 1) := by decide +kernel
theorem d_M_reset_38 : decode b_M_reset 38 = .ok (.istore_n 2, 1) := by decide +kernel
theorem d_M_reset_39 : decode b_M_reset 39 = .ok (.iload_n 2, 1) := by decide +kernel
theorem d_M_reset_40 : decode b_M_reset 40 = .ok (.bipush 28, 2) := by decide +kernel
theorem d_M_reset_42 : decode b_M_reset 42 = .ok (.if_icmp .ge 21, 3) := by decide +kernel
theorem d_M_reset_45 : decode b_M_reset 45 = .ok (.aload_n 0, 1) := by decide +kernel
theorem d_M_reset_46 : decode b_M_reset 46 = .ok (.getfield 32, 3) := by decide +kernel
theorem d_M_reset_49 : decode b_M_reset 49 = .ok (.bipush 28, 2) := by decide +kernel
theorem d_M_reset_51 : decode b_M_reset 51 = .ok (.iload_n 1, 1) := by decide +kernel
theorem d_M_reset_52 : decode b_M_reset 52 = .ok (.imul, 1) := by decide +kernel
theorem d_M_reset_53 : decode b_M_reset 53 = .ok (.iload_n 2, 1) := by decide +kernel
theorem d_M_reset_54 : decode b_M_reset 54 = .ok (.iadd, 1) := by decide +kernel
theorem d_M_reset_55 : decode b_M_reset 55 = .ok (.iconst 0, 1) := by decide +kernel
theorem d_M_reset_56 : decode b_M_reset 56 = .ok (.iastore, 1) := by decide +kernel
theorem d_M_reset_57 : decode b_M_reset 57 = .ok (.iinc 2 1, 3) := by decide +kernel
theorem d_M_reset_60 : decode b_M_reset 60 = .ok (.goto (-21), 3) := by decide +kernel
theorem d_M_reset_63 : decode b_M_reset 63 = .ok (.aload_n 0, 1) := by decide +kernel
theorem d_M_reset_64 : decode b_M_reset 64 = .ok (.getfield 29, 3) := by decide +kernel
theorem d_M_reset_67 : decode b_M_reset 67 = .ok (.iload_n 1, 1) := by decide +kernel
theorem d_M_reset_68 : decode b_M_reset 68 = .ok (.iconst 0, 1) := by decide +kernel
theorem d_M_reset_69 : decode b_M_reset 69 = .ok (.iastore, 1) := by decide +kernel
theorem d_M_reset_70 : decode b_M_reset 70 = .ok (.iconst 1, 1) := by decide +kernel
theorem d_M_reset_71 : decode b_M_reset 71 = .ok (.ireturn, 1) := by decide +kernel
theorem d_M_count_0 : decode b_M_count 0 = .ok (.aload_n 0, 1) := by decide +kernel
theorem d_M_count_1 : decode b_M_count 1 = .ok (.iload_n 1, 1) := by decide +kernel
theorem d_M_count_2 : decode b_M_count 2 = .ok (.iconst 3, 1) := by decide +kernel
theorem d_M_count_3 : decode b_M_count 3 = .ok (.invokevirtual 135, 3) := by decide +kernel
theorem d_M_count_6 : decode b_M_count 6 = .ok (.ifCond .eq 5, 3) := by decide +kernel
theorem d_M_count_9 : decode b_M_count 9 = .ok (.iconst (-1), 1) := by decide +kernel
theorem d_M_count_10 : decode b_M_count 10 = .ok (.ireturn, 1) := by decide +kernel
theorem d_M_count_11 : decode b_M_count 11 = .ok (.iconst 0, 1) := by decide +kernel
theorem d_M_count_12 : decode b_M_count 12 = .ok (.istore_n 2, 1) := by decide +kernel
theorem d_M_count_13 : decode b_M_count 13 = .ok (.iconst 0, 1) := by decide +kernel
theorem d_M_count_14 : decode b_M_count 14 = .ok (.istore_n 3, 1) := by decide +kernel
theorem d_M_count_15 : decode b_M_count 15 = .ok (.iload_n 3, 1) := by decide +kernel
theorem d_M_count_16 : decode b_M_count 16 = .ok (.bipush 28, 2) := by decide +kernel
theorem d_M_count_18 : decode b_M_count 18 = .ok (.if_icmp .ge 23, 3) := by decide +kernel
theorem d_M_count_21 : decode b_M_count 21 = .ok (.iload_n 2, 1) := by decide +kernel
theorem d_M_count_22 : decode b_M_count 22 = .ok (.aload_n 0, 1) := by decide +kernel
theorem d_M_count_23 : decode b_M_count 23 = .ok (.getfield 32, 3) := by decide +kernel
theorem d_M_count_26 : decode b_M_count 26 = .ok (.bipush 28, 2) := by decide +kernel
theorem d_M_count_28 : decode b_M_count 28 = .ok (.iload_n 1, 1) := by decide +kernel
theorem d_M_count_29 : decode b_M_count 29 = .ok (.imul, 1) := by decide +kernel
theorem d_M_count_30 : decode b_M_count 30 = .ok (.iload_n 3, 1) := by decide +kernel
theorem d_M_count_31 : decode b_M_count 31 = .ok (.iadd, 1) := by decide +kernel
theorem d_M_count_32 : decode b_M_count 32 = .ok (.iaload, 1) := by decide +kernel
theorem d_M_count_33 : decode b_M_count 33 = .ok (.iadd, 1) := by decide +kernel
theorem d_M_count_34 : decode b_M_count 34 = .ok (.istore_n 2, 1) := by decide +kernel
theorem d_M_count_35 : decode b_M_count 35 = .ok (.iinc 3 1, 3) := by decide +kernel
theorem d_M_count_38 : decode b_M_count 38 = .ok (.goto (-23), 3) := by decide +kernel
theorem d_M_count_41 : decode b_M_count 41 = .ok (.iload_n 2, 1) := by decide +kernel
theorem d_M_count_42 : decode b_M_count 42 = .ok (.ireturn, 1) := by decide +kernel
theorem d_M_result_0 : decode b_M_result 0 = .ok (.bipush 28, 2) := by decide +kernel
theorem d_M_result_2 : decode b_M_result 2 = .ok (.iload_n 2, 1) := by decide +kernel
theorem d_M_result_3 : decode b_M_result 3 = .ok (.imul, 1) := by decide +kernel
theorem d_M_result_4 : decode b_M_result 4 = .ok (.istore_n 3, 1) := by decide +kernel
theorem d_M_result_5 : decode b_M_result 5 = .ok (.aload_n 0, 1) := by decide +kernel
theorem d_M_result_6 : decode b_M_result 6 = .ok (.getfield 32, 3) := by decide +kernel
theorem d_M_result_9 : decode b_M_result 9 = .ok (.iload_n 3, 1) := by decide +kernel
theorem d_M_result_10 : decode b_M_result 10 = .ok (.bipush 26, 2) := by decide +kernel
theorem d_M_result_12 : decode b_M_result 12 = .ok (.iadd, 1) := by decide +kernel
theorem d_M_result_13 : decode b_M_result 13 = .ok (.iaload, 1) := by decide +kernel
theorem d_M_result_14 : decode b_M_result 14 = .ok (.ifCond .le 7, 3) := by decide +kernel
theorem d_M_result_17 : decode b_M_result 17 = .ok (.iconst 1, 1) := by decide +kernel
theorem d_M_result_18 : decode b_M_result 18 = .ok (.goto 4, 3) := by decide +kernel
theorem d_M_result_21 : decode b_M_result 21 = .ok (.iconst 0, 1) := by decide +kernel
theorem d_M_result_22 : decode b_M_result 22 = .ok (.istore 4, 2) := by decide +kernel
theorem d_M_result_24 : decode b_M_result 24 = .ok (.aload_n 0, 1) := by decide +kernel
theorem d_M_result_25 : decode b_M_result 25 = .ok (.getfield 32, 3) := by decide +kernel
theorem d_M_result_28 : decode b_M_result 28 = .ok (.iload_n 3, 1) := by decide +kernel
theorem d_M_result_29 : decode b_M_result 29 = .ok (.bipush 27, 2) := by decide +kernel
theorem d_M_result_31 : decode b_M_result 31 = .ok (.iadd, 1) := by decide +kernel
theorem d_M_result_32 : decode b_M_result 32 = .ok (.iaload, 1) := by decide +kernel
theorem d_M_result_33 : decode b_M_result 33 = .ok (.ifCond .le 7, 3) := by decide +kernel
theorem d_M_result_36 : decode b_M_result 36 = .ok (.iconst 1, 1) := by decide +kernel
theorem d_M_result_37 : decode b_M_result 37 = .ok (.goto 4, 3) := by decide +kernel
theorem d_M_result_40 : decode b_M_result 40 = .ok (.iconst 0, 1) := by decide +kernel
theorem d_M_result_41 : decode b_M_result 41 = .ok (.istore 5, 2) := by decide +kernel
theorem d_M_result_43 : decode b_M_result 43 = .ok (.aload_n 0, 1) := by decide +kernel
theorem d_M_result_44 : decode b_M_result 44 = .ok (.getfield 32, 3) := by decide +kernel
theorem d_M_result_47 : decode b_M_result 47 = .ok (.iload_n 3, 1) := by decide +kernel
theorem d_M_result_48 : decode b_M_result 48 = .ok (.bipush 25, 2) := by decide +kernel
theorem d_M_result_50 : decode b_M_result 50 = .ok (.iadd, 1) := by decide +kernel
theorem d_M_result_51 : decode b_M_result 51 = .ok (.iaload, 1) := by decide +kernel
theorem d_M_result_52 : decode b_M_result 52 = .ok (.ifCond .gt 13, 3) := by decide +kernel
theorem d_M_result_55 : decode b_M_result 55 = .ok (.iload 4, 2) := by decide +kernel
theorem d_M_result_57 : decode b_M_result 57 = .ok (.ifCond .ne 8, 3) := by decide +kernel
theorem d_M_result_60 : decode b_M_result 60 = .ok (.iload 5, 2) := by decide +kernel
theorem d_M_result_62 : decode b_M_result 62 = .ok (.ifCond .eq 45, 3) := by decide +kernel
theorem d_M_result_65 : decode b_M_result 65 = .ok (.aload_n 0, 1) := by decide +kernel
theorem d_M_result_66 : decode b_M_result 66 = .ok (.iload_n 1, 1) := by decide +kernel
theorem d_M_result_67 : decode b_M_result 67 = .ok (.aload_n 0, 1) := by decide +kernel
theorem d_M_result_68 : decode b_M_result 68 = .ok (.getfield 32, 3) := by decide +kernel
theorem d_M_result_71 : decode b_M_result 71 = .ok (.iload_n 3, 1) := by decide +kernel
theorem d_M_result_72 : decode b_M_result 72 = .ok (.bipush 25, 2) := by decide +kernel
theorem d_M_result_74 : decode b_M_result 74 = .ok (.iadd, 1) := by decide +kernel
theorem d_M_result_75 : decode b_M_result 75 = .ok (.iaload, 1) := by decide +kernel
theorem d_M_result_76 : decode b_M_result 76 = .ok (.ifCond .gt 13, 3) := by decide +kernel
theorem d_M_result_79 : decode b_M_result 79 = .ok (.iload 4, 2) := by decide +kernel
theorem d_M_result_81 : decode b_M_result 81 = .ok (.ifCond .eq 12, 3) := by decide +kernel
theorem d_M_result_84 : decode b_M_result 84 = .ok (.iload 5, 2) := by decide +kernel
theorem d_M_result_86 : decode b_M_result 86 = .ok (.ifCond .eq 7, 3) := by decide +kernel
theorem d_M_result_89 : decode b_M_result 89 = .ok (.iconst 1, 1) := by decide +kernel
theorem d_M_result_90 : decode b_M_result 90 = .ok (.goto 13, 3) := by decide +kernel
theorem d_M_result_93 : decode b_M_result 93 = .ok (.iload 4, 2) := by decide +kernel
theorem d_M_result_95 : decode b_M_result 95 = .ok (.ifCond .eq 7, 3) := by decide +kernel
theorem d_M_result_98 : decode b_M_result 98 = .ok (.iconst 2, 1) := by decide +kernel
theorem d_M_result_99 : decode b_M_result 99 = .ok (.goto 4, 3) := by decide +kernel
theorem d_M_result_102 : decode b_M_result 102 = .ok (.iconst 3, 1) := by decide +kernel
theorem d_M_result_103 : decode b_M_result 103 = .ok (.invokevirtual 138, 3) := by decide +kernel
theorem d_M_result_106 : decode b_M_result 106 = .ok (.ireturn, 1) := by decide +kernel
theorem d_M_result_107 : decode b_M_result 107 = .ok (.iconst 0, 1) := by decide +kernel
theorem d_M_result_108 : decode b_M_result 108 = .ok (.istore 6, 2) := by decide +kernel
theorem d_M_result_110 : decode b_M_result 110 = .ok (.iconst 0, 1) := by decide +kernel
theorem d_M_result_111 : decode b_M_result 111 = .ok (.istore 7, 2) := by decide +kernel
theorem d_M_result_113 : decode b_M_result 113 = .ok (.iload 7, 2) := by decide +kernel
theorem d_M_result_115 : decode b_M_result 115 = .ok (.bipush 25, 2) := by decide +kernel
theorem d_M_result_117 : decode b_M_result 117 = .ok (.if_icmp .ge 30, 3) := by decide +kernel
theorem d_M_result_120 : decode b_M_result 120 = .ok (.aload_n 0, 1) := by decide +kernel
theorem d_M_result_121 : decode b_M_result 121 = .ok (.getfield 32, 3) := by decide +kernel
theorem d_M_result_124 : decode b_M_result 124 = .ok (.iload_n 3, 1) := by decide +kernel
theorem d_M_result_125 : decode b_M_result 125 = .ok (.iload 7, 2) := by decide +kernel
theorem d_M_result_127 : decode b_M_result 127 = .ok (.iadd, 1) := by decide +kernel
theorem d_M_result_128 : decode b_M_result 128 = .ok (.iaload, 1) := by decide +kernel
theorem d_M_result_129 : decode b_M_result 129 = .ok (.ifCond .le 8, 3) := by decide +kernel
theorem d_M_result_132 : decode b_M_result 132 = .ok (.iload 7, 2) := by decide +kernel
theorem d_M_result_134 : decode b_M_result 134 = .ok (.goto 5, 3) := by decide +kernel
theorem d_M_result_137 : decode b_M_result 137 = .ok (.iload 6, 2) := by decide +kernel
theorem d_M_result_139 : decode b_M_result 139 = .ok (.istore 6, 2) := by decide +kernel
theorem d_M_result_141 : decode b_M_result 141 = .ok (.iinc 7 1, 3) := by decide +kernel
theorem d_M_result_144 : decode b_M_result 144 = .ok (.goto (-31), 3) := by decide +kernel
theorem d_M_result_147 : decode b_M_result 147 = .ok (.aload_n 0, 1) := by decide +kernel
theorem d_M_result_148 : decode b_M_result 148 = .ok (.invokevirtual 82, 3) := by decide +kernel
theorem d_M_result_151 : decode b_M_result 151 = .ok (.iconst 0, 1) := by decide +kernel
theorem d_M_result_152 : decode b_M_result 152 = .ok (.istore 7, 2) := by decide +kernel
theorem d_M_result_154 : decode b_M_result 154 = .ok (.iload 7, 2) := by decide +kernel
theorem d_M_result_156 : decode b_M_result 156 = .ok (.bipush 56, 2) := by decide +kernel
theorem d_M_result_158 : decode b_M_result 158 = .ok (.if_icmp .ge 31, 3) := by decide +kernel
theorem d_M_result_161 : decode b_M_result 161 = .ok (.aload_n 0, 1) := by decide +kernel
theorem d_M_result_162 : decode b_M_result 162 = .ok (.getfield 41, 3) := by decide +kernel
theorem d_M_result_165 : decode b_M_result 165 = .ok (.bipush 24, 2) := by decide +kernel
theorem d_M_result_167 : decode b_M_result 167 = .ok (.iload 7, 2) := by decide +kernel
theorem d_M_result_169 : decode b_M_result 169 = .ok (.iadd, 1) := by decide +kernel
theorem d_M_result_170 : decode b_M_result 170 = .ok (.aload_n 0, 1) := by decide +kernel
theorem d_M_result_171 : decode b_M_result 171 = .ok (.getfield 26, 3) := by decide +kernel
theorem d_M_result_174 : decode b_M_result 174 = .ok (.bipush 56, 2) := by decide +kernel
theorem d_M_result_176 : decode b_M_result 176 = .ok (.iload_n 2, 1) := by decide +kernel
theorem d_M_result_177 : decode b_M_result 177 = .ok (.imul, 1) := by decide +kernel
theorem d_M_result_178 : decode b_M_result 178 = .ok (.iload 7, 2) := by decide +kernel
theorem d_M_result_180 : decode b_M_result 180 = .ok (.iadd, 1) := by decide +kernel
theorem d_M_result_181 : decode b_M_result 181 = .ok (.iaload, 1) := by decide +kernel
theorem d_M_result_182 : decode b_M_result 182 = .ok (.iastore, 1) := by decide +kernel
theorem d_M_result_183 : decode b_M_result 183 = .ok (.iinc 7 1, 3) := by decide +kernel
theorem d_M_result_186 : decode b_M_result 186 = .ok (.goto (-32), 3) := by decide +kernel
theorem d_M_result_189 : decode b_M_result 189 = .ok (.aload_n 0, 1) := by decide +kernel
theorem d_M_result_190 : decode b_M_result 190 = .ok (.iload_n 1, 1) := by decide +kernel
theorem d_M_result_191 : decode b_M_result 191 = .ok (.iload 6, 2) := by decide +kernel
theorem d_M_result_193 : decode b_M_result 193 = .ok (.invokevirtual 114, 3) := by decide +kernel
theorem d_M_result_196 : decode b_M_result 196 = .ok (.ireturn, 1) := by decide +kernel
theorem d_M_total_0 : decode b_M_total 0 = .ok (.aload_n 0, 1) := by decide +kernel
theorem d_M_total_1 : decode b_M_total 1 = .ok (.iload_n 1, 1) := by decide +kernel
theorem d_M_total_2 : decode b_M_total 2 = .ok (.bipush 7, 2) := by decide +kernel
theorem d_M_total_4 : decode b_M_total 4 = .ok (.invokevirtual 135, 3) := by decide +kernel
theorem d_M_total_7 : decode b_M_total 7 = .ok (.ifCond .ne 12, 3) := by decide +kernel
theorem d_M_total_10 : decode b_M_total 10 = .ok (.aload_n 0, 1) := by decide +kernel
theorem d_M_total_11 : decode b_M_total 11 = .ok (.iload_n 2, 1) := by decide +kernel
theorem d_M_total_12 : decode b_M_total 12 = .ok (.iconst 3, 1) := by decide +kernel
theorem d_M_total_13 : decode b_M_total 13 = .ok (.invokevirtual 135, 3) := by decide +kernel
theorem d_M_total_16 : decode b_M_total 16 = .ok (.ifCond .eq 5, 3) := by decide +kernel
theorem d_M_total_19 : decode b_M_total 19 = .ok (.iconst (-1), 1) := by decide +kernel
theorem d_M_total_20 : decode b_M_total 20 = .ok (.ireturn, 1) := by decide +kernel
theorem d_M_total_21 : decode b_M_total 21 = .ok (.aload_n 0, 1) := by decide +kernel
theorem d_M_total_22 : decode b_M_total 22 = .ok (.iload_n 2, 1) := by decide +kernel
theorem d_M_total_23 : decode b_M_total 23 = .ok (.invokevirtual 220, 3) := by decide +kernel
theorem d_M_total_26 : decode b_M_total 26 = .ok (.ifCond .ne 8, 3) := by decide +kernel
theorem d_M_total_29 : decode b_M_total 29 = .ok (.bipush (-6), 2) := by decide +kernel
theorem d_M_total_31 : decode b_M_total 31 = .ok (.goto 9, 3) := by decide +kernel
theorem d_M_total_34 : decode b_M_total 34 = .ok (.aload_n 0, 1) := by decide +kernel
theorem d_M_total_35 : decode b_M_total 35 = .ok (.iload_n 1, 1) := by decide +kernel
theorem d_M_total_36 : decode b_M_total 36 = .ok (.iload_n 2, 1) := by decide +kernel
theorem d_M_total_37 : decode b_M_total 37 = .ok (.invokevirtual 223, 3) := by decide +kernel
theorem d_M_total_40 : decode b_M_total 40 = .ok (.ireturn, 1) := by decide +kernel
theorem d_M_average_0 : decode b_M_average 0 = .ok (.aload_n 0, 1) := by decide +kernel
theorem d_M_average_1 : decode b_M_average 1 = .ok (.iload_n 1, 1) := by decide +kernel
theorem d_M_average_2 : decode b_M_average 2 = .ok (.iload_n 2, 1) := by decide +kernel
theorem d_M_average_3 : decode b_M_average 3 = .ok (.invokevirtual 226, 3) := by decide +kernel
theorem d_M_average_6 : decode b_M_average 6 = .ok (.istore_n 3, 1) := by decide +kernel
theorem d_M_average_7 : decode b_M_average 7 = .ok (.iload_n 3, 1) := by decide +kernel
theorem d_M_average_8 : decode b_M_average 8 = .ok (.ifCond .ne 12, 3) := by decide +kernel
theorem d_M_average_11 : decode b_M_average 11 = .ok (.aload_n 0, 1) := by decide +kernel
theorem d_M_average_12 : decode b_M_average 12 = .ok (.getfield 7, 3) := by decide +kernel
theorem d_M_average_15 : decode b_M_average 15 = .ok (.iload_n 1, 1) := by decide +kernel
theorem d_M_average_16 : decode b_M_average 16 = .ok (.iaload, 1) := by decide +kernel
theorem d_M_average_17 : decode b_M_average 17 = .ok (.ifCond .eq 5, 3) := by decide +kernel
theorem d_M_average_20 : decode b_M_average 20 = .ok (.iload_n 3, 1) := by decide +kernel
theorem d_M_average_21 : decode b_M_average 21 = .ok (.ireturn, 1) := by decide +kernel
theorem d_M_average_22 : decode b_M_average 22 = .ok (.aload_n 0, 1) := by decide +kernel
theorem d_M_average_23 : decode b_M_average 23 = .ok (.iload_n 1, 1) := by decide +kernel
theorem d_M_average_24 : decode b_M_average 24 = .ok (.invokevirtual 168, 3) := by decide +kernel
theorem d_M_average_27 : decode b_M_average 27 = .ok (.aload_n 0, 1) := by decide +kernel
theorem d_M_average_28 : decode b_M_average 28 = .ok (.iload_n 2, 1) := by decide +kernel
theorem d_M_average_29 : decode b_M_average 29 = .ok (.invokevirtual 220, 3) := by decide +kernel
theorem d_M_average_32 : decode b_M_average 32 = .ok (.istore 4, 2) := by decide +kernel
theorem d_M_average_34 : decode b_M_average 34 = .ok (.aload_n 0, 1) := by decide +kernel
theorem d_M_average_35 : decode b_M_average 35 = .ok (.iconst 0, 1) := by decide +kernel
theorem d_M_average_36 : decode b_M_average 36 = .ok (.putfield 79, 3) := by decide +kernel
theorem d_M_average_39 : decode b_M_average 39 = .ok (.iconst 0, 1) := by decide +kernel
theorem d_M_average_40 : decode b_M_average 40 = .ok (.istore 5, 2) := by decide +kernel
theorem d_M_average_42 : decode b_M_average 42 = .ok (.iload 5, 2) := by decide +kernel
theorem d_M_average_44 : decode b_M_average 44 = .ok (.bipush 56, 2) := by decide +kernel
theorem d_M_average_46 : decode b_M_average 46 = .ok (.if_icmp .ge 17, 3) := by decide +kernel
theorem d_M_average_49 : decode b_M_average 49 = .ok (.aload_n 0, 1) := by decide +kernel
theorem d_M_average_50 : decode b_M_average 50 = .ok (.getfield 38, 3) := by decide +kernel
theorem d_M_average_53 : decode b_M_average 53 = .ok (.iload 5, 2) := by decide +kernel
theorem d_M_average_55 : decode b_M_average 55 = .ok (.iconst 0, 1) := by decide +kernel
theorem d_M_average_56 : decode b_M_average 56 = .ok (.iastore, 1) := by decide +kernel
theorem d_M_average_57 : decode b_M_average 57 = .ok (.iinc 5 1, 3) := by decide +kernel
theorem d_M_average_60 : decode b_M_average 60 = .ok (.goto (-18), 3) := by decide +kernel
theorem d_M_average_63 : decode b_M_average 63 = .ok (.bipush 24, 2) := by decide +kernel
theorem d_M_average_65 : decode b_M_average 65 = .ok (.istore 5, 2) := by decide +kernel
theorem d_M_average_67 : decode b_M_average 67 = .ok (.iload 5, 2) := by decide +kernel
theorem d_M_average_69 : decode b_M_average 69 = .ok (.bipush 28, 2) := by decide +kernel
theorem d_M_average_71 : decode b_M_average 71 = .ok (.if_icmp .ge 28, 3) := by decide +kernel
theorem d_M_average_74 : decode b_M_average 74 = .ok (.aload_n 0, 1) := by decide +kernel
theorem d_M_average_75 : decode b_M_average 75 = .ok (.getfield 38, 3) := by decide +kernel
theorem d_M_average_78 : decode b_M_average 78 = .ok (.iload 5, 2) := by decide +kernel
theorem d_M_average_80 : decode b_M_average 80 = .ok (.iload 4, 2) := by decide +kernel
theorem d_M_average_82 : decode b_M_average 82 = .ok (.bipush 10, 2) := by decide +kernel
theorem d_M_average_84 : decode b_M_average 84 = .ok (.irem, 1) := by decide +kernel
theorem d_M_average_85 : decode b_M_average 85 = .ok (.iastore, 1) := by decide +kernel
theorem d_M_average_86 : decode b_M_average 86 = .ok (.iload 4, 2) := by decide +kernel
theorem d_M_average_88 : decode b_M_average 88 = .ok (.bipush 10, 2) := by decide +kernel
theorem d_M_average_90 : decode b_M_average 90 = .ok (.idiv, 1) := by decide +kernel
theorem d_M_average_91 : decode b_M_average 91 = .ok (.istore 4, 2) := by decide +kernel
theorem d_M_average_93 : decode b_M_average 93 = .ok (.iinc 5 1, 3) := by decide +kernel
theorem d_M_average_96 : decode b_M_average 96 = .ok (.goto (-29), 3) := by decide +kernel
theorem d_M_average_99 : decode b_M_average 99 = .ok (.aload_n 0, 1) := by decide +kernel
theorem d_M_average_100 : decode b_M_average 100 = .ok (.iload_n 1, 1) := by decide +kernel
theorem d_M_average_101 : decode b_M_average 101 = .ok (.aload_n 0, 1) := by decide +kernel
theorem d_M_average_102 : decode b_M_average 102 = .ok (.getfield 17, 3) := by decide +kernel
theorem d_M_average_105 : decode b_M_average 105 = .ok (.iload_n 1, 1) := by decide +kernel
theorem d_M_average_106 : decode b_M_average 106 = .ok (.iaload, 1) := by decide +kernel
theorem d_M_average_107 : decode b_M_average 107 = .ok (.iconst 0, 1) := by decide +kernel
theorem d_M_average_108 : decode b_M_average 108 = .ok (.invokevirtual 181, 3) := by decide +kernel
theorem d_M_average_111 : decode b_M_average 111 = .ok (.ireturn, 1) := by decide +kernel

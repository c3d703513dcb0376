theorem d_S_init_0 : decode b_S_init 0 = .ok (.aload_n 0, 1) := by decide +kernel
theorem d_S_init_1 : decode b_S_init 1 = .ok (.invokespecial 3, 3) := by decide +kernel
theorem d_S_init_4 : decode b_S_init 4 = .ok (.aload_n 0, 1) := by decide +kernel
theorem d_S_init_5 : decode b_S_init 5 = .ok (.new 9, 3) := by decide +kernel
theorem d_S_init_8 : decode b_S_init 8 = .ok (.dup, 1) := by decide +kernel
theorem d_S_init_9 : decode b_S_init 9 = .ok (.invokespecial 11, 3) := by decide +kernel
theorem d_S_init_12 : decode b_S_init 12 = .ok (.putfield 12, 3) := by decide +kernel
theorem d_S_init_15 : decode b_S_init 15 = .ok (.aload_n 0, 1) := by decide +kernel
theorem d_S_init_16 : decode b_S_init 16 = .ok (.bipush 28, 2) := by decide +kernel
theorem d_S_init_18 : decode b_S_init 18 = .ok (.newarray .int, 2) := by decide +kernel
theorem d_S_init_20 : decode b_S_init 20 = .ok (.putfield 18, 3) := by decide +kernel
theorem d_S_init_23 : decode b_S_init 23 = .ok (.return_, 1) := by decide +kernel
theorem d_S_clear_0 : decode b_S_clear 0 = .ok (.aload_n 0, 1) := by decide +kernel
theorem d_S_clear_1 : decode b_S_clear 1 = .ok (.getfield 12, 3) := by decide +kernel
theorem d_S_clear_4 : decode b_S_clear 4 = .ok (.invokevirtual 22, 3) := by decide +kernel
theorem d_S_clear_7 : decode b_S_clear 7 = .ok (.aload_n 0, 1) := by decide +kernel
theorem d_S_clear_8 : decode b_S_clear 8 = .ok (.getfield 18, 3) := by decide +kernel
theorem d_S_clear_11 : decode b_S_clear 11 = .ok (.iconst 0, 1) := by decide +kernel
theorem d_S_clear_12 : decode b_S_clear 12 = .ok (.invokestatic 25, 3) := by decide +kernel
theorem d_S_clear_15 : decode b_S_clear 15 = .ok (.aload_n 0, 1) := by decide +kernel
theorem d_S_clear_16 : decode b_S_clear 16 = .ok (.iconst 0, 1) := by decide +kernel
theorem d_S_clear_17 : decode b_S_clear 17 = .ok (.putfield 31, 3) := by decide +kernel
theorem d_S_clear_20 : decode b_S_clear 20 = .ok (.return_, 1) := by decide +kernel
theorem d_S_putIn_0 : decode b_S_putIn 0 = .ok (.aload_n 0, 1) := by decide +kernel
theorem d_S_putIn_1 : decode b_S_putIn 1 = .ok (.getfield 31, 3) := by decide +kernel
theorem d_S_putIn_4 : decode b_S_putIn 4 = .ok (.sipush 1000, 3) := by decide +kernel
theorem d_S_putIn_7 : decode b_S_putIn 7 = .ok (.if_icmp .lt 6, 3) := by decide +kernel
theorem d_S_putIn_10 : decode b_S_putIn 10 = .ok (.bipush (-2), 2) := by decide +kernel
theorem d_S_putIn_12 : decode b_S_putIn 12 = .ok (.ireturn, 1) := by decide +kernel
theorem d_S_putIn_13 : decode b_S_putIn 13 = .ok (.aload_n 0, 1) := by decide +kernel
theorem d_S_putIn_14 : decode b_S_putIn 14 = .ok (.aload_n 1, 1) := by decide +kernel
theorem d_S_putIn_15 : decode b_S_putIn 15 = .ok (.iconst 1, 1) := by decide +kernel
theorem d_S_putIn_16 : decode b_S_putIn 16 = .ok (.invokevirtual 35, 3) := by decide +kernel
theorem d_S_putIn_19 : decode b_S_putIn 19 = .ok (.iconst 0, 1) := by decide +kernel
theorem d_S_putIn_20 : decode b_S_putIn 20 = .ok (.ireturn, 1) := by decide +kernel
theorem d_S_takeOut_0 : decode b_S_takeOut 0 = .ok (.aload_n 0, 1) := by decide +kernel
theorem d_S_takeOut_1 : decode b_S_takeOut 1 = .ok (.getfield 31, 3) := by decide +kernel
theorem d_S_takeOut_4 : decode b_S_takeOut 4 = .ok (.sipush 1000, 3) := by decide +kernel
theorem d_S_takeOut_7 : decode b_S_takeOut 7 = .ok (.if_icmp .lt 6, 3) := by decide +kernel
theorem d_S_takeOut_10 : decode b_S_takeOut 10 = .ok (.bipush (-2), 2) := by decide +kernel
theorem d_S_takeOut_12 : decode b_S_takeOut 12 = .ok (.ireturn, 1) := by decide +kernel
theorem d_S_takeOut_13 : decode b_S_takeOut 13 = .ok (.aload_n 0, 1) := by decide +kernel
theorem d_S_takeOut_14 : decode b_S_takeOut 14 = .ok (.getfield 18, 3) := by decide +kernel
theorem d_S_takeOut_17 : decode b_S_takeOut 17 = .ok (.aload_n 1, 1) := by decide +kernel
theorem d_S_takeOut_18 : decode b_S_takeOut 18 = .ok (.invokestatic 39, 3) := by decide +kernel
theorem d_S_takeOut_21 : decode b_S_takeOut 21 = .ok (.iaload, 1) := by decide +kernel
theorem d_S_takeOut_22 : decode b_S_takeOut 22 = .ok (.ifCond .ne 6, 3) := by decide +kernel
theorem d_S_takeOut_25 : decode b_S_takeOut 25 = .ok (.bipush (-6), 2) := by decide +kernel
theorem d_S_takeOut_27 : decode b_S_takeOut 27 = .ok (.ireturn, 1) := by decide +kernel
theorem d_S_takeOut_28 : decode b_S_takeOut 28 = .ok (.aload_n 0, 1) := by decide +kernel
theorem d_S_takeOut_29 : decode b_S_takeOut 29 = .ok (.aload_n 1, 1) := by decide +kernel
theorem d_S_takeOut_30 : decode b_S_takeOut 30 = .ok (.iconst (-1), 1) := by decide +kernel
theorem d_S_takeOut_31 : decode b_S_takeOut 31 = .ok (.invokevirtual 35, 3) := by decide +kernel
theorem d_S_takeOut_34 : decode b_S_takeOut 34 = .ok (.iconst 0, 1) := by decide +kernel
theorem d_S_takeOut_35 : decode b_S_takeOut 35 = .ok (.ireturn, 1) := by decide +kernel
theorem d_S_change_0 : decode b_S_change 0 = .ok (.aload_n 0, 1) := by decide +kernel
theorem d_S_change_1 : decode b_S_change 1 = .ok (.getfield 18, 3) := by decide +kernel
theorem d_S_change_4 : decode b_S_change 4 = .ok (.aload_n 1, 1) := by decide +kernel
theorem d_S_change_5 : decode b_S_change 5 = .ok (.invokestatic 39, 3) := by decide +kernel
theorem d_S_change_8 : decode b_S_change 8 = .ok (.dup2, 1) := by decide +kernel
theorem d_S_change_9 : decode b_S_change 9 = .ok (.iaload, 1) := by decide +kernel
theorem d_S_change_10 : decode b_S_change 10 = .ok (.iload_n 2, 1) := by decide +kernel
theorem d_S_change_11 : decode b_S_change 11 = .ok (.iadd, 1) := by decide +kernel
theorem d_S_change_12 : decode b_S_change 12 = .ok (.iastore, 1) := by decide +kernel
theorem d_S_change_13 : decode b_S_change 13 = .ok (.aload_n 1, 1) := by decide +kernel
theorem d_S_change_14 : decode b_S_change 14 = .ok (.invokevirtual 43, 3) := by decide +kernel
theorem d_S_change_17 : decode b_S_change 17 = .ok (.ifCond .eq 23, 3) := by decide +kernel
theorem d_S_change_20 : decode b_S_change 20 = .ok (.aload_n 0, 1) := by decide +kernel
theorem d_S_change_21 : decode b_S_change 21 = .ok (.getfield 12, 3) := by decide +kernel
theorem d_S_change_24 : decode b_S_change 24 = .ok (.aload_n 1, 1) := by decide +kernel
theorem d_S_change_25 : decode b_S_change 25 = .ok (.getfield 49, 3) := by decide +kernel
theorem d_S_change_28 : decode b_S_change 28 = .ok (.iload_n 2, 1) := by decide +kernel
theorem d_S_change_29 : decode b_S_change 29 = .ok (.ifCond .ge 7, 3) := by decide +kernel
theorem d_S_change_32 : decode b_S_change 32 = .ok (.iconst 1, 1) := by decide +kernel
theorem d_S_change_33 : decode b_S_change 33 = .ok (.goto 4, 3) := by decide +kernel
theorem d_S_change_36 : decode b_S_change 36 = .ok (.iconst 0, 1) := by decide +kernel
theorem d_S_change_37 : decode b_S_change 37 = .ok (.invokevirtual 52, 3) := by decide +kernel
theorem d_S_change_40 : decode b_S_change 40 = .ok (.aload_n 0, 1) := by decide +kernel
theorem d_S_change_41 : decode b_S_change 41 = .ok (.dup, 1) := by decide +kernel
theorem d_S_change_42 : decode b_S_change 42 = .ok (.getfield 31, 3) := by decide +kernel
theorem d_S_change_45 : decode b_S_change 45 = .ok (.iconst 1, 1) := by decide +kernel
theorem d_S_change_46 : decode b_S_change 46 = .ok (.iadd, 1) := by decide +kernel
theorem d_S_change_47 : decode b_S_change 47 = .ok (.putfield 31, 3) := by decide +kernel
theorem d_S_change_50 : decode b_S_change 50 = .ok (.return_, 1) := by decide +kernel
theorem d_S_countOf_0 : decode b_S_countOf 0 = .ok (.aload_n 0, 1) := by decide +kernel
theorem d_S_countOf_1 : decode b_S_countOf 1 = .ok (.invokevirtual 43, 3) := by decide +kernel
theorem d_S_countOf_4 : decode b_S_countOf 4 = .ok (.ifCond .eq 8, 3) := by decide +kernel
theorem d_S_countOf_7 : decode b_S_countOf 7 = .ok (.aload_n 0, 1) := by decide +kernel
theorem d_S_countOf_8 : decode b_S_countOf 8 = .ok (.getfield 56, 3) := by decide +kernel
theorem d_S_countOf_11 : decode b_S_countOf 11 = .ok (.ireturn, 1) := by decide +kernel
theorem d_S_countOf_12 : decode b_S_countOf 12 = .ok (.aload_n 0, 1) := by decide +kernel
theorem d_S_countOf_13 : decode b_S_countOf 13 = .ok (.getfield 59, 3) := by decide +kernel
theorem d_S_countOf_16 : decode b_S_countOf 16 = .ok (.getstatic 63, 3) := by decide +kernel
theorem d_S_countOf_19 : decode b_S_countOf 19 = .ok (.if_acmp .ne 6, 3) := by decide +kernel
theorem d_S_countOf_22 : decode b_S_countOf 22 = .ok (.bipush 25, 2) := by decide +kernel
theorem d_S_countOf_24 : decode b_S_countOf 24 = .ok (.ireturn, 1) := by decide +kernel
theorem d_S_countOf_25 : decode b_S_countOf 25 = .ok (.aload_n 0, 1) := by decide +kernel
theorem d_S_countOf_26 : decode b_S_countOf 26 = .ok (.getfield 59, 3) := by decide +kernel
theorem d_S_countOf_29 : decode b_S_countOf 29 = .ok (.getstatic 68, 3) := by decide +kernel
theorem d_S_countOf_32 : decode b_S_countOf 32 = .ok (.if_acmp .ne 8, 3) := by decide +kernel
theorem d_S_countOf_35 : decode b_S_countOf 35 = .ok (.bipush 26, 2) := by decide +kernel
theorem d_S_countOf_37 : decode b_S_countOf 37 = .ok (.goto 5, 3) := by decide +kernel
theorem d_S_countOf_40 : decode b_S_countOf 40 = .ok (.bipush 27, 2) := by decide +kernel
theorem d_S_countOf_42 : decode b_S_countOf 42 = .ok (.ireturn, 1) := by decide +kernel
theorem d_S_join_0 : decode b_S_join 0 = .ok (.aload_n 0, 1) := by decide +kernel
theorem d_S_join_1 : decode b_S_join 1 = .ok (.getfield 31, 3) := by decide +kernel
theorem d_S_join_4 : decode b_S_join 4 = .ok (.aload_n 1, 1) := by decide +kernel
theorem d_S_join_5 : decode b_S_join 5 = .ok (.getfield 31, 3) := by decide +kernel
theorem d_S_join_8 : decode b_S_join 8 = .ok (.iadd, 1) := by decide +kernel
theorem d_S_join_9 : decode b_S_join 9 = .ok (.sipush 1000, 3) := by decide +kernel
theorem d_S_join_12 : decode b_S_join 12 = .ok (.if_icmp .le 6, 3) := by decide +kernel
theorem d_S_join_15 : decode b_S_join 15 = .ok (.bipush (-2), 2) := by decide +kernel
theorem d_S_join_17 : decode b_S_join 17 = .ok (.ireturn, 1) := by decide +kernel
theorem d_S_join_18 : decode b_S_join 18 = .ok (.aload_n 0, 1) := by decide +kernel
theorem d_S_join_19 : decode b_S_join 19 = .ok (.getfield 12, 3) := by decide +kernel
theorem d_S_join_22 : decode b_S_join 22 = .ok (.aload_n 1, 1) := by decide +kernel
theorem d_S_join_23 : decode b_S_join 23 = .ok (.getfield 12, 3) := by decide +kernel
theorem d_S_join_26 : decode b_S_join 26 = .ok (.iconst 0, 1) := by decide +kernel
theorem d_S_join_27 : decode b_S_join 27 = .ok (.invokevirtual 52, 3) := by decide +kernel
theorem d_S_join_30 : decode b_S_join 30 = .ok (.iconst 0, 1) := by decide +kernel
theorem d_S_join_31 : decode b_S_join 31 = .ok (.istore_n 2, 1) := by decide +kernel
theorem d_S_join_32 : decode b_S_join 32 = .ok (.iload_n 2, 1) := by decide +kernel
theorem d_S_join_33 : decode b_S_join 33 = .ok (.bipush 28, 2) := by decide +kernel
theorem d_S_join_35 : decode b_S_join 35 = .ok (.if_icmp .ge 24, 3) := by decide +kernel
theorem d_S_join_38 : decode b_S_join 38 = .ok (.aload_n 0, 1) := by decide +kernel
theorem d_S_join_39 : decode b_S_join 39 = .ok (.getfield 18, 3) := by decide +kernel
theorem d_S_join_42 : decode b_S_join 42 = .ok (.iload_n 2, 1) := by decide +kernel
theorem d_S_join_43 : decode b_S_join 43 = .ok (.dup2, 1) := by decide +kernel
theorem d_S_join_44 : decode b_S_join 44 = .ok (.iaload, 1) := by decide +kernel
theorem d_S_join_45 : decode b_S_join 45 = .ok (.aload_n 1, 1) := by decide +kernel
theorem d_S_join_46 : decode b_S_join 46 = .ok (.getfield 18, 3) := by decide +kernel
theorem d_S_join_49 : decode b_S_join 49 = .ok (.iload_n 2, 1) := by decide +kernel
theorem d_S_join_50 : decode b_S_join 50 = .ok (.iaload, 1) := by decide +kernel
theorem d_S_join_51 : decode b_S_join 51 = .ok (.iadd, 1) := by decide +kernel
theorem d_S_join_52 : decode b_S_join 52 = .ok (.iastore, 1) := by decide +kernel
theorem d_S_join_53 : decode b_S_join 53 = .ok (.iinc 2 1, 3) := by decide +kernel
theorem d_S_join_56 : decode b_S_join 56 = .ok (.goto (-24), 3) := by decide +kernel
theorem d_S_join_59 : decode b_S_join 59 = .ok (.aload_n 0, 1) := by decide +kernel
theorem d_S_join_60 : decode b_S_join 60 = .ok (.dup, 1) := by decide +kernel
theorem d_S_join_61 : decode b_S_join 61 = .ok (.getfield 31, 3) := by decide +kernel
theorem d_S_join_64 : decode b_S_join 64 = .ok (.aload_n 1, 1) := by decide +kernel
theorem d_S_join_65 : decode b_S_join 65 = .ok (.getfield 31, 3) := by decide +kernel
theorem d_S_join_68 : decode b_S_join 68 = .ok (.iadd, 1) := by decide +kernel
theorem d_S_join_69 : decode b_S_join 69 = .ok (.putfield 31, 3) := by decide +kernel
theorem d_S_join_72 : decode b_S_join 72 = .ok (.iconst 0, 1) := by decide +kernel
theorem d_S_join_73 : decode b_S_join 73 = .ok (.ireturn, 1) := by decide +kernel
theorem d_S_members_0 : decode b_S_members 0 = .ok (.iconst 0, 1) := by decide +kernel
theorem d_S_members_1 : decode b_S_members 1 = .ok (.istore_n 1, 1) := by decide +kernel
theorem d_S_members_2 : decode b_S_members 2 = .ok (.iconst 0, 1) := by decide +kernel
theorem d_S_members_3 : decode b_S_members 3 = .ok (.istore_n 2, 1) := by decide +kernel
theorem d_S_members_4 : decode b_S_members 4 = .ok (.iload_n 2, 1) := by decide +kernel
theorem d_S_members_5 : decode b_S_members 5 = .ok (.bipush 28, 2) := by decide +kernel
theorem d_S_members_7 : decode b_S_members 7 = .ok (.if_icmp .ge 18, 3) := by decide +kernel
theorem d_S_members_10 : decode b_S_members 10 = .ok (.iload_n 1, 1) := by decide +kernel
theorem d_S_members_11 : decode b_S_members 11 = .ok (.aload_n 0, 1) := by decide +kernel
theorem d_S_members_12 : decode b_S_members 12 = .ok (.getfield 18, 3) := by decide +kernel
theorem d_S_members_15 : decode b_S_members 15 = .ok (.iload_n 2, 1) := by decide +kernel
theorem d_S_members_16 : decode b_S_members 16 = .ok (.iaload, 1) := by decide +kernel
theorem d_S_members_17 : decode b_S_members 17 = .ok (.iadd, 1) := by decide +kernel
theorem d_S_members_18 : decode b_S_members 18 = .ok (.istore_n 1, 1) := by decide +kernel
theorem d_S_members_19 : decode b_S_members 19 = .ok (.iinc 2 1, 3) := by decide +kernel
theorem d_S_members_22 : decode b_S_members 22 = .ok (.goto (-18), 3) := by decide +kernel
theorem d_S_members_25 : decode b_S_members 25 = .ok (.iload_n 1, 1) := by decide +kernel
theorem d_S_members_26 : decode b_S_members 26 = .ok (.ireturn, 1) := by decide +kernel
theorem d_S_resultInto_0 : decode b_S_resultInto 0 = .ok (.aload_n 0, 1) := by decide +kernel
theorem d_S_resultInto_1 : decode b_S_resultInto 1 = .ok (.invokevirtual 71, 3) := by decide +kernel
theorem d_S_resultInto_4 : decode b_S_resultInto 4 = .ok (.ifCond .ne 6, 3) := by decide +kernel
theorem d_S_resultInto_7 : decode b_S_resultInto 7 = .ok (.bipush (-6), 2) := by decide +kernel
theorem d_S_resultInto_9 : decode b_S_resultInto 9 = .ok (.ireturn, 1) := by decide +kernel
theorem d_S_resultInto_10 : decode b_S_resultInto 10 = .ok (.aload_n 0, 1) := by decide +kernel
theorem d_S_resultInto_11 : decode b_S_resultInto 11 = .ok (.getfield 18, 3) := by decide +kernel
theorem d_S_resultInto_14 : decode b_S_resultInto 14 = .ok (.bipush 26, 2) := by decide +kernel
theorem d_S_resultInto_16 : decode b_S_resultInto 16 = .ok (.iaload, 1) := by decide +kernel
theorem d_S_resultInto_17 : decode b_S_resultInto 17 = .ok (.ifCond .eq 7, 3) := by decide +kernel
theorem d_S_resultInto_20 : decode b_S_resultInto 20 = .ok (.iconst 1, 1) := by decide +kernel
theorem d_S_resultInto_21 : decode b_S_resultInto 21 = .ok (.goto 4, 3) := by decide +kernel
theorem d_S_resultInto_24 : decode b_S_resultInto 24 = .ok (.iconst 0, 1) := by decide +kernel
theorem d_S_resultInto_25 : decode b_S_resultInto 25 = .ok (.istore_n 2, 1) := by decide +kernel
theorem d_S_resultInto_26 : decode b_S_resultInto 26 = .ok (.aload_n 0, 1) := by decide +kernel
theorem d_S_resultInto_27 : decode b_S_resultInto 27 = .ok (.getfield 18, 3) := by decide +kernel
theorem d_S_resultInto_30 : decode b_S_resultInto 30 = .ok (.bipush 27, 2) := by decide +kernel
theorem d_S_resultInto_32 : decode b_S_resultInto 32 = .ok (.iaload, 1) := by decide +kernel
theorem d_S_resultInto_33 : decode b_S_resultInto 33 = .ok (.ifCond .eq 7, 3) := by decide +kernel
theorem d_S_resultInto_36 : decode b_S_resultInto 36 = .ok (.iconst 1, 1) := by decide +kernel
theorem d_S_resultInto_37 : decode b_S_resultInto 37 = .ok (.goto 4, 3) := by decide +kernel
theorem d_S_resultInto_40 : decode b_S_resultInto 40 = .ok (.iconst 0, 1) := by decide +kernel
theorem d_S_resultInto_41 : decode b_S_resultInto 41 = .ok (.istore_n 3, 1) := by decide +kernel
theorem d_S_resultInto_42 : decode b_S_resultInto 42 = .ok (.aload_n 0, 1) := by decide +kernel
theorem d_S_resultInto_43 : decode b_S_resultInto 43 = .ok (.getfield 18, 3) := by decide +kernel
theorem d_S_resultInto_46 : decode b_S_resultInto 46 = .ok (.bipush 25, 2) := by decide +kernel
theorem d_S_resultInto_48 : decode b_S_resultInto 48 = .ok (.iaload, 1) := by decide +kernel
theorem d_S_resultInto_49 : decode b_S_resultInto 49 = .ok (.ifCond .ne 11, 3) := by decide +kernel
theorem d_S_resultInto_52 : decode b_S_resultInto 52 = .ok (.iload_n 2, 1) := by decide +kernel
theorem d_S_resultInto_53 : decode b_S_resultInto 53 = .ok (.ifCond .eq 16, 3) := by decide +kernel
theorem d_S_resultInto_56 : decode b_S_resultInto 56 = .ok (.iload_n 3, 1) := by decide +kernel
theorem d_S_resultInto_57 : decode b_S_resultInto 57 = .ok (.ifCond .eq 12, 3) := by decide +kernel
theorem d_S_resultInto_60 : decode b_S_resultInto 60 = .ok (.aload_n 1, 1) := by decide +kernel
theorem d_S_resultInto_61 : decode b_S_resultInto 61 = .ok (.getstatic 63, 3) := by decide +kernel
theorem d_S_resultInto_64 : decode b_S_resultInto 64 = .ok (.invokevirtual 75, 3) := by decide +kernel
theorem d_S_resultInto_67 : decode b_S_resultInto 67 = .ok (.iconst 0, 1) := by decide +kernel
theorem d_S_resultInto_68 : decode b_S_resultInto 68 = .ok (.ireturn, 1) := by decide +kernel
theorem d_S_resultInto_69 : decode b_S_resultInto 69 = .ok (.iload_n 2, 1) := by decide +kernel
theorem d_S_resultInto_70 : decode b_S_resultInto 70 = .ok (.ifCond .ne 7, 3) := by decide +kernel
theorem d_S_resultInto_73 : decode b_S_resultInto 73 = .ok (.iload_n 3, 1) := by decide +kernel
theorem d_S_resultInto_74 : decode b_S_resultInto 74 = .ok (.ifCond .eq 18, 3) := by decide +kernel
theorem d_S_resultInto_77 : decode b_S_resultInto 77 = .ok (.aload_n 1, 1) := by decide +kernel
theorem d_S_resultInto_78 : decode b_S_resultInto 78 = .ok (.iload_n 3, 1) := by decide +kernel
theorem d_S_resultInto_79 : decode b_S_resultInto 79 = .ok (.ifCond .eq 7, 3) := by decide +kernel
theorem d_S_resultInto_82 : decode b_S_resultInto 82 = .ok (.iconst (-1), 1) := by decide +kernel
theorem d_S_resultInto_83 : decode b_S_resultInto 83 = .ok (.goto 4, 3) := by decide +kernel
theorem d_S_resultInto_86 : decode b_S_resultInto 86 = .ok (.iconst 1, 1) := by decide +kernel
theorem d_S_resultInto_87 : decode b_S_resultInto 87 = .ok (.invokevirtual 79, 3) := by decide +kernel
theorem d_S_resultInto_90 : decode b_S_resultInto 90 = .ok (.iconst 0, 1) := by decide +kernel
theorem d_S_resultInto_91 : decode b_S_resultInto 91 = .ok (.ireturn, 1) := by decide +kernel
theorem d_S_resultInto_92 : decode b_S_resultInto 92 = .ok (.aload_n 1, 1) := by decide +kernel
theorem d_S_resultInto_93 : decode b_S_resultInto 93 = .ok (.getstatic 83, 3) := by decide +kernel
theorem d_S_resultInto_96 : decode b_S_resultInto 96 = .ok (.invokevirtual 75, 3) := by decide +kernel
theorem d_S_resultInto_99 : decode b_S_resultInto 99 = .ok (.aload_n 1, 1) := by decide +kernel
theorem d_S_resultInto_100 : decode b_S_resultInto 100 = .ok (.getfield 49, 3) := by decide +kernel
theorem d_S_resultInto_103 : decode b_S_resultInto 103 = .ok (.aload_n 0, 1) := by decide +kernel
theorem d_S_resultInto_104 : decode b_S_resultInto 104 = .ok (.getfield 12, 3) := by decide +kernel
theorem d_S_resultInto_107 : decode b_S_resultInto 107 = .ok (.invokevirtual 86, 3) := by decide +kernel
theorem d_S_resultInto_110 : decode b_S_resultInto 110 = .ok (.aload_n 1, 1) := by decide +kernel
theorem d_S_resultInto_111 : decode b_S_resultInto 111 = .ok (.aload_n 0, 1) := by decide +kernel
theorem d_S_resultInto_112 : decode b_S_resultInto 112 = .ok (.invokevirtual 90, 3) := by decide +kernel
theorem d_S_resultInto_115 : decode b_S_resultInto 115 = .ok (.invokevirtual 93, 3) := by decide +kernel
theorem d_S_resultInto_118 : decode b_S_resultInto 118 = .ok (.aload_n 1, 1) := by decide +kernel
theorem d_S_resultInto_119 : decode b_S_resultInto 119 = .ok (.invokevirtual 96, 3) := by decide +kernel
theorem d_S_resultInto_122 : decode b_S_resultInto 122 = .ok (.ifCond .eq 8, 3) := by decide +kernel
theorem d_S_resultInto_125 : decode b_S_resultInto 125 = .ok (.bipush (-3), 2) := by decide +kernel
theorem d_S_resultInto_127 : decode b_S_resultInto 127 = .ok (.goto 4, 3) := by decide +kernel
theorem d_S_resultInto_130 : decode b_S_resultInto 130 = .ok (.iconst 0, 1) := by decide +kernel
theorem d_S_resultInto_131 : decode b_S_resultInto 131 = .ok (.ireturn, 1) := by decide +kernel
theorem d_S_greatestPlaces_0 : decode b_S_greatestPlaces 0 = .ok (.bipush 24, 2) := by decide +kernel
theorem d_S_greatestPlaces_2 : decode b_S_greatestPlaces 2 = .ok (.istore_n 1, 1) := by decide +kernel
theorem d_S_greatestPlaces_3 : decode b_S_greatestPlaces 3 = .ok (.iload_n 1, 1) := by decide +kernel
theorem d_S_greatestPlaces_4 : decode b_S_greatestPlaces 4 = .ok (.ifCond .le 18, 3) := by decide +kernel
theorem d_S_greatestPlaces_7 : decode b_S_greatestPlaces 7 = .ok (.aload_n 0, 1) := by decide +kernel
theorem d_S_greatestPlaces_8 : decode b_S_greatestPlaces 8 = .ok (.getfield 18, 3) := by decide +kernel
theorem d_S_greatestPlaces_11 : decode b_S_greatestPlaces 11 = .ok (.iload_n 1, 1) := by decide +kernel
theorem d_S_greatestPlaces_12 : decode b_S_greatestPlaces 12 = .ok (.iaload, 1) := by decide +kernel
theorem d_S_greatestPlaces_13 : decode b_S_greatestPlaces 13 = .ok (.ifCond .ne 9, 3) := by decide +kernel
theorem d_S_greatestPlaces_16 : decode b_S_greatestPlaces 16 = .ok (.iinc 1 (-1), 3) := by decide +kernel
theorem d_S_greatestPlaces_19 : decode b_S_greatestPlaces 19 = .ok (.goto (-16), 3) := by decide +kernel
theorem d_S_greatestPlaces_22 : decode b_S_greatestPlaces 22 = .ok (.iload_n 1, 1) := by decide +kernel
theorem d_S_greatestPlaces_23 : decode b_S_greatestPlaces 23 = .ok (.ireturn, 1) := by decide +kernel
theorem d_B_init_0 : decode b_B_init 0 = .ok (.aload_n 0, 1) := by decide +kernel
theorem d_B_init_1 : decode b_B_init 1 = .ok (.invokespecial 5, 3) := by decide +kernel
theorem d_B_init_4 : decode b_B_init 4 = .ok (.aload_n 0, 1) := by decide +kernel
theorem d_B_init_5 : decode b_B_init 5 = .ok (.bipush 30, 2) := by decide +kernel
theorem d_B_init_7 : decode b_B_init 7 = .ok (.newarray .int, 2) := by decide +kernel
theorem d_B_init_9 : decode b_B_init 9 = .ok (.putfield 11, 3) := by decide +kernel
theorem d_B_init_12 : decode b_B_init 12 = .ok (.aload_n 0, 1) := by decide +kernel
theorem d_B_init_13 : decode b_B_init 13 = .ok (.bipush 30, 2) := by decide +kernel
theorem d_B_init_15 : decode b_B_init 15 = .ok (.newarray .int, 2) := by decide +kernel
theorem d_B_init_17 : decode b_B_init 17 = .ok (.putfield 15, 3) := by decide +kernel
theorem d_B_init_20 : decode b_B_init 20 = .ok (.aload_n 0, 1) := by decide +kernel
theorem d_B_init_21 : decode b_B_init 21 = .ok (.bipush 30, 2) := by decide +kernel
theorem d_B_init_23 : decode b_B_init 23 = .ok (.newarray .int, 2) := by decide +kernel
theorem d_B_init_25 : decode b_B_init 25 = .ok (.putfield 18, 3) := by decide +kernel
theorem d_B_init_28 : decode b_B_init 28 = .ok (.aload_n 0, 1) := by decide +kernel
theorem d_B_init_29 : decode b_B_init 29 = .ok (.bipush 30, 2) := by decide +kernel
theorem d_B_init_31 : decode b_B_init 31 = .ok (.newarray .int, 2) := by decide +kernel
theorem d_B_init_33 : decode b_B_init 33 = .ok (.putfield 21, 3) := by decide +kernel
theorem d_B_init_36 : decode b_B_init 36 = .ok (.return_, 1) := by decide +kernel
theorem d_B_combine_0 : decode b_B_combine 0 = .ok (.aload_n 2, 1) := by decide +kernel
theorem d_B_combine_1 : decode b_B_combine 1 = .ok (.getfield 24, 3) := by decide +kernel
theorem d_B_combine_4 : decode b_B_combine 4 = .ok (.getstatic 30, 3) := by decide +kernel
theorem d_B_combine_7 : decode b_B_combine 7 = .ok (.if_acmp .eq 13, 3) := by decide +kernel
theorem d_B_combine_10 : decode b_B_combine 10 = .ok (.aload_n 3, 1) := by decide +kernel
theorem d_B_combine_11 : decode b_B_combine 11 = .ok (.getfield 24, 3) := by decide +kernel
theorem d_B_combine_14 : decode b_B_combine 14 = .ok (.getstatic 30, 3) := by decide +kernel
theorem d_B_combine_17 : decode b_B_combine 17 = .ok (.if_acmp .ne 13, 3) := by decide +kernel
theorem d_B_combine_20 : decode b_B_combine 20 = .ok (.aload 4, 2) := by decide +kernel
theorem d_B_combine_22 : decode b_B_combine 22 = .ok (.getstatic 30, 3) := by decide +kernel
theorem d_B_combine_25 : decode b_B_combine 25 = .ok (.invokevirtual 35, 3) := by decide +kernel
theorem d_B_combine_28 : decode b_B_combine 28 = .ok (.iconst 0, 1) := by decide +kernel
theorem d_B_combine_29 : decode b_B_combine 29 = .ok (.ireturn, 1) := by decide +kernel
theorem d_B_combine_30 : decode b_B_combine 30 = .ok (.aload_n 2, 1) := by decide +kernel
theorem d_B_combine_31 : decode b_B_combine 31 = .ok (.invokevirtual 39, 3) := by decide +kernel
theorem d_B_combine_34 : decode b_B_combine 34 = .ok (.ifCond .eq 14, 3) := by decide +kernel
theorem d_B_combine_37 : decode b_B_combine 37 = .ok (.aload_n 3, 1) := by decide +kernel
theorem d_B_combine_38 : decode b_B_combine 38 = .ok (.invokevirtual 39, 3) := by decide +kernel
theorem d_B_combine_41 : decode b_B_combine 41 = .ok (.ifCond .eq 7, 3) := by decide +kernel
theorem d_B_combine_44 : decode b_B_combine 44 = .ok (.iconst 1, 1) := by decide +kernel
theorem d_B_combine_45 : decode b_B_combine 45 = .ok (.goto 4, 3) := by decide +kernel
theorem d_B_combine_48 : decode b_B_combine 48 = .ok (.iconst 0, 1) := by decide +kernel
theorem d_B_combine_49 : decode b_B_combine 49 = .ok (.istore 5, 2) := by decide +kernel
theorem d_B_combine_51 : decode b_B_combine 51 = .ok (.iload_n 1, 1) := by decide +kernel
theorem d_B_combine_52 : decode b_B_combine 52 = .ok (.tableswitch 98 0 2 #[28, 28, 73], 28) := by decide +kernel
theorem d_B_combine_80 : decode b_B_combine 80 = .ok (.iload 5, 2) := by decide +kernel
theorem d_B_combine_82 : decode b_B_combine 82 = .ok (.ifCond .eq 24, 3) := by decide +kernel
theorem d_B_combine_85 : decode b_B_combine 85 = .ok (.aload_n 0, 1) := by decide +kernel
theorem d_B_combine_86 : decode b_B_combine 86 = .ok (.aload_n 2, 1) := by decide +kernel
theorem d_B_combine_87 : decode b_B_combine 87 = .ok (.aload_n 3, 1) := by decide +kernel
theorem d_B_combine_88 : decode b_B_combine 88 = .ok (.iload_n 1, 1) := by decide +kernel
theorem d_B_combine_89 : decode b_B_combine 89 = .ok (.iconst 1, 1) := by decide +kernel
theorem d_B_combine_90 : decode b_B_combine 90 = .ok (.if_icmp .ne 7, 3) := by decide +kernel
theorem d_B_combine_93 : decode b_B_combine 93 = .ok (.iconst 1, 1) := by decide +kernel
theorem d_B_combine_94 : decode b_B_combine 94 = .ok (.goto 4, 3) := by decide +kernel
theorem d_B_combine_97 : decode b_B_combine 97 = .ok (.iconst 0, 1) := by decide +kernel
theorem d_B_combine_98 : decode b_B_combine 98 = .ok (.aload 4, 2) := by decide +kernel
theorem d_B_combine_100 : decode b_B_combine 100 = .ok (.invokevirtual 43, 3) := by decide +kernel
theorem d_B_combine_103 : decode b_B_combine 103 = .ok (.goto 21, 3) := by decide +kernel
theorem d_B_combine_106 : decode b_B_combine 106 = .ok (.aload_n 0, 1) := by decide +kernel
theorem d_B_combine_107 : decode b_B_combine 107 = .ok (.aload_n 2, 1) := by decide +kernel
theorem d_B_combine_108 : decode b_B_combine 108 = .ok (.aload_n 3, 1) := by decide +kernel
theorem d_B_combine_109 : decode b_B_combine 109 = .ok (.iload_n 1, 1) := by decide +kernel
theorem d_B_combine_110 : decode b_B_combine 110 = .ok (.iconst 1, 1) := by decide +kernel
theorem d_B_combine_111 : decode b_B_combine 111 = .ok (.if_icmp .ne 7, 3) := by decide +kernel
theorem d_B_combine_114 : decode b_B_combine 114 = .ok (.iconst 1, 1) := by decide +kernel
theorem d_B_combine_115 : decode b_B_combine 115 = .ok (.goto 4, 3) := by decide +kernel
theorem d_B_combine_118 : decode b_B_combine 118 = .ok (.iconst 0, 1) := by decide +kernel
theorem d_B_combine_119 : decode b_B_combine 119 = .ok (.aload 4, 2) := by decide +kernel
theorem d_B_combine_121 : decode b_B_combine 121 = .ok (.invokevirtual 47, 3) := by decide +kernel
theorem d_B_combine_124 : decode b_B_combine 124 = .ok (.ireturn, 1) := by decide +kernel
theorem d_B_combine_125 : decode b_B_combine 125 = .ok (.iload 5, 2) := by decide +kernel
theorem d_B_combine_127 : decode b_B_combine 127 = .ok (.ifCond .eq 14, 3) := by decide +kernel
theorem d_B_combine_130 : decode b_B_combine 130 = .ok (.aload_n 0, 1) := by decide +kernel
theorem d_B_combine_131 : decode b_B_combine 131 = .ok (.aload_n 2, 1) := by decide +kernel
theorem d_B_combine_132 : decode b_B_combine 132 = .ok (.aload_n 3, 1) := by decide +kernel
theorem d_B_combine_133 : decode b_B_combine 133 = .ok (.aload 4, 2) := by decide +kernel
theorem d_B_combine_135 : decode b_B_combine 135 = .ok (.invokevirtual 50, 3) := by decide +kernel
theorem d_B_combine_138 : decode b_B_combine 138 = .ok (.goto 11, 3) := by decide +kernel
theorem d_B_combine_141 : decode b_B_combine 141 = .ok (.aload_n 0, 1) := by decide +kernel
theorem d_B_combine_142 : decode b_B_combine 142 = .ok (.aload_n 2, 1) := by decide +kernel
theorem d_B_combine_143 : decode b_B_combine 143 = .ok (.aload_n 3, 1) := by decide +kernel
theorem d_B_combine_144 : decode b_B_combine 144 = .ok (.aload 4, 2) := by decide +kernel
theorem d_B_combine_146 : decode b_B_combine 146 = .ok (.invokevirtual 54, 3) := by decide +kernel
theorem d_B_combine_149 : decode b_B_combine 149 = .ok (.ireturn, 1) := by decide +kernel
theorem d_B_combine_150 : decode b_B_combine 150 = .ok (.aload_n 3, 1) := by decide +kernel
theorem d_B_combine_151 : decode b_B_combine 151 = .ok (.invokevirtual 57, 3) := by decide +kernel
theorem d_B_combine_154 : decode b_B_combine 154 = .ok (.ifCond .eq 8, 3) := by decide +kernel
theorem d_B_combine_157 : decode b_B_combine 157 = .ok (.bipush (-4), 2) := by decide +kernel
theorem d_B_combine_159 : decode b_B_combine 159 = .ok (.goto 14, 3) := by decide +kernel
theorem d_B_combine_162 : decode b_B_combine 162 = .ok (.aload_n 0, 1) := by decide +kernel
theorem d_B_combine_163 : decode b_B_combine 163 = .ok (.iload_n 1, 1) := by decide +kernel
theorem d_B_combine_164 : decode b_B_combine 164 = .ok (.aload_n 2, 1) := by decide +kernel
theorem d_B_combine_165 : decode b_B_combine 165 = .ok (.aload_n 3, 1) := by decide +kernel
theorem d_B_combine_166 : decode b_B_combine 166 = .ok (.iload 5, 2) := by decide +kernel
theorem d_B_combine_168 : decode b_B_combine 168 = .ok (.aload 4, 2) := by decide +kernel
theorem d_B_combine_170 : decode b_B_combine 170 = .ok (.invokevirtual 60, 3) := by decide +kernel
theorem d_B_combine_173 : decode b_B_combine 173 = .ok (.ireturn, 1) := by decide +kernel
theorem d_B_share_0 : decode b_B_share 0 = .ok (.iload_n 1, 1) := by decide +kernel
theorem d_B_share_1 : decode b_B_share 1 = .ok (.lookupswitch 77 #[(3, 27), (4, 52)], 27) := by decide +kernel
theorem d_B_share_28 : decode b_B_share 28 = .ok (.iload 4, 2) := by decide +kernel
theorem d_B_share_30 : decode b_B_share 30 = .ok (.ifCond .eq 14, 3) := by decide +kernel
theorem d_B_share_33 : decode b_B_share 33 = .ok (.aload_n 0, 1) := by decide +kernel
theorem d_B_share_34 : decode b_B_share 34 = .ok (.aload_n 2, 1) := by decide +kernel
theorem d_B_share_35 : decode b_B_share 35 = .ok (.aload_n 3, 1) := by decide +kernel
theorem d_B_share_36 : decode b_B_share 36 = .ok (.aload 5, 2) := by decide +kernel
theorem d_B_share_38 : decode b_B_share 38 = .ok (.invokevirtual 64, 3) := by decide +kernel
theorem d_B_share_41 : decode b_B_share 41 = .ok (.goto 11, 3) := by decide +kernel
theorem d_B_share_44 : decode b_B_share 44 = .ok (.aload_n 0, 1) := by decide +kernel
theorem d_B_share_45 : decode b_B_share 45 = .ok (.aload_n 2, 1) := by decide +kernel
theorem d_B_share_46 : decode b_B_share 46 = .ok (.aload_n 3, 1) := by decide +kernel
theorem d_B_share_47 : decode b_B_share 47 = .ok (.aload 5, 2) := by decide +kernel
theorem d_B_share_49 : decode b_B_share 49 = .ok (.invokevirtual 67, 3) := by decide +kernel
theorem d_B_share_52 : decode b_B_share 52 = .ok (.ireturn, 1) := by decide +kernel
theorem d_B_share_53 : decode b_B_share 53 = .ok (.iload 4, 2) := by decide +kernel
theorem d_B_share_55 : decode b_B_share 55 = .ok (.ifCond .eq 14, 3) := by decide +kernel
theorem d_B_share_58 : decode b_B_share 58 = .ok (.aload_n 0, 1) := by decide +kernel
theorem d_B_share_59 : decode b_B_share 59 = .ok (.aload_n 2, 1) := by decide +kernel
theorem d_B_share_60 : decode b_B_share 60 = .ok (.aload_n 3, 1) := by decide +kernel
theorem d_B_share_61 : decode b_B_share 61 = .ok (.aload 5, 2) := by decide +kernel
theorem d_B_share_63 : decode b_B_share 63 = .ok (.invokevirtual 70, 3) := by decide +kernel
theorem d_B_share_66 : decode b_B_share 66 = .ok (.goto 11, 3) := by decide +kernel
theorem d_B_share_69 : decode b_B_share 69 = .ok (.aload_n 0, 1) := by decide +kernel
theorem d_B_share_70 : decode b_B_share 70 = .ok (.aload_n 2, 1) := by decide +kernel
theorem d_B_share_71 : decode b_B_share 71 = .ok (.aload_n 3, 1) := by decide +kernel
theorem d_B_share_72 : decode b_B_share 72 = .ok (.aload 5, 2) := by decide +kernel
theorem d_B_share_74 : decode b_B_share 74 = .ok (.invokevirtual 67, 3) := by decide +kernel
theorem d_B_share_77 : decode b_B_share 77 = .ok (.ireturn, 1) := by decide +kernel
theorem d_B_share_78 : decode b_B_share 78 = .ok (.iload 4, 2) := by decide +kernel
theorem d_B_share_80 : decode b_B_share 80 = .ok (.ifCond .eq 14, 3) := by decide +kernel
theorem d_B_share_83 : decode b_B_share 83 = .ok (.aload_n 0, 1) := by decide +kernel
theorem d_B_share_84 : decode b_B_share 84 = .ok (.aload_n 2, 1) := by decide +kernel
theorem d_B_share_85 : decode b_B_share 85 = .ok (.aload_n 3, 1) := by decide +kernel
theorem d_B_share_86 : decode b_B_share 86 = .ok (.aload 5, 2) := by decide +kernel
theorem d_B_share_88 : decode b_B_share 88 = .ok (.invokevirtual 73, 3) := by decide +kernel
theorem d_B_share_91 : decode b_B_share 91 = .ok (.goto 10, 3) := by decide +kernel
theorem d_B_share_94 : decode b_B_share 94 = .ok (.aload_n 0, 1) := by decide +kernel
theorem d_B_share_95 : decode b_B_share 95 = .ok (.aload_n 2, 1) := by decide +kernel
theorem d_B_share_96 : decode b_B_share 96 = .ok (.aload 5, 2) := by decide +kernel
theorem d_B_share_98 : decode b_B_share 98 = .ok (.invokevirtual 76, 3) := by decide +kernel
theorem d_B_share_101 : decode b_B_share 101 = .ok (.ireturn, 1) := by decide +kernel
theorem d_B_add_0 : decode b_B_add 0 = .ok (.aload 4, 2) := by decide +kernel
theorem d_B_add_2 : decode b_B_add 2 = .ok (.aload_n 1, 1) := by decide +kernel
theorem d_B_add_3 : decode b_B_add 3 = .ok (.invokevirtual 80, 3) := by decide +kernel
theorem d_B_add_6 : decode b_B_add 6 = .ok (.aload 4, 2) := by decide +kernel
theorem d_B_add_8 : decode b_B_add 8 = .ok (.getfield 84, 3) := by decide +kernel
theorem d_B_add_11 : decode b_B_add 11 = .ok (.aload_n 2, 1) := by decide +kernel
theorem d_B_add_12 : decode b_B_add 12 = .ok (.getfield 84, 3) := by decide +kernel
theorem d_B_add_15 : decode b_B_add 15 = .ok (.iload_n 3, 1) := by decide +kernel
theorem d_B_add_16 : decode b_B_add 16 = .ok (.invokevirtual 88, 3) := by decide +kernel
theorem d_B_add_19 : decode b_B_add 19 = .ok (.aload 4, 2) := by decide +kernel
theorem d_B_add_21 : decode b_B_add 21 = .ok (.aload_n 1, 1) := by decide +kernel
theorem d_B_add_22 : decode b_B_add 22 = .ok (.getfield 94, 3) := by decide +kernel
theorem d_B_add_25 : decode b_B_add 25 = .ok (.aload_n 2, 1) := by decide +kernel
theorem d_B_add_26 : decode b_B_add 26 = .ok (.getfield 94, 3) := by decide +kernel
theorem d_B_add_29 : decode b_B_add 29 = .ok (.invokestatic 98, 3) := by decide +kernel
theorem d_B_add_32 : decode b_B_add 32 = .ok (.putfield 94, 3) := by decide +kernel
theorem d_B_add_35 : decode b_B_add 35 = .ok (.aload 4, 2) := by decide +kernel
theorem d_B_add_37 : decode b_B_add 37 = .ok (.invokestatic 104, 3) := by decide +kernel
theorem d_B_add_40 : decode b_B_add 40 = .ok (.ireturn, 1) := by decide +kernel
theorem d_B_addInfinite_0 : decode b_B_addInfinite 0 = .ok (.aload_n 1, 1) := by decide +kernel
theorem d_B_addInfinite_1 : decode b_B_addInfinite 1 = .ok (.invokevirtual 39, 3) := by decide +kernel
theorem d_B_addInfinite_4 : decode b_B_addInfinite 4 = .ok (.ifCond .eq 7, 3) := by decide +kernel
theorem d_B_addInfinite_7 : decode b_B_addInfinite 7 = .ok (.iconst 0, 1) := by decide +kernel
theorem d_B_addInfinite_8 : decode b_B_addInfinite 8 = .ok (.goto 7, 3) := by decide +kernel
theorem d_B_addInfinite_11 : decode b_B_addInfinite 11 = .ok (.aload_n 1, 1) := by decide +kernel
theorem d_B_addInfinite_12 : decode b_B_addInfinite 12 = .ok (.invokevirtual 108, 3) := by decide +kernel
theorem d_B_addInfinite_15 : decode b_B_addInfinite 15 = .ok (.istore 5, 2) := by decide +kernel
theorem d_B_addInfinite_17 : decode b_B_addInfinite 17 = .ok (.aload_n 2, 1) := by decide +kernel
theorem d_B_addInfinite_18 : decode b_B_addInfinite 18 = .ok (.invokevirtual 39, 3) := by decide +kernel
theorem d_B_addInfinite_21 : decode b_B_addInfinite 21 = .ok (.ifCond .eq 7, 3) := by decide +kernel
theorem d_B_addInfinite_24 : decode b_B_addInfinite 24 = .ok (.iconst 0, 1) := by decide +kernel
theorem d_B_addInfinite_25 : decode b_B_addInfinite 25 = .ok (.goto 7, 3) := by decide +kernel
theorem d_B_addInfinite_28 : decode b_B_addInfinite 28 = .ok (.aload_n 2, 1) := by decide +kernel
theorem d_B_addInfinite_29 : decode b_B_addInfinite 29 = .ok (.invokevirtual 108, 3) := by decide +kernel
theorem d_B_addInfinite_32 : decode b_B_addInfinite 32 = .ok (.istore 6, 2) := by decide +kernel
theorem d_B_addInfinite_34 : decode b_B_addInfinite 34 = .ok (.iload_n 3, 1) := by decide +kernel
theorem d_B_addInfinite_35 : decode b_B_addInfinite 35 = .ok (.ifCond .eq 11, 3) := by decide +kernel
theorem d_B_addInfinite_38 : decode b_B_addInfinite 38 = .ok (.iload 5, 2) := by decide +kernel
theorem d_B_addInfinite_40 : decode b_B_addInfinite 40 = .ok (.iload 6, 2) := by decide +kernel
theorem d_B_addInfinite_42 : decode b_B_addInfinite 42 = .ok (.isub, 1) := by decide +kernel
theorem d_B_addInfinite_43 : decode b_B_addInfinite 43 = .ok (.goto 8, 3) := by decide +kernel
theorem d_B_addInfinite_46 : decode b_B_addInfinite 46 = .ok (.iload 5, 2) := by decide +kernel
theorem d_B_addInfinite_48 : decode b_B_addInfinite 48 = .ok (.iload 6, 2) := by decide +kernel
theorem d_B_addInfinite_50 : decode b_B_addInfinite 50 = .ok (.iadd, 1) := by decide +kernel
theorem d_B_addInfinite_51 : decode b_B_addInfinite 51 = .ok (.istore 7, 2) := by decide +kernel
theorem d_B_addInfinite_53 : decode b_B_addInfinite 53 = .ok (.iload 7, 2) := by decide +kernel
theorem d_B_addInfinite_55 : decode b_B_addInfinite 55 = .ok (.ifCond .ne 14, 3) := by decide +kernel
theorem d_B_addInfinite_58 : decode b_B_addInfinite 58 = .ok (.aload 4, 2) := by decide +kernel
theorem d_B_addInfinite_60 : decode b_B_addInfinite 60 = .ok (.getstatic 30, 3) := by decide +kernel
theorem d_B_addInfinite_63 : decode b_B_addInfinite 63 = .ok (.invokevirtual 35, 3) := by decide +kernel
theorem d_B_addInfinite_66 : decode b_B_addInfinite 66 = .ok (.goto 10, 3) := by decide +kernel
theorem d_B_addInfinite_69 : decode b_B_addInfinite 69 = .ok (.aload 4, 2) := by decide +kernel
theorem d_B_addInfinite_71 : decode b_B_addInfinite 71 = .ok (.iload 7, 2) := by decide +kernel
theorem d_B_addInfinite_73 : decode b_B_addInfinite 73 = .ok (.invokevirtual 112, 3) := by decide +kernel
theorem d_B_addInfinite_76 : decode b_B_addInfinite 76 = .ok (.iconst 0, 1) := by decide +kernel
theorem d_B_addInfinite_77 : decode b_B_addInfinite 77 = .ok (.ireturn, 1) := by decide +kernel
theorem d_B_multiply_0 : decode b_B_multiply 0 = .ok (.aload_n 0, 1) := by decide +kernel
theorem d_B_multiply_1 : decode b_B_multiply 1 = .ok (.getfield 15, 3) := by decide +kernel
theorem d_B_multiply_4 : decode b_B_multiply 4 = .ok (.aload_n 1, 1) := by decide +kernel
theorem d_B_multiply_5 : decode b_B_multiply 5 = .ok (.getfield 84, 3) := by decide +kernel
theorem d_B_multiply_8 : decode b_B_multiply 8 = .ok (.getfield 116, 3) := by decide +kernel
theorem d_B_multiply_11 : decode b_B_multiply 11 = .ok (.aload_n 2, 1) := by decide +kernel
theorem d_B_multiply_12 : decode b_B_multiply 12 = .ok (.getfield 84, 3) := by decide +kernel
theorem d_B_multiply_15 : decode b_B_multiply 15 = .ok (.getfield 116, 3) := by decide +kernel
theorem d_B_multiply_18 : decode b_B_multiply 18 = .ok (.invokestatic 119, 3) := by decide +kernel
theorem d_B_multiply_21 : decode b_B_multiply 21 = .ok (.aload_n 1, 1) := by decide +kernel
theorem d_B_multiply_22 : decode b_B_multiply 22 = .ok (.getfield 94, 3) := by decide +kernel
theorem d_B_multiply_25 : decode b_B_multiply 25 = .ok (.aload_n 2, 1) := by decide +kernel
theorem d_B_multiply_26 : decode b_B_multiply 26 = .ok (.getfield 94, 3) := by decide +kernel
theorem d_B_multiply_29 : decode b_B_multiply 29 = .ok (.iadd, 1) := by decide +kernel
theorem d_B_multiply_30 : decode b_B_multiply 30 = .ok (.bipush 24, 2) := by decide +kernel
theorem d_B_multiply_32 : decode b_B_multiply 32 = .ok (.invokestatic 124, 3) := by decide +kernel
theorem d_B_multiply_35 : decode b_B_multiply 35 = .ok (.istore 4, 2) := by decide +kernel
theorem d_B_multiply_37 : decode b_B_multiply 37 = .ok (.aload_n 0, 1) := by decide +kernel
theorem d_B_multiply_38 : decode b_B_multiply 38 = .ok (.getfield 15, 3) := by decide +kernel
theorem d_B_multiply_41 : decode b_B_multiply 41 = .ok (.bipush 12, 2) := by decide +kernel
theorem d_B_multiply_43 : decode b_B_multiply 43 = .ok (.iload 4, 2) := by decide +kernel
theorem d_B_multiply_45 : decode b_B_multiply 45 = .ok (.aload_n 1, 1) := by decide +kernel
theorem d_B_multiply_46 : decode b_B_multiply 46 = .ok (.getfield 84, 3) := by decide +kernel
theorem d_B_multiply_49 : decode b_B_multiply 49 = .ok (.getfield 127, 3) := by decide +kernel
theorem d_B_multiply_52 : decode b_B_multiply 52 = .ok (.aload_n 2, 1) := by decide +kernel
theorem d_B_multiply_53 : decode b_B_multiply 53 = .ok (.getfield 84, 3) := by decide +kernel
theorem d_B_multiply_56 : decode b_B_multiply 56 = .ok (.getfield 127, 3) := by decide +kernel
theorem d_B_multiply_59 : decode b_B_multiply 59 = .ok (.if_icmp .eq 7, 3) := by decide +kernel
theorem d_B_multiply_62 : decode b_B_multiply 62 = .ok (.iconst 1, 1) := by decide +kernel
theorem d_B_multiply_63 : decode b_B_multiply 63 = .ok (.goto 4, 3) := by decide +kernel
theorem d_B_multiply_66 : decode b_B_multiply 66 = .ok (.iconst 0, 1) := by decide +kernel
theorem d_B_multiply_67 : decode b_B_multiply 67 = .ok (.aload_n 3, 1) := by decide +kernel
theorem d_B_multiply_68 : decode b_B_multiply 68 = .ok (.invokestatic 131, 3) := by decide +kernel
theorem d_B_multiply_71 : decode b_B_multiply 71 = .ok (.ireturn, 1) := by decide +kernel
theorem d_B_multiplyInfinite_0 : decode b_B_multiplyInfinite 0 = .ok (.aload_n 1, 1) := by decide +kernel
theorem d_B_multiplyInfinite_1 : decode b_B_multiplyInfinite 1 = .ok (.invokevirtual 108, 3) := by decide +kernel
theorem d_B_multiplyInfinite_4 : decode b_B_multiplyInfinite 4 = .ok (.aload_n 2, 1) := by decide +kernel
theorem d_B_multiplyInfinite_5 : decode b_B_multiplyInfinite 5 = .ok (.invokevirtual 108, 3) := by decide +kernel
theorem d_B_multiplyInfinite_8 : decode b_B_multiplyInfinite 8 = .ok (.imul, 1) := by decide +kernel
theorem d_B_multiplyInfinite_9 : decode b_B_multiplyInfinite 9 = .ok (.istore 4, 2) := by decide +kernel
theorem d_B_multiplyInfinite_11 : decode b_B_multiplyInfinite 11 = .ok (.iload 4, 2) := by decide +kernel
theorem d_B_multiplyInfinite_13 : decode b_B_multiplyInfinite 13 = .ok (.ifCond .ne 13, 3) := by decide +kernel
theorem d_B_multiplyInfinite_16 : decode b_B_multiplyInfinite 16 = .ok (.aload_n 3, 1) := by decide +kernel
theorem d_B_multiplyInfinite_17 : decode b_B_multiplyInfinite 17 = .ok (.getstatic 30, 3) := by decide +kernel
theorem d_B_multiplyInfinite_20 : decode b_B_multiplyInfinite 20 = .ok (.invokevirtual 35, 3) := by decide +kernel
theorem d_B_multiplyInfinite_23 : decode b_B_multiplyInfinite 23 = .ok (.goto 9, 3) := by decide +kernel
theorem d_B_multiplyInfinite_26 : decode b_B_multiplyInfinite 26 = .ok (.aload_n 3, 1) := by decide +kernel
theorem d_B_multiplyInfinite_27 : decode b_B_multiplyInfinite 27 = .ok (.iload 4, 2) := by decide +kernel
theorem d_B_multiplyInfinite_29 : decode b_B_multiplyInfinite 29 = .ok (.invokevirtual 112, 3) := by decide +kernel
theorem d_B_multiplyInfinite_32 : decode b_B_multiplyInfinite 32 = .ok (.iconst 0, 1) := by decide +kernel
theorem d_B_multiplyInfinite_33 : decode b_B_multiplyInfinite 33 = .ok (.ireturn, 1) := by decide +kernel
theorem d_B_divide_0 : decode b_B_divide 0 = .ok (.aload_n 0, 1) := by decide +kernel
theorem d_B_divide_1 : decode b_B_divide 1 = .ok (.aload_n 1, 1) := by decide +kernel
theorem d_B_divide_2 : decode b_B_divide 2 = .ok (.bipush 7, 2) := by decide +kernel
theorem d_B_divide_4 : decode b_B_divide 4 = .ok (.invokevirtual 135, 3) := by decide +kernel
theorem d_B_divide_7 : decode b_B_divide 7 = .ok (.aload_n 0, 1) := by decide +kernel
theorem d_B_divide_8 : decode b_B_divide 8 = .ok (.getfield 11, 3) := by decide +kernel
theorem d_B_divide_11 : decode b_B_divide 11 = .ok (.aload_n 0, 1) := by decide +kernel
theorem d_B_divide_12 : decode b_B_divide 12 = .ok (.getfield 15, 3) := by decide +kernel
theorem d_B_divide_15 : decode b_B_divide 15 = .ok (.aload_n 2, 1) := by decide +kernel
theorem d_B_divide_16 : decode b_B_divide 16 = .ok (.getfield 84, 3) := by decide +kernel
theorem d_B_divide_19 : decode b_B_divide 19 = .ok (.getfield 116, 3) := by decide +kernel
theorem d_B_divide_22 : decode b_B_divide 22 = .ok (.invokestatic 139, 3) := by decide +kernel
theorem d_B_divide_25 : decode b_B_divide 25 = .ok (.aload_n 0, 1) := by decide +kernel
theorem d_B_divide_26 : decode b_B_divide 26 = .ok (.getfield 15, 3) := by decide +kernel
theorem d_B_divide_29 : decode b_B_divide 29 = .ok (.bipush 7, 2) := by decide +kernel
theorem d_B_divide_31 : decode b_B_divide 31 = .ok (.aload_n 1, 1) := by decide +kernel
theorem d_B_divide_32 : decode b_B_divide 32 = .ok (.aload_n 2, 1) := by decide +kernel
theorem d_B_divide_33 : decode b_B_divide 33 = .ok (.invokestatic 141, 3) := by decide +kernel
theorem d_B_divide_36 : decode b_B_divide 36 = .ok (.aload_n 1, 1) := by decide +kernel
theorem d_B_divide_37 : decode b_B_divide 37 = .ok (.getfield 84, 3) := by decide +kernel
theorem d_B_divide_40 : decode b_B_divide 40 = .ok (.getfield 127, 3) := by decide +kernel
theorem d_B_divide_43 : decode b_B_divide 43 = .ok (.aload_n 2, 1) := by decide +kernel
theorem d_B_divide_44 : decode b_B_divide 44 = .ok (.getfield 84, 3) := by decide +kernel
theorem d_B_divide_47 : decode b_B_divide 47 = .ok (.getfield 127, 3) := by decide +kernel
theorem d_B_divide_50 : decode b_B_divide 50 = .ok (.if_icmp .eq 7, 3) := by decide +kernel
theorem d_B_divide_53 : decode b_B_divide 53 = .ok (.iconst 1, 1) := by decide +kernel
theorem d_B_divide_54 : decode b_B_divide 54 = .ok (.goto 4, 3) := by decide +kernel
theorem d_B_divide_57 : decode b_B_divide 57 = .ok (.iconst 0, 1) := by decide +kernel
theorem d_B_divide_58 : decode b_B_divide 58 = .ok (.aload_n 3, 1) := by decide +kernel
theorem d_B_divide_59 : decode b_B_divide 59 = .ok (.invokestatic 131, 3) := by decide +kernel
theorem d_B_divide_62 : decode b_B_divide 62 = .ok (.ireturn, 1) := by decide +kernel
theorem d_B_placesOfDivision_0 : decode b_B_placesOfDivision 0 = .ok (.aload_n 0, 1) := by decide +kernel
theorem d_B_placesOfDivision_1 : decode b_B_placesOfDivision 1 = .ok (.getfield 84, 3) := by decide +kernel
theorem d_B_placesOfDivision_4 : decode b_B_placesOfDivision 4 = .ok (.invokevirtual 144, 3) := by decide +kernel
theorem d_B_placesOfDivision_7 : decode b_B_placesOfDivision 7 = .ok (.aload_n 1, 1) := by decide +kernel
theorem d_B_placesOfDivision_8 : decode b_B_placesOfDivision 8 = .ok (.getfield 84, 3) := by decide +kernel
theorem d_B_placesOfDivision_11 : decode b_B_placesOfDivision 11 = .ok (.invokevirtual 144, 3) := by decide +kernel
theorem d_B_placesOfDivision_14 : decode b_B_placesOfDivision 14 = .ok (.isub, 1) := by decide +kernel
theorem d_B_placesOfDivision_15 : decode b_B_placesOfDivision 15 = .ok (.istore_n 2, 1) := by decide +kernel
theorem d_B_placesOfDivision_16 : decode b_B_placesOfDivision 16 = .ok (.aload_n 0, 1) := by decide +kernel
theorem d_B_placesOfDivision_17 : decode b_B_placesOfDivision 17 = .ok (.getfield 84, 3) := by decide +kernel
theorem d_B_placesOfDivision_20 : decode b_B_placesOfDivision 20 = .ok (.invokevirtual 147, 3) := by decide +kernel
theorem d_B_placesOfDivision_23 : decode b_B_placesOfDivision 23 = .ok (.aload_n 1, 1) := by decide +kernel
theorem d_B_placesOfDivision_24 : decode b_B_placesOfDivision 24 = .ok (.getfield 84, 3) := by decide +kernel
theorem d_B_placesOfDivision_27 : decode b_B_placesOfDivision 27 = .ok (.invokevirtual 147, 3) := by decide +kernel
theorem d_B_placesOfDivision_30 : decode b_B_placesOfDivision 30 = .ok (.if_icmp .gt 6, 3) := by decide +kernel
theorem d_B_placesOfDivision_33 : decode b_B_placesOfDivision 33 = .ok (.iinc 2 (-1), 3) := by decide +kernel
theorem d_B_placesOfDivision_36 : decode b_B_placesOfDivision 36 = .ok (.bipush 16, 2) := by decide +kernel
theorem d_B_placesOfDivision_38 : decode b_B_placesOfDivision 38 = .ok (.iconst 4, 1) := by decide +kernel
theorem d_B_placesOfDivision_39 : decode b_B_placesOfDivision 39 = .ok (.iload_n 2, 1) := by decide +kernel
theorem d_B_placesOfDivision_40 : decode b_B_placesOfDivision 40 = .ok (.imul, 1) := by decide +kernel
theorem d_B_placesOfDivision_41 : decode b_B_placesOfDivision 41 = .ok (.isub, 1) := by decide +kernel
theorem d_B_placesOfDivision_42 : decode b_B_placesOfDivision 42 = .ok (.aload_n 0, 1) := by decide +kernel
theorem d_B_placesOfDivision_43 : decode b_B_placesOfDivision 43 = .ok (.getfield 94, 3) := by decide +kernel
theorem d_B_placesOfDivision_46 : decode b_B_placesOfDivision 46 = .ok (.aload_n 1, 1) := by decide +kernel
theorem d_B_placesOfDivision_47 : decode b_B_placesOfDivision 47 = .ok (.getfield 94, 3) := by decide +kernel
theorem d_B_placesOfDivision_50 : decode b_B_placesOfDivision 50 = .ok (.invokestatic 98, 3) := by decide +kernel
theorem d_B_placesOfDivision_53 : decode b_B_placesOfDivision 53 = .ok (.invokestatic 98, 3) := by decide +kernel
theorem d_B_placesOfDivision_56 : decode b_B_placesOfDivision 56 = .ok (.istore_n 3, 1) := by decide +kernel
theorem d_B_placesOfDivision_57 : decode b_B_placesOfDivision 57 = .ok (.iload_n 3, 1) := by decide +kernel
theorem d_B_placesOfDivision_58 : decode b_B_placesOfDivision 58 = .ok (.bipush 24, 2) := by decide +kernel
theorem d_B_placesOfDivision_60 : decode b_B_placesOfDivision 60 = .ok (.invokestatic 124, 3) := by decide +kernel
theorem d_B_placesOfDivision_63 : decode b_B_placesOfDivision 63 = .ok (.ireturn, 1) := by decide +kernel
theorem d_B_divideInfinite_0 : decode b_B_divideInfinite 0 = .ok (.aload_n 1, 1) := by decide +kernel
theorem d_B_divideInfinite_1 : decode b_B_divideInfinite 1 = .ok (.invokevirtual 39, 3) := by decide +kernel
theorem d_B_divideInfinite_4 : decode b_B_divideInfinite 4 = .ok (.ifCond .eq 13, 3) := by decide +kernel
theorem d_B_divideInfinite_7 : decode b_B_divideInfinite 7 = .ok (.aload_n 3, 1) := by decide +kernel
theorem d_B_divideInfinite_8 : decode b_B_divideInfinite 8 = .ok (.getstatic 150, 3) := by decide +kernel
theorem d_B_divideInfinite_11 : decode b_B_divideInfinite 11 = .ok (.invokevirtual 35, 3) := by decide +kernel
theorem d_B_divideInfinite_14 : decode b_B_divideInfinite 14 = .ok (.goto 33, 3) := by decide +kernel
theorem d_B_divideInfinite_17 : decode b_B_divideInfinite 17 = .ok (.aload_n 2, 1) := by decide +kernel
theorem d_B_divideInfinite_18 : decode b_B_divideInfinite 18 = .ok (.invokevirtual 39, 3) := by decide +kernel
theorem d_B_divideInfinite_21 : decode b_B_divideInfinite 21 = .ok (.ifCond .eq 19, 3) := by decide +kernel
theorem d_B_divideInfinite_24 : decode b_B_divideInfinite 24 = .ok (.aload_n 3, 1) := by decide +kernel
theorem d_B_divideInfinite_25 : decode b_B_divideInfinite 25 = .ok (.aload_n 1, 1) := by decide +kernel
theorem d_B_divideInfinite_26 : decode b_B_divideInfinite 26 = .ok (.invokevirtual 108, 3) := by decide +kernel
theorem d_B_divideInfinite_29 : decode b_B_divideInfinite 29 = .ok (.aload_n 2, 1) := by decide +kernel
theorem d_B_divideInfinite_30 : decode b_B_divideInfinite 30 = .ok (.invokevirtual 108, 3) := by decide +kernel
theorem d_B_divideInfinite_33 : decode b_B_divideInfinite 33 = .ok (.imul, 1) := by decide +kernel
theorem d_B_divideInfinite_34 : decode b_B_divideInfinite 34 = .ok (.invokevirtual 112, 3) := by decide +kernel
theorem d_B_divideInfinite_37 : decode b_B_divideInfinite 37 = .ok (.goto 10, 3) := by decide +kernel
theorem d_B_divideInfinite_40 : decode b_B_divideInfinite 40 = .ok (.aload_n 3, 1) := by decide +kernel
theorem d_B_divideInfinite_41 : decode b_B_divideInfinite 41 = .ok (.getstatic 30, 3) := by decide +kernel
theorem d_B_divideInfinite_44 : decode b_B_divideInfinite 44 = .ok (.invokevirtual 35, 3) := by decide +kernel
theorem d_B_divideInfinite_47 : decode b_B_divideInfinite 47 = .ok (.iconst 0, 1) := by decide +kernel
theorem d_B_divideInfinite_48 : decode b_B_divideInfinite 48 = .ok (.ireturn, 1) := by decide +kernel
theorem d_B_quotient_0 : decode b_B_quotient 0 = .ok (.aload_n 0, 1) := by decide +kernel
theorem d_B_quotient_1 : decode b_B_quotient 1 = .ok (.aload_n 1, 1) := by decide +kernel
theorem d_B_quotient_2 : decode b_B_quotient 2 = .ok (.bipush 6, 2) := by decide +kernel
theorem d_B_quotient_4 : decode b_B_quotient 4 = .ok (.invokevirtual 135, 3) := by decide +kernel
theorem d_B_quotient_7 : decode b_B_quotient 7 = .ok (.aload_n 0, 1) := by decide +kernel
theorem d_B_quotient_8 : decode b_B_quotient 8 = .ok (.getfield 11, 3) := by decide +kernel
theorem d_B_quotient_11 : decode b_B_quotient 11 = .ok (.aload_n 0, 1) := by decide +kernel
theorem d_B_quotient_12 : decode b_B_quotient 12 = .ok (.getfield 15, 3) := by decide +kernel
theorem d_B_quotient_15 : decode b_B_quotient 15 = .ok (.aload_n 2, 1) := by decide +kernel
theorem d_B_quotient_16 : decode b_B_quotient 16 = .ok (.getfield 84, 3) := by decide +kernel
theorem d_B_quotient_19 : decode b_B_quotient 19 = .ok (.getfield 116, 3) := by decide +kernel
theorem d_B_quotient_22 : decode b_B_quotient 22 = .ok (.invokestatic 139, 3) := by decide +kernel
theorem d_B_quotient_25 : decode b_B_quotient 25 = .ok (.aload_n 0, 1) := by decide +kernel
theorem d_B_quotient_26 : decode b_B_quotient 26 = .ok (.getfield 15, 3) := by decide +kernel
theorem d_B_quotient_29 : decode b_B_quotient 29 = .ok (.bipush 24, 2) := by decide +kernel
theorem d_B_quotient_31 : decode b_B_quotient 31 = .ok (.invokestatic 153, 3) := by decide +kernel
theorem d_B_quotient_34 : decode b_B_quotient 34 = .ok (.aload_n 0, 1) := by decide +kernel
theorem d_B_quotient_35 : decode b_B_quotient 35 = .ok (.getfield 15, 3) := by decide +kernel
theorem d_B_quotient_38 : decode b_B_quotient 38 = .ok (.bipush 6, 2) := by decide +kernel
theorem d_B_quotient_40 : decode b_B_quotient 40 = .ok (.iconst 0, 1) := by decide +kernel
theorem d_B_quotient_41 : decode b_B_quotient 41 = .ok (.aload_n 1, 1) := by decide +kernel
theorem d_B_quotient_42 : decode b_B_quotient 42 = .ok (.getfield 84, 3) := by decide +kernel
theorem d_B_quotient_45 : decode b_B_quotient 45 = .ok (.getfield 127, 3) := by decide +kernel
theorem d_B_quotient_48 : decode b_B_quotient 48 = .ok (.aload_n 2, 1) := by decide +kernel
theorem d_B_quotient_49 : decode b_B_quotient 49 = .ok (.getfield 84, 3) := by decide +kernel
theorem d_B_quotient_52 : decode b_B_quotient 52 = .ok (.getfield 127, 3) := by decide +kernel
theorem d_B_quotient_55 : decode b_B_quotient 55 = .ok (.if_icmp .eq 7, 3) := by decide +kernel
theorem d_B_quotient_58 : decode b_B_quotient 58 = .ok (.iconst 1, 1) := by decide +kernel
theorem d_B_quotient_59 : decode b_B_quotient 59 = .ok (.goto 4, 3) := by decide +kernel
theorem d_B_quotient_62 : decode b_B_quotient 62 = .ok (.iconst 0, 1) := by decide +kernel
theorem d_B_quotient_63 : decode b_B_quotient 63 = .ok (.aload_n 3, 1) := by decide +kernel
theorem d_B_quotient_64 : decode b_B_quotient 64 = .ok (.invokestatic 131, 3) := by decide +kernel
theorem d_B_quotient_67 : decode b_B_quotient 67 = .ok (.ireturn, 1) := by decide +kernel
theorem d_B_remainder_0 : decode b_B_remainder 0 = .ok (.aload_n 0, 1) := by decide +kernel
theorem d_B_remainder_1 : decode b_B_remainder 1 = .ok (.aload_n 1, 1) := by decide +kernel
theorem d_B_remainder_2 : decode b_B_remainder 2 = .ok (.iconst 0, 1) := by decide +kernel
theorem d_B_remainder_3 : decode b_B_remainder 3 = .ok (.invokevirtual 135, 3) := by decide +kernel
theorem d_B_remainder_6 : decode b_B_remainder 6 = .ok (.aload_n 0, 1) := by decide +kernel
theorem d_B_remainder_7 : decode b_B_remainder 7 = .ok (.getfield 11, 3) := by decide +kernel
theorem d_B_remainder_10 : decode b_B_remainder 10 = .ok (.aload_n 0, 1) := by decide +kernel
theorem d_B_remainder_11 : decode b_B_remainder 11 = .ok (.getfield 15, 3) := by decide +kernel
theorem d_B_remainder_14 : decode b_B_remainder 14 = .ok (.aload_n 2, 1) := by decide +kernel
theorem d_B_remainder_15 : decode b_B_remainder 15 = .ok (.getfield 84, 3) := by decide +kernel
theorem d_B_remainder_18 : decode b_B_remainder 18 = .ok (.getfield 116, 3) := by decide +kernel
theorem d_B_remainder_21 : decode b_B_remainder 21 = .ok (.invokestatic 139, 3) := by decide +kernel
theorem d_B_remainder_24 : decode b_B_remainder 24 = .ok (.aload_n 0, 1) := by decide +kernel
theorem d_B_remainder_25 : decode b_B_remainder 25 = .ok (.getfield 11, 3) := by decide +kernel
theorem d_B_remainder_28 : decode b_B_remainder 28 = .ok (.bipush 6, 2) := by decide +kernel
theorem d_B_remainder_30 : decode b_B_remainder 30 = .ok (.aload_n 1, 1) := by decide +kernel
theorem d_B_remainder_31 : decode b_B_remainder 31 = .ok (.getfield 94, 3) := by decide +kernel
theorem d_B_remainder_34 : decode b_B_remainder 34 = .ok (.aload_n 2, 1) := by decide +kernel
theorem d_B_remainder_35 : decode b_B_remainder 35 = .ok (.getfield 94, 3) := by decide +kernel
theorem d_B_remainder_38 : decode b_B_remainder 38 = .ok (.invokestatic 98, 3) := by decide +kernel
theorem d_B_remainder_41 : decode b_B_remainder 41 = .ok (.aload_n 1, 1) := by decide +kernel
theorem d_B_remainder_42 : decode b_B_remainder 42 = .ok (.getfield 84, 3) := by decide +kernel
theorem d_B_remainder_45 : decode b_B_remainder 45 = .ok (.getfield 127, 3) := by decide +kernel
theorem d_B_remainder_48 : decode b_B_remainder 48 = .ok (.aload_n 3, 1) := by decide +kernel
theorem d_B_remainder_49 : decode b_B_remainder 49 = .ok (.invokestatic 131, 3) := by decide +kernel
theorem d_B_remainder_52 : decode b_B_remainder 52 = .ok (.ireturn, 1) := by decide +kernel
theorem d_B_remainderInfinite_0 : decode b_B_remainderInfinite 0 = .ok (.aload_n 1, 1) := by decide +kernel
theorem d_B_remainderInfinite_1 : decode b_B_remainderInfinite 1 = .ok (.invokevirtual 39, 3) := by decide +kernel
theorem d_B_remainderInfinite_4 : decode b_B_remainderInfinite 4 = .ok (.ifCond .eq 11, 3) := by decide +kernel
theorem d_B_remainderInfinite_7 : decode b_B_remainderInfinite 7 = .ok (.aload_n 2, 1) := by decide +kernel
theorem d_B_remainderInfinite_8 : decode b_B_remainderInfinite 8 = .ok (.aload_n 1, 1) := by decide +kernel
theorem d_B_remainderInfinite_9 : decode b_B_remainderInfinite 9 = .ok (.invokevirtual 80, 3) := by decide +kernel
theorem d_B_remainderInfinite_12 : decode b_B_remainderInfinite 12 = .ok (.goto 10, 3) := by decide +kernel
theorem d_B_remainderInfinite_15 : decode b_B_remainderInfinite 15 = .ok (.aload_n 2, 1) := by decide +kernel
theorem d_B_remainderInfinite_16 : decode b_B_remainderInfinite 16 = .ok (.getstatic 30, 3) := by decide +kernel
theorem d_B_remainderInfinite_19 : decode b_B_remainderInfinite 19 = .ok (.invokevirtual 35, 3) := by decide +kernel
theorem d_B_remainderInfinite_22 : decode b_B_remainderInfinite 22 = .ok (.iconst 0, 1) := by decide +kernel
theorem d_B_remainderInfinite_23 : decode b_B_remainderInfinite 23 = .ok (.ireturn, 1) := by decide +kernel
theorem d_B_alter_0 : decode b_B_alter 0 = .ok (.iload_n 1, 1) := by decide +kernel
theorem d_B_alter_1 : decode b_B_alter 1 = .ok (.bipush 6, 2) := by decide +kernel
theorem d_B_alter_3 : decode b_B_alter 3 = .ok (.if_icmp .ne 13, 3) := by decide +kernel
theorem d_B_alter_6 : decode b_B_alter 6 = .ok (.aload_n 2, 1) := by decide +kernel
theorem d_B_alter_7 : decode b_B_alter 7 = .ok (.invokevirtual 108, 3) := by decide +kernel
theorem d_B_alter_10 : decode b_B_alter 10 = .ok (.ifCond .ge 6, 3) := by decide +kernel
theorem d_B_alter_13 : decode b_B_alter 13 = .ok (.bipush (-5), 2) := by decide +kernel
theorem d_B_alter_15 : decode b_B_alter 15 = .ok (.ireturn, 1) := by decide +kernel
theorem d_B_alter_16 : decode b_B_alter 16 = .ok (.aload 4, 2) := by decide +kernel
theorem d_B_alter_18 : decode b_B_alter 18 = .ok (.aload_n 2, 1) := by decide +kernel
theorem d_B_alter_19 : decode b_B_alter 19 = .ok (.invokevirtual 80, 3) := by decide +kernel
theorem d_B_alter_22 : decode b_B_alter 22 = .ok (.aload_n 2, 1) := by decide +kernel
theorem d_B_alter_23 : decode b_B_alter 23 = .ok (.invokevirtual 39, 3) := by decide +kernel
theorem d_B_alter_26 : decode b_B_alter 26 = .ok (.ifCond .ne 11, 3) := by decide +kernel
theorem d_B_alter_29 : decode b_B_alter 29 = .ok (.aload_n 0, 1) := by decide +kernel
theorem d_B_alter_30 : decode b_B_alter 30 = .ok (.iload_n 1, 1) := by decide +kernel
theorem d_B_alter_31 : decode b_B_alter 31 = .ok (.aload 4, 2) := by decide +kernel
theorem d_B_alter_33 : decode b_B_alter 33 = .ok (.invokevirtual 157, 3) := by decide +kernel
theorem d_B_alter_36 : decode b_B_alter 36 = .ok (.ireturn, 1) := by decide +kernel
theorem d_B_alter_37 : decode b_B_alter 37 = .ok (.bipush (-32), 2) := by decide +kernel
theorem d_B_alter_39 : decode b_B_alter 39 = .ok (.iload_n 3, 1) := by decide +kernel
theorem d_B_alter_40 : decode b_B_alter 40 = .ok (.bipush 24, 2) := by decide +kernel
theorem d_B_alter_42 : decode b_B_alter 42 = .ok (.invokestatic 124, 3) := by decide +kernel
theorem d_B_alter_45 : decode b_B_alter 45 = .ok (.invokestatic 98, 3) := by decide +kernel
theorem d_B_alter_48 : decode b_B_alter 48 = .ok (.istore 5, 2) := by decide +kernel
theorem d_B_alter_50 : decode b_B_alter 50 = .ok (.iload_n 1, 1) := by decide +kernel
theorem d_B_alter_51 : decode b_B_alter 51 = .ok (.tableswitch 109 0 5 #[37, 47, 57, 66, 75, 101], 37) := by decide +kernel
theorem d_B_alter_88 : decode b_B_alter 88 = .ok (.aload 4, 2) := by decide +kernel
theorem d_B_alter_90 : decode b_B_alter 90 = .ok (.iload 5, 2) := by decide +kernel
theorem d_B_alter_92 : decode b_B_alter 92 = .ok (.invokevirtual 161, 3) := by decide +kernel
theorem d_B_alter_95 : decode b_B_alter 95 = .ok (.goto 73, 3) := by decide +kernel
theorem d_B_alter_98 : decode b_B_alter 98 = .ok (.aload 4, 2) := by decide +kernel
theorem d_B_alter_100 : decode b_B_alter 100 = .ok (.iload 5, 2) := by decide +kernel
theorem d_B_alter_102 : decode b_B_alter 102 = .ok (.invokevirtual 164, 3) := by decide +kernel
theorem d_B_alter_105 : decode b_B_alter 105 = .ok (.goto 63, 3) := by decide +kernel
theorem d_B_alter_108 : decode b_B_alter 108 = .ok (.aload 4, 2) := by decide +kernel
theorem d_B_alter_110 : decode b_B_alter 110 = .ok (.iconst 0, 1) := by decide +kernel
theorem d_B_alter_111 : decode b_B_alter 111 = .ok (.invokevirtual 167, 3) := by decide +kernel
theorem d_B_alter_114 : decode b_B_alter 114 = .ok (.goto 54, 3) := by decide +kernel
theorem d_B_alter_117 : decode b_B_alter 117 = .ok (.aload 4, 2) := by decide +kernel
theorem d_B_alter_119 : decode b_B_alter 119 = .ok (.iconst 1, 1) := by decide +kernel
theorem d_B_alter_120 : decode b_B_alter 120 = .ok (.invokevirtual 167, 3) := by decide +kernel
theorem d_B_alter_123 : decode b_B_alter 123 = .ok (.goto 45, 3) := by decide +kernel
theorem d_B_alter_126 : decode b_B_alter 126 = .ok (.aload 4, 2) := by decide +kernel
theorem d_B_alter_128 : decode b_B_alter 128 = .ok (.getfield 84, 3) := by decide +kernel
theorem d_B_alter_131 : decode b_B_alter 131 = .ok (.aload_n 2, 1) := by decide +kernel
theorem d_B_alter_132 : decode b_B_alter 132 = .ok (.getfield 84, 3) := by decide +kernel
theorem d_B_alter_135 : decode b_B_alter 135 = .ok (.getfield 127, 3) := by decide +kernel
theorem d_B_alter_138 : decode b_B_alter 138 = .ok (.ifCond .ne 7, 3) := by decide +kernel
theorem d_B_alter_141 : decode b_B_alter 141 = .ok (.iconst 1, 1) := by decide +kernel
theorem d_B_alter_142 : decode b_B_alter 142 = .ok (.goto 4, 3) := by decide +kernel
theorem d_B_alter_145 : decode b_B_alter 145 = .ok (.iconst 0, 1) := by decide +kernel
theorem d_B_alter_146 : decode b_B_alter 146 = .ok (.invokevirtual 171, 3) := by decide +kernel
theorem d_B_alter_149 : decode b_B_alter 149 = .ok (.goto 19, 3) := by decide +kernel
theorem d_B_alter_152 : decode b_B_alter 152 = .ok (.aload 4, 2) := by decide +kernel
theorem d_B_alter_154 : decode b_B_alter 154 = .ok (.invokevirtual 174, 3) := by decide +kernel
theorem d_B_alter_157 : decode b_B_alter 157 = .ok (.goto 11, 3) := by decide +kernel
theorem d_B_alter_160 : decode b_B_alter 160 = .ok (.aload_n 0, 1) := by decide +kernel
theorem d_B_alter_161 : decode b_B_alter 161 = .ok (.aload_n 2, 1) := by decide +kernel
theorem d_B_alter_162 : decode b_B_alter 162 = .ok (.aload 4, 2) := by decide +kernel
theorem d_B_alter_164 : decode b_B_alter 164 = .ok (.invokevirtual 177, 3) := by decide +kernel
theorem d_B_alter_167 : decode b_B_alter 167 = .ok (.ireturn, 1) := by decide +kernel
theorem d_B_alter_168 : decode b_B_alter 168 = .ok (.aload 4, 2) := by decide +kernel
theorem d_B_alter_170 : decode b_B_alter 170 = .ok (.invokestatic 104, 3) := by decide +kernel
theorem d_B_alter_173 : decode b_B_alter 173 = .ok (.ireturn, 1) := by decide +kernel
theorem d_B_alterOther_0 : decode b_B_alterOther 0 = .ok (.iload_n 1, 1) := by decide +kernel
theorem d_B_alterOther_1 : decode b_B_alterOther 1 = .ok (.iconst 4, 1) := by decide +kernel
theorem d_B_alterOther_2 : decode b_B_alterOther 2 = .ok (.if_icmp .ne 22, 3) := by decide +kernel
theorem d_B_alterOther_5 : decode b_B_alterOther 5 = .ok (.aload_n 2, 1) := by decide +kernel
theorem d_B_alterOther_6 : decode b_B_alterOther 6 = .ok (.getfield 24, 3) := by decide +kernel
theorem d_B_alterOther_9 : decode b_B_alterOther 9 = .ok (.getstatic 30, 3) := by decide +kernel
theorem d_B_alterOther_12 : decode b_B_alterOther 12 = .ok (.if_acmp .eq 12, 3) := by decide +kernel
theorem d_B_alterOther_15 : decode b_B_alterOther 15 = .ok (.aload_n 2, 1) := by decide +kernel
theorem d_B_alterOther_16 : decode b_B_alterOther 16 = .ok (.aload_n 2, 1) := by decide +kernel
theorem d_B_alterOther_17 : decode b_B_alterOther 17 = .ok (.invokevirtual 108, 3) := by decide +kernel
theorem d_B_alterOther_20 : decode b_B_alterOther 20 = .ok (.ineg, 1) := by decide +kernel
theorem d_B_alterOther_21 : decode b_B_alterOther 21 = .ok (.invokevirtual 112, 3) := by decide +kernel
theorem d_B_alterOther_24 : decode b_B_alterOther 24 = .ok (.iconst 0, 1) := by decide +kernel
theorem d_B_alterOther_25 : decode b_B_alterOther 25 = .ok (.ireturn, 1) := by decide +kernel
theorem d_B_root_0 : decode b_B_root 0 = .ok (.aload_n 0, 1) := by decide +kernel
theorem d_B_root_1 : decode b_B_root 1 = .ok (.aload_n 1, 1) := by decide +kernel
theorem d_B_root_2 : decode b_B_root 2 = .ok (.bipush 8, 2) := by decide +kernel
theorem d_B_root_4 : decode b_B_root 4 = .ok (.invokevirtual 135, 3) := by decide +kernel
theorem d_B_root_7 : decode b_B_root 7 = .ok (.aload_n 0, 1) := by decide +kernel
theorem d_B_root_8 : decode b_B_root 8 = .ok (.getfield 15, 3) := by decide +kernel
theorem d_B_root_11 : decode b_B_root 11 = .ok (.iconst 0, 1) := by decide +kernel
theorem d_B_root_12 : decode b_B_root 12 = .ok (.invokestatic 180, 3) := by decide +kernel
theorem d_B_root_15 : decode b_B_root 15 = .ok (.aload_n 0, 1) := by decide +kernel
theorem d_B_root_16 : decode b_B_root 16 = .ok (.getfield 18, 3) := by decide +kernel
theorem d_B_root_19 : decode b_B_root 19 = .ok (.iconst 0, 1) := by decide +kernel
theorem d_B_root_20 : decode b_B_root 20 = .ok (.invokestatic 180, 3) := by decide +kernel
theorem d_B_root_23 : decode b_B_root 23 = .ok (.bipush 10, 2) := by decide +kernel
theorem d_B_root_25 : decode b_B_root 25 = .ok (.istore_n 3, 1) := by decide +kernel
theorem d_B_root_26 : decode b_B_root 26 = .ok (.iload_n 3, 1) := by decide +kernel
theorem d_B_root_27 : decode b_B_root 27 = .ok (.ifCond .lt 20, 3) := by decide +kernel
theorem d_B_root_30 : decode b_B_root 30 = .ok (.aload_n 0, 1) := by decide +kernel
theorem d_B_root_31 : decode b_B_root 31 = .ok (.getfield 15, 3) := by decide +kernel
theorem d_B_root_34 : decode b_B_root 34 = .ok (.iload_n 3, 1) := by decide +kernel
theorem d_B_root_35 : decode b_B_root 35 = .ok (.aload_n 0, 1) := by decide +kernel
theorem d_B_root_36 : decode b_B_root 36 = .ok (.iload_n 3, 1) := by decide +kernel
theorem d_B_root_37 : decode b_B_root 37 = .ok (.invokevirtual 185, 3) := by decide +kernel
theorem d_B_root_40 : decode b_B_root 40 = .ok (.iastore, 1) := by decide +kernel
theorem d_B_root_41 : decode b_B_root 41 = .ok (.iinc 3 (-1), 3) := by decide +kernel
theorem d_B_root_44 : decode b_B_root 44 = .ok (.goto (-18), 3) := by decide +kernel
theorem d_B_root_47 : decode b_B_root 47 = .ok (.bipush 16, 2) := by decide +kernel
theorem d_B_root_49 : decode b_B_root 49 = .ok (.iconst 2, 1) := by decide +kernel
theorem d_B_root_50 : decode b_B_root 50 = .ok (.aload_n 1, 1) := by decide +kernel
theorem d_B_root_51 : decode b_B_root 51 = .ok (.getfield 84, 3) := by decide +kernel
theorem d_B_root_54 : decode b_B_root 54 = .ok (.invokevirtual 144, 3) := by decide +kernel
theorem d_B_root_57 : decode b_B_root 57 = .ok (.imul, 1) := by decide +kernel
theorem d_B_root_58 : decode b_B_root 58 = .ok (.isub, 1) := by decide +kernel
theorem d_B_root_59 : decode b_B_root 59 = .ok (.aload_n 1, 1) := by decide +kernel
theorem d_B_root_60 : decode b_B_root 60 = .ok (.getfield 94, 3) := by decide +kernel
theorem d_B_root_63 : decode b_B_root 63 = .ok (.invokestatic 98, 3) := by decide +kernel
theorem d_B_root_66 : decode b_B_root 66 = .ok (.istore_n 3, 1) := by decide +kernel
theorem d_B_root_67 : decode b_B_root 67 = .ok (.aload_n 0, 1) := by decide +kernel
theorem d_B_root_68 : decode b_B_root 68 = .ok (.getfield 15, 3) := by decide +kernel
theorem d_B_root_71 : decode b_B_root 71 = .ok (.bipush 7, 2) := by decide +kernel
theorem d_B_root_73 : decode b_B_root 73 = .ok (.iload_n 3, 1) := by decide +kernel
theorem d_B_root_74 : decode b_B_root 74 = .ok (.bipush 24, 2) := by decide +kernel
theorem d_B_root_76 : decode b_B_root 76 = .ok (.invokestatic 124, 3) := by decide +kernel
theorem d_B_root_79 : decode b_B_root 79 = .ok (.iconst 0, 1) := by decide +kernel
theorem d_B_root_80 : decode b_B_root 80 = .ok (.aload_n 2, 1) := by decide +kernel
theorem d_B_root_81 : decode b_B_root 81 = .ok (.invokestatic 131, 3) := by decide +kernel
theorem d_B_root_84 : decode b_B_root 84 = .ok (.ireturn, 1) := by decide +kernel
theorem d_B_nextRootLimb_0 : decode b_B_nextRootLimb 0 = .ok (.iconst 0, 1) := by decide +kernel
theorem d_B_nextRootLimb_1 : decode b_B_nextRootLimb 1 = .ok (.istore_n 2, 1) := by decide +kernel
theorem d_B_nextRootLimb_2 : decode b_B_nextRootLimb 2 = .ok (.sipush 8192, 3) := by decide +kernel
theorem d_B_nextRootLimb_5 : decode b_B_nextRootLimb 5 = .ok (.istore_n 3, 1) := by decide +kernel
theorem d_B_nextRootLimb_6 : decode b_B_nextRootLimb 6 = .ok (.iload_n 3, 1) := by decide +kernel
theorem d_B_nextRootLimb_7 : decode b_B_nextRootLimb 7 = .ok (.ifCond .le 34, 3) := by decide +kernel
theorem d_B_nextRootLimb_10 : decode b_B_nextRootLimb 10 = .ok (.iload_n 2, 1) := by decide +kernel
theorem d_B_nextRootLimb_11 : decode b_B_nextRootLimb 11 = .ok (.iload_n 3, 1) := by decide +kernel
theorem d_B_nextRootLimb_12 : decode b_B_nextRootLimb 12 = .ok (.iadd, 1) := by decide +kernel
theorem d_B_nextRootLimb_13 : decode b_B_nextRootLimb 13 = .ok (.sipush 10000, 3) := by decide +kernel
theorem d_B_nextRootLimb_16 : decode b_B_nextRootLimb 16 = .ok (.if_icmp .ge 18, 3) := by decide +kernel
theorem d_B_nextRootLimb_19 : decode b_B_nextRootLimb 19 = .ok (.aload_n 0, 1) := by decide +kernel
theorem d_B_nextRootLimb_20 : decode b_B_nextRootLimb 20 = .ok (.iload_n 1, 1) := by decide +kernel
theorem d_B_nextRootLimb_21 : decode b_B_nextRootLimb 21 = .ok (.iload_n 2, 1) := by decide +kernel
theorem d_B_nextRootLimb_22 : decode b_B_nextRootLimb 22 = .ok (.iload_n 3, 1) := by decide +kernel
theorem d_B_nextRootLimb_23 : decode b_B_nextRootLimb 23 = .ok (.iadd, 1) := by decide +kernel
theorem d_B_nextRootLimb_24 : decode b_B_nextRootLimb 24 = .ok (.invokevirtual 189, 3) := by decide +kernel
theorem d_B_nextRootLimb_27 : decode b_B_nextRootLimb 27 = .ok (.ifCond .eq 7, 3) := by decide +kernel
theorem d_B_nextRootLimb_30 : decode b_B_nextRootLimb 30 = .ok (.iload_n 2, 1) := by decide +kernel
theorem d_B_nextRootLimb_31 : decode b_B_nextRootLimb 31 = .ok (.iload_n 3, 1) := by decide +kernel
theorem d_B_nextRootLimb_32 : decode b_B_nextRootLimb 32 = .ok (.iadd, 1) := by decide +kernel
theorem d_B_nextRootLimb_33 : decode b_B_nextRootLimb 33 = .ok (.istore_n 2, 1) := by decide +kernel
theorem d_B_nextRootLimb_34 : decode b_B_nextRootLimb 34 = .ok (.iload_n 3, 1) := by decide +kernel
theorem d_B_nextRootLimb_35 : decode b_B_nextRootLimb 35 = .ok (.iconst 2, 1) := by decide +kernel
theorem d_B_nextRootLimb_36 : decode b_B_nextRootLimb 36 = .ok (.idiv, 1) := by decide +kernel
theorem d_B_nextRootLimb_37 : decode b_B_nextRootLimb 37 = .ok (.istore_n 3, 1) := by decide +kernel
theorem d_B_nextRootLimb_38 : decode b_B_nextRootLimb 38 = .ok (.goto (-32), 3) := by decide +kernel
theorem d_B_nextRootLimb_41 : decode b_B_nextRootLimb 41 = .ok (.aload_n 0, 1) := by decide +kernel
theorem d_B_nextRootLimb_42 : decode b_B_nextRootLimb 42 = .ok (.iload_n 1, 1) := by decide +kernel
theorem d_B_nextRootLimb_43 : decode b_B_nextRootLimb 43 = .ok (.iload_n 2, 1) := by decide +kernel
theorem d_B_nextRootLimb_44 : decode b_B_nextRootLimb 44 = .ok (.invokevirtual 189, 3) := by decide +kernel
theorem d_B_nextRootLimb_47 : decode b_B_nextRootLimb 47 = .ok (.ifCond .eq 18, 3) := by decide +kernel
theorem d_B_nextRootLimb_50 : decode b_B_nextRootLimb 50 = .ok (.aload_n 0, 1) := by decide +kernel
theorem d_B_nextRootLimb_51 : decode b_B_nextRootLimb 51 = .ok (.getfield 11, 3) := by decide +kernel
theorem d_B_nextRootLimb_54 : decode b_B_nextRootLimb 54 = .ok (.aload_n 0, 1) := by decide +kernel
theorem d_B_nextRootLimb_55 : decode b_B_nextRootLimb 55 = .ok (.getfield 11, 3) := by decide +kernel
theorem d_B_nextRootLimb_58 : decode b_B_nextRootLimb 58 = .ok (.aload_n 0, 1) := by decide +kernel
theorem d_B_nextRootLimb_59 : decode b_B_nextRootLimb 59 = .ok (.getfield 21, 3) := by decide +kernel
theorem d_B_nextRootLimb_62 : decode b_B_nextRootLimb 62 = .ok (.invokestatic 193, 3) := by decide +kernel
theorem d_B_nextRootLimb_65 : decode b_B_nextRootLimb 65 = .ok (.aload_n 0, 1) := by decide +kernel
theorem d_B_nextRootLimb_66 : decode b_B_nextRootLimb 66 = .ok (.getfield 18, 3) := by decide +kernel
theorem d_B_nextRootLimb_69 : decode b_B_nextRootLimb 69 = .ok (.iload_n 1, 1) := by decide +kernel
theorem d_B_nextRootLimb_70 : decode b_B_nextRootLimb 70 = .ok (.iconst 2, 1) := by decide +kernel
theorem d_B_nextRootLimb_71 : decode b_B_nextRootLimb 71 = .ok (.iload_n 2, 1) := by decide +kernel
theorem d_B_nextRootLimb_72 : decode b_B_nextRootLimb 72 = .ok (.imul, 1) := by decide +kernel
theorem d_B_nextRootLimb_73 : decode b_B_nextRootLimb 73 = .ok (.sipush 10000, 3) := by decide +kernel
theorem d_B_nextRootLimb_76 : decode b_B_nextRootLimb 76 = .ok (.irem, 1) := by decide +kernel
theorem d_B_nextRootLimb_77 : decode b_B_nextRootLimb 77 = .ok (.iastore, 1) := by decide +kernel
theorem d_B_nextRootLimb_78 : decode b_B_nextRootLimb 78 = .ok (.iconst 2, 1) := by decide +kernel
theorem d_B_nextRootLimb_79 : decode b_B_nextRootLimb 79 = .ok (.iload_n 2, 1) := by decide +kernel
theorem d_B_nextRootLimb_80 : decode b_B_nextRootLimb 80 = .ok (.imul, 1) := by decide +kernel
theorem d_B_nextRootLimb_81 : decode b_B_nextRootLimb 81 = .ok (.sipush 10000, 3) := by decide +kernel
theorem d_B_nextRootLimb_84 : decode b_B_nextRootLimb 84 = .ok (.if_icmp .lt 15, 3) := by decide +kernel
theorem d_B_nextRootLimb_87 : decode b_B_nextRootLimb 87 = .ok (.aload_n 0, 1) := by decide +kernel
theorem d_B_nextRootLimb_88 : decode b_B_nextRootLimb 88 = .ok (.getfield 18, 3) := by decide +kernel
theorem d_B_nextRootLimb_91 : decode b_B_nextRootLimb 91 = .ok (.iload_n 1, 1) := by decide +kernel
theorem d_B_nextRootLimb_92 : decode b_B_nextRootLimb 92 = .ok (.iconst 1, 1) := by decide +kernel
theorem d_B_nextRootLimb_93 : decode b_B_nextRootLimb 93 = .ok (.iadd, 1) := by decide +kernel
theorem d_B_nextRootLimb_94 : decode b_B_nextRootLimb 94 = .ok (.iconst 4, 1) := by decide +kernel
theorem d_B_nextRootLimb_95 : decode b_B_nextRootLimb 95 = .ok (.imul, 1) := by decide +kernel
theorem d_B_nextRootLimb_96 : decode b_B_nextRootLimb 96 = .ok (.invokestatic 196, 3) := by decide +kernel
theorem d_B_nextRootLimb_99 : decode b_B_nextRootLimb 99 = .ok (.iload_n 2, 1) := by decide +kernel
theorem d_B_nextRootLimb_100 : decode b_B_nextRootLimb 100 = .ok (.ireturn, 1) := by decide +kernel
theorem d_B_rootLimbFits_0 : decode b_B_rootLimbFits 0 = .ok (.aload_n 0, 1) := by decide +kernel
theorem d_B_rootLimbFits_1 : decode b_B_rootLimbFits 1 = .ok (.getfield 18, 3) := by decide +kernel
theorem d_B_rootLimbFits_4 : decode b_B_rootLimbFits 4 = .ok (.iload_n 1, 1) := by decide +kernel
theorem d_B_rootLimbFits_5 : decode b_B_rootLimbFits 5 = .ok (.iload_n 2, 1) := by decide +kernel
theorem d_B_rootLimbFits_6 : decode b_B_rootLimbFits 6 = .ok (.iastore, 1) := by decide +kernel
theorem d_B_rootLimbFits_7 : decode b_B_rootLimbFits 7 = .ok (.aload_n 0, 1) := by decide +kernel
theorem d_B_rootLimbFits_8 : decode b_B_rootLimbFits 8 = .ok (.getfield 21, 3) := by decide +kernel
theorem d_B_rootLimbFits_11 : decode b_B_rootLimbFits 11 = .ok (.aload_n 0, 1) := by decide +kernel
theorem d_B_rootLimbFits_12 : decode b_B_rootLimbFits 12 = .ok (.getfield 18, 3) := by decide +kernel
theorem d_B_rootLimbFits_15 : decode b_B_rootLimbFits 15 = .ok (.iload_n 2, 1) := by decide +kernel
theorem d_B_rootLimbFits_16 : decode b_B_rootLimbFits 16 = .ok (.iload_n 1, 1) := by decide +kernel
theorem d_B_rootLimbFits_17 : decode b_B_rootLimbFits 17 = .ok (.invokestatic 199, 3) := by decide +kernel
theorem d_B_rootLimbFits_20 : decode b_B_rootLimbFits 20 = .ok (.aload_n 0, 1) := by decide +kernel
theorem d_B_rootLimbFits_21 : decode b_B_rootLimbFits 21 = .ok (.getfield 21, 3) := by decide +kernel
theorem d_B_rootLimbFits_24 : decode b_B_rootLimbFits 24 = .ok (.aload_n 0, 1) := by decide +kernel
theorem d_B_rootLimbFits_25 : decode b_B_rootLimbFits 25 = .ok (.getfield 11, 3) := by decide +kernel
theorem d_B_rootLimbFits_28 : decode b_B_rootLimbFits 28 = .ok (.invokestatic 203, 3) := by decide +kernel
theorem d_B_rootLimbFits_31 : decode b_B_rootLimbFits 31 = .ok (.ifCond .gt 7, 3) := by decide +kernel
theorem d_B_rootLimbFits_34 : decode b_B_rootLimbFits 34 = .ok (.iconst 1, 1) := by decide +kernel
theorem d_B_rootLimbFits_35 : decode b_B_rootLimbFits 35 = .ok (.goto 4, 3) := by decide +kernel
theorem d_B_rootLimbFits_38 : decode b_B_rootLimbFits 38 = .ok (.iconst 0, 1) := by decide +kernel
theorem d_B_rootLimbFits_39 : decode b_B_rootLimbFits 39 = .ok (.ireturn, 1) := by decide +kernel
theorem d_B_load_0 : decode b_B_load 0 = .ok (.aload_n 0, 1) := by decide +kernel
theorem d_B_load_1 : decode b_B_load 1 = .ok (.getfield 11, 3) := by decide +kernel
theorem d_B_load_4 : decode b_B_load 4 = .ok (.iconst 0, 1) := by decide +kernel
theorem d_B_load_5 : decode b_B_load 5 = .ok (.invokestatic 180, 3) := by decide +kernel
theorem d_B_load_8 : decode b_B_load 8 = .ok (.aload_n 1, 1) := by decide +kernel
theorem d_B_load_9 : decode b_B_load 9 = .ok (.getfield 84, 3) := by decide +kernel
theorem d_B_load_12 : decode b_B_load 12 = .ok (.getfield 116, 3) := by decide +kernel
theorem d_B_load_15 : decode b_B_load 15 = .ok (.iconst 0, 1) := by decide +kernel
theorem d_B_load_16 : decode b_B_load 16 = .ok (.aload_n 0, 1) := by decide +kernel
theorem d_B_load_17 : decode b_B_load 17 = .ok (.getfield 11, 3) := by decide +kernel
theorem d_B_load_20 : decode b_B_load 20 = .ok (.iload_n 2, 1) := by decide +kernel
theorem d_B_load_21 : decode b_B_load 21 = .ok (.bipush 15, 2) := by decide +kernel
theorem d_B_load_23 : decode b_B_load 23 = .ok (.invokestatic 207, 3) := by decide +kernel
theorem d_B_load_26 : decode b_B_load 26 = .ok (.return_, 1) := by decide +kernel
theorem d_B_settle_0 : decode b_B_settle 0 = .ok (.iload_n 1, 1) := by decide +kernel
theorem d_B_settle_1 : decode b_B_settle 1 = .ok (.iconst 4, 1) := by decide +kernel
theorem d_B_settle_2 : decode b_B_settle 2 = .ok (.imul, 1) := by decide +kernel
theorem d_B_settle_3 : decode b_B_settle 3 = .ok (.istore 5, 2) := by decide +kernel
theorem d_B_settle_5 : decode b_B_settle 5 = .ok (.aload_n 0, 1) := by decide +kernel
theorem d_B_settle_6 : decode b_B_settle 6 = .ok (.iload 5, 2) := by decide +kernel
theorem d_B_settle_8 : decode b_B_settle 8 = .ok (.iload_n 2, 1) := by decide +kernel
theorem d_B_settle_9 : decode b_B_settle 9 = .ok (.isub, 1) := by decide +kernel
theorem d_B_settle_10 : decode b_B_settle 10 = .ok (.invokestatic 213, 3) := by decide +kernel
theorem d_B_settle_13 : decode b_B_settle 13 = .ok (.aload_n 0, 1) := by decide +kernel
theorem d_B_settle_14 : decode b_B_settle 14 = .ok (.invokestatic 216, 3) := by decide +kernel
theorem d_B_settle_17 : decode b_B_settle 17 = .ok (.iload 5, 2) := by decide +kernel
theorem d_B_settle_19 : decode b_B_settle 19 = .ok (.bipush 32, 2) := by decide +kernel
theorem d_B_settle_21 : decode b_B_settle 21 = .ok (.iadd, 1) := by decide +kernel
theorem d_B_settle_22 : decode b_B_settle 22 = .ok (.if_icmp .le 6, 3) := by decide +kernel
theorem d_B_settle_25 : decode b_B_settle 25 = .ok (.bipush (-3), 2) := by decide +kernel
theorem d_B_settle_27 : decode b_B_settle 27 = .ok (.ireturn, 1) := by decide +kernel
theorem d_B_settle_28 : decode b_B_settle 28 = .ok (.aload 4, 2) := by decide +kernel
theorem d_B_settle_30 : decode b_B_settle 30 = .ok (.getstatic 150, 3) := by decide +kernel
theorem d_B_settle_33 : decode b_B_settle 33 = .ok (.invokevirtual 35, 3) := by decide +kernel
theorem d_B_settle_36 : decode b_B_settle 36 = .ok (.aload 4, 2) := by decide +kernel
theorem d_B_settle_38 : decode b_B_settle 38 = .ok (.iload_n 2, 1) := by decide +kernel
theorem d_B_settle_39 : decode b_B_settle 39 = .ok (.putfield 94, 3) := by decide +kernel
theorem d_B_settle_42 : decode b_B_settle 42 = .ok (.aload_n 0, 1) := by decide +kernel
theorem d_B_settle_43 : decode b_B_settle 43 = .ok (.iload_n 1, 1) := by decide +kernel
theorem d_B_settle_44 : decode b_B_settle 44 = .ok (.bipush 6, 2) := by decide +kernel
theorem d_B_settle_46 : decode b_B_settle 46 = .ok (.isub, 1) := by decide +kernel
theorem d_B_settle_47 : decode b_B_settle 47 = .ok (.aload 4, 2) := by decide +kernel
theorem d_B_settle_49 : decode b_B_settle 49 = .ok (.getfield 84, 3) := by decide +kernel
theorem d_B_settle_52 : decode b_B_settle 52 = .ok (.getfield 116, 3) := by decide +kernel
theorem d_B_settle_55 : decode b_B_settle 55 = .ok (.iconst 0, 1) := by decide +kernel
theorem d_B_settle_56 : decode b_B_settle 56 = .ok (.bipush 15, 2) := by decide +kernel
theorem d_B_settle_58 : decode b_B_settle 58 = .ok (.invokestatic 207, 3) := by decide +kernel
theorem d_B_settle_61 : decode b_B_settle 61 = .ok (.aload 4, 2) := by decide +kernel
theorem d_B_settle_63 : decode b_B_settle 63 = .ok (.getfield 84, 3) := by decide +kernel
theorem d_B_settle_66 : decode b_B_settle 66 = .ok (.iload_n 3, 1) := by decide +kernel
theorem d_B_settle_67 : decode b_B_settle 67 = .ok (.invokevirtual 171, 3) := by decide +kernel
theorem d_B_settle_70 : decode b_B_settle 70 = .ok (.iconst 0, 1) := by decide +kernel
theorem d_B_settle_71 : decode b_B_settle 71 = .ok (.ireturn, 1) := by decide +kernel
theorem d_B_judged_0 : decode b_B_judged 0 = .ok (.aload_n 0, 1) := by decide +kernel
theorem d_B_judged_1 : decode b_B_judged 1 = .ok (.invokevirtual 220, 3) := by decide +kernel
theorem d_B_judged_4 : decode b_B_judged 4 = .ok (.ifCond .eq 8, 3) := by decide +kernel
theorem d_B_judged_7 : decode b_B_judged 7 = .ok (.bipush (-3), 2) := by decide +kernel
theorem d_B_judged_9 : decode b_B_judged 9 = .ok (.goto 4, 3) := by decide +kernel
theorem d_B_judged_12 : decode b_B_judged 12 = .ok (.iconst 0, 1) := by decide +kernel
theorem d_B_judged_13 : decode b_B_judged 13 = .ok (.ireturn, 1) := by decide +kernel

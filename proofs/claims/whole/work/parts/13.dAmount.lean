theorem d_A_init_0 : decode b_A_init 0 = .ok (.aload_n 0, 1) := by decide +kernel
theorem d_A_init_1 : decode b_A_init 1 = .ok (.invokespecial 3, 3) := by decide +kernel
theorem d_A_init_4 : decode b_A_init 4 = .ok (.aload_n 0, 1) := by decide +kernel
theorem d_A_init_5 : decode b_A_init 5 = .ok (.bipush 15, 2) := by decide +kernel
theorem d_A_init_7 : decode b_A_init 7 = .ok (.newarray .int, 2) := by decide +kernel
theorem d_A_init_9 : decode b_A_init 9 = .ok (.putfield 9, 3) := by decide +kernel
theorem d_A_init_12 : decode b_A_init 12 = .ok (.return_, 1) := by decide +kernel
theorem d_A_clear_0 : decode b_A_clear 0 = .ok (.aload_n 0, 1) := by decide +kernel
theorem d_A_clear_1 : decode b_A_clear 1 = .ok (.getfield 9, 3) := by decide +kernel
theorem d_A_clear_4 : decode b_A_clear 4 = .ok (.iconst 0, 1) := by decide +kernel
theorem d_A_clear_5 : decode b_A_clear 5 = .ok (.invokestatic 15, 3) := by decide +kernel
theorem d_A_clear_8 : decode b_A_clear 8 = .ok (.aload_n 0, 1) := by decide +kernel
theorem d_A_clear_9 : decode b_A_clear 9 = .ok (.iconst 0, 1) := by decide +kernel
theorem d_A_clear_10 : decode b_A_clear 10 = .ok (.putfield 21, 3) := by decide +kernel
theorem d_A_clear_13 : decode b_A_clear 13 = .ok (.return_, 1) := by decide +kernel
theorem d_A_take_0 : decode b_A_take 0 = .ok (.aload_n 1, 1) := by decide +kernel
theorem d_A_take_1 : decode b_A_take 1 = .ok (.getfield 9, 3) := by decide +kernel
theorem d_A_take_4 : decode b_A_take 4 = .ok (.iconst 0, 1) := by decide +kernel
theorem d_A_take_5 : decode b_A_take 5 = .ok (.aload_n 0, 1) := by decide +kernel
theorem d_A_take_6 : decode b_A_take 6 = .ok (.getfield 9, 3) := by decide +kernel
theorem d_A_take_9 : decode b_A_take 9 = .ok (.iconst 0, 1) := by decide +kernel
theorem d_A_take_10 : decode b_A_take 10 = .ok (.bipush 15, 2) := by decide +kernel
theorem d_A_take_12 : decode b_A_take 12 = .ok (.invokestatic 25, 3) := by decide +kernel
theorem d_A_take_15 : decode b_A_take 15 = .ok (.aload_n 0, 1) := by decide +kernel
theorem d_A_take_16 : decode b_A_take 16 = .ok (.aload_n 1, 1) := by decide +kernel
theorem d_A_take_17 : decode b_A_take 17 = .ok (.getfield 21, 3) := by decide +kernel
theorem d_A_take_20 : decode b_A_take 20 = .ok (.putfield 21, 3) := by decide +kernel
theorem d_A_take_23 : decode b_A_take 23 = .ok (.return_, 1) := by decide +kernel
theorem d_A_isZero_0 : decode b_A_isZero 0 = .ok (.aload_n 0, 1) := by decide +kernel
theorem d_A_isZero_1 : decode b_A_isZero 1 = .ok (.getfield 9, 3) := by decide +kernel
theorem d_A_isZero_4 : decode b_A_isZero 4 = .ok (.invokestatic 31, 3) := by decide +kernel
theorem d_A_isZero_7 : decode b_A_isZero 7 = .ok (.ifCond .ge 7, 3) := by decide +kernel
theorem d_A_isZero_10 : decode b_A_isZero 10 = .ok (.iconst 1, 1) := by decide +kernel
theorem d_A_isZero_11 : decode b_A_isZero 11 = .ok (.goto 4, 3) := by decide +kernel
theorem d_A_isZero_14 : decode b_A_isZero 14 = .ok (.iconst 0, 1) := by decide +kernel
theorem d_A_isZero_15 : decode b_A_isZero 15 = .ok (.ireturn, 1) := by decide +kernel
theorem d_A_sign_0 : decode b_A_sign 0 = .ok (.aload_n 0, 1) := by decide +kernel
theorem d_A_sign_1 : decode b_A_sign 1 = .ok (.invokevirtual 37, 3) := by decide +kernel
theorem d_A_sign_4 : decode b_A_sign 4 = .ok (.ifCond .eq 5, 3) := by decide +kernel
theorem d_A_sign_7 : decode b_A_sign 7 = .ok (.iconst 0, 1) := by decide +kernel
theorem d_A_sign_8 : decode b_A_sign 8 = .ok (.ireturn, 1) := by decide +kernel
theorem d_A_sign_9 : decode b_A_sign 9 = .ok (.aload_n 0, 1) := by decide +kernel
theorem d_A_sign_10 : decode b_A_sign 10 = .ok (.getfield 21, 3) := by decide +kernel
theorem d_A_sign_13 : decode b_A_sign 13 = .ok (.ifCond .eq 7, 3) := by decide +kernel
theorem d_A_sign_16 : decode b_A_sign 16 = .ok (.iconst (-1), 1) := by decide +kernel
theorem d_A_sign_17 : decode b_A_sign 17 = .ok (.goto 4, 3) := by decide +kernel
theorem d_A_sign_20 : decode b_A_sign 20 = .ok (.iconst 1, 1) := by decide +kernel
theorem d_A_sign_21 : decode b_A_sign 21 = .ok (.ireturn, 1) := by decide +kernel
theorem d_A_signAs_0 : decode b_A_signAs 0 = .ok (.aload_n 0, 1) := by decide +kernel
theorem d_A_signAs_1 : decode b_A_signAs 1 = .ok (.iload_n 1, 1) := by decide +kernel
theorem d_A_signAs_2 : decode b_A_signAs 2 = .ok (.ifCond .eq 14, 3) := by decide +kernel
theorem d_A_signAs_5 : decode b_A_signAs 5 = .ok (.aload_n 0, 1) := by decide +kernel
theorem d_A_signAs_6 : decode b_A_signAs 6 = .ok (.invokevirtual 37, 3) := by decide +kernel
theorem d_A_signAs_9 : decode b_A_signAs 9 = .ok (.ifCond .ne 7, 3) := by decide +kernel
theorem d_A_signAs_12 : decode b_A_signAs 12 = .ok (.iconst 1, 1) := by decide +kernel
theorem d_A_signAs_13 : decode b_A_signAs 13 = .ok (.goto 4, 3) := by decide +kernel
theorem d_A_signAs_16 : decode b_A_signAs 16 = .ok (.iconst 0, 1) := by decide +kernel
theorem d_A_signAs_17 : decode b_A_signAs 17 = .ok (.putfield 21, 3) := by decide +kernel
theorem d_A_signAs_20 : decode b_A_signAs 20 = .ok (.return_, 1) := by decide +kernel
theorem d_A_increase_0 : decode b_A_increase 0 = .ok (.aload_n 1, 1) := by decide +kernel
theorem d_A_increase_1 : decode b_A_increase 1 = .ok (.getfield 21, 3) := by decide +kernel
theorem d_A_increase_4 : decode b_A_increase 4 = .ok (.iload_n 2, 1) := by decide +kernel
theorem d_A_increase_5 : decode b_A_increase 5 = .ok (.if_icmp .eq 7, 3) := by decide +kernel
theorem d_A_increase_8 : decode b_A_increase 8 = .ok (.iconst 1, 1) := by decide +kernel
theorem d_A_increase_9 : decode b_A_increase 9 = .ok (.goto 4, 3) := by decide +kernel
theorem d_A_increase_12 : decode b_A_increase 12 = .ok (.iconst 0, 1) := by decide +kernel
theorem d_A_increase_13 : decode b_A_increase 13 = .ok (.istore_n 3, 1) := by decide +kernel
theorem d_A_increase_14 : decode b_A_increase 14 = .ok (.iload_n 3, 1) := by decide +kernel
theorem d_A_increase_15 : decode b_A_increase 15 = .ok (.aload_n 0, 1) := by decide +kernel
theorem d_A_increase_16 : decode b_A_increase 16 = .ok (.getfield 21, 3) := by decide +kernel
theorem d_A_increase_19 : decode b_A_increase 19 = .ok (.if_icmp .ne 17, 3) := by decide +kernel
theorem d_A_increase_22 : decode b_A_increase 22 = .ok (.aload_n 0, 1) := by decide +kernel
theorem d_A_increase_23 : decode b_A_increase 23 = .ok (.getfield 9, 3) := by decide +kernel
theorem d_A_increase_26 : decode b_A_increase 26 = .ok (.aload_n 1, 1) := by decide +kernel
theorem d_A_increase_27 : decode b_A_increase 27 = .ok (.getfield 9, 3) := by decide +kernel
theorem d_A_increase_30 : decode b_A_increase 30 = .ok (.invokestatic 41, 3) := by decide +kernel
theorem d_A_increase_33 : decode b_A_increase 33 = .ok (.goto 55, 3) := by decide +kernel
theorem d_A_increase_36 : decode b_A_increase 36 = .ok (.aload_n 0, 1) := by decide +kernel
theorem d_A_increase_37 : decode b_A_increase 37 = .ok (.getfield 9, 3) := by decide +kernel
theorem d_A_increase_40 : decode b_A_increase 40 = .ok (.aload_n 1, 1) := by decide +kernel
theorem d_A_increase_41 : decode b_A_increase 41 = .ok (.getfield 9, 3) := by decide +kernel
theorem d_A_increase_44 : decode b_A_increase 44 = .ok (.invokestatic 45, 3) := by decide +kernel
theorem d_A_increase_47 : decode b_A_increase 47 = .ok (.ifCond .lt 26, 3) := by decide +kernel
theorem d_A_increase_50 : decode b_A_increase 50 = .ok (.aload_n 0, 1) := by decide +kernel
theorem d_A_increase_51 : decode b_A_increase 51 = .ok (.getfield 9, 3) := by decide +kernel
theorem d_A_increase_54 : decode b_A_increase 54 = .ok (.aload_n 0, 1) := by decide +kernel
theorem d_A_increase_55 : decode b_A_increase 55 = .ok (.getfield 9, 3) := by decide +kernel
theorem d_A_increase_58 : decode b_A_increase 58 = .ok (.aload_n 1, 1) := by decide +kernel
theorem d_A_increase_59 : decode b_A_increase 59 = .ok (.getfield 9, 3) := by decide +kernel
theorem d_A_increase_62 : decode b_A_increase 62 = .ok (.invokestatic 49, 3) := by decide +kernel
theorem d_A_increase_65 : decode b_A_increase 65 = .ok (.aload_n 0, 1) := by decide +kernel
theorem d_A_increase_66 : decode b_A_increase 66 = .ok (.getfield 21, 3) := by decide +kernel
theorem d_A_increase_69 : decode b_A_increase 69 = .ok (.istore_n 3, 1) := by decide +kernel
theorem d_A_increase_70 : decode b_A_increase 70 = .ok (.goto 18, 3) := by decide +kernel
theorem d_A_increase_73 : decode b_A_increase 73 = .ok (.aload_n 0, 1) := by decide +kernel
theorem d_A_increase_74 : decode b_A_increase 74 = .ok (.getfield 9, 3) := by decide +kernel
theorem d_A_increase_77 : decode b_A_increase 77 = .ok (.aload_n 1, 1) := by decide +kernel
theorem d_A_increase_78 : decode b_A_increase 78 = .ok (.getfield 9, 3) := by decide +kernel
theorem d_A_increase_81 : decode b_A_increase 81 = .ok (.aload_n 0, 1) := by decide +kernel
theorem d_A_increase_82 : decode b_A_increase 82 = .ok (.getfield 9, 3) := by decide +kernel
theorem d_A_increase_85 : decode b_A_increase 85 = .ok (.invokestatic 49, 3) := by decide +kernel
theorem d_A_increase_88 : decode b_A_increase 88 = .ok (.aload_n 0, 1) := by decide +kernel
theorem d_A_increase_89 : decode b_A_increase 89 = .ok (.iload_n 3, 1) := by decide +kernel
theorem d_A_increase_90 : decode b_A_increase 90 = .ok (.invokevirtual 53, 3) := by decide +kernel
theorem d_A_increase_93 : decode b_A_increase 93 = .ok (.return_, 1) := by decide +kernel
theorem d_A_comparedWith_0 : decode b_A_comparedWith 0 = .ok (.aload_n 0, 1) := by decide +kernel
theorem d_A_comparedWith_1 : decode b_A_comparedWith 1 = .ok (.getfield 21, 3) := by decide +kernel
theorem d_A_comparedWith_4 : decode b_A_comparedWith 4 = .ok (.aload_n 1, 1) := by decide +kernel
theorem d_A_comparedWith_5 : decode b_A_comparedWith 5 = .ok (.getfield 21, 3) := by decide +kernel
theorem d_A_comparedWith_8 : decode b_A_comparedWith 8 = .ok (.if_icmp .eq 16, 3) := by decide +kernel
theorem d_A_comparedWith_11 : decode b_A_comparedWith 11 = .ok (.aload_n 0, 1) := by decide +kernel
theorem d_A_comparedWith_12 : decode b_A_comparedWith 12 = .ok (.getfield 21, 3) := by decide +kernel
theorem d_A_comparedWith_15 : decode b_A_comparedWith 15 = .ok (.ifCond .eq 7, 3) := by decide +kernel
theorem d_A_comparedWith_18 : decode b_A_comparedWith 18 = .ok (.iconst (-1), 1) := by decide +kernel
theorem d_A_comparedWith_19 : decode b_A_comparedWith 19 = .ok (.goto 4, 3) := by decide +kernel
theorem d_A_comparedWith_22 : decode b_A_comparedWith 22 = .ok (.iconst 1, 1) := by decide +kernel
theorem d_A_comparedWith_23 : decode b_A_comparedWith 23 = .ok (.ireturn, 1) := by decide +kernel
theorem d_A_comparedWith_24 : decode b_A_comparedWith 24 = .ok (.aload_n 0, 1) := by decide +kernel
theorem d_A_comparedWith_25 : decode b_A_comparedWith 25 = .ok (.getfield 9, 3) := by decide +kernel
theorem d_A_comparedWith_28 : decode b_A_comparedWith 28 = .ok (.aload_n 1, 1) := by decide +kernel
theorem d_A_comparedWith_29 : decode b_A_comparedWith 29 = .ok (.getfield 9, 3) := by decide +kernel
theorem d_A_comparedWith_32 : decode b_A_comparedWith 32 = .ok (.invokestatic 45, 3) := by decide +kernel
theorem d_A_comparedWith_35 : decode b_A_comparedWith 35 = .ok (.istore_n 2, 1) := by decide +kernel
theorem d_A_comparedWith_36 : decode b_A_comparedWith 36 = .ok (.aload_n 0, 1) := by decide +kernel
theorem d_A_comparedWith_37 : decode b_A_comparedWith 37 = .ok (.getfield 21, 3) := by decide +kernel
theorem d_A_comparedWith_40 : decode b_A_comparedWith 40 = .ok (.ifCond .eq 8, 3) := by decide +kernel
theorem d_A_comparedWith_43 : decode b_A_comparedWith 43 = .ok (.iload_n 2, 1) := by decide +kernel
theorem d_A_comparedWith_44 : decode b_A_comparedWith 44 = .ok (.ineg, 1) := by decide +kernel
theorem d_A_comparedWith_45 : decode b_A_comparedWith 45 = .ok (.goto 4, 3) := by decide +kernel
theorem d_A_comparedWith_48 : decode b_A_comparedWith 48 = .ok (.iload_n 2, 1) := by decide +kernel
theorem d_A_comparedWith_49 : decode b_A_comparedWith 49 = .ok (.ireturn, 1) := by decide +kernel
theorem d_A_reachesTenTo_0 : decode b_A_reachesTenTo 0 = .ok (.aload_n 0, 1) := by decide +kernel
theorem d_A_reachesTenTo_1 : decode b_A_reachesTenTo 1 = .ok (.getfield 9, 3) := by decide +kernel
theorem d_A_reachesTenTo_4 : decode b_A_reachesTenTo 4 = .ok (.invokestatic 57, 3) := by decide +kernel
theorem d_A_reachesTenTo_7 : decode b_A_reachesTenTo 7 = .ok (.bipush 24, 2) := by decide +kernel
theorem d_A_reachesTenTo_9 : decode b_A_reachesTenTo 9 = .ok (.iload_n 1, 1) := by decide +kernel
theorem d_A_reachesTenTo_10 : decode b_A_reachesTenTo 10 = .ok (.iadd, 1) := by decide +kernel
theorem d_A_reachesTenTo_11 : decode b_A_reachesTenTo 11 = .ok (.if_icmp .le 7, 3) := by decide +kernel
theorem d_A_reachesTenTo_14 : decode b_A_reachesTenTo 14 = .ok (.iconst 1, 1) := by decide +kernel
theorem d_A_reachesTenTo_15 : decode b_A_reachesTenTo 15 = .ok (.goto 4, 3) := by decide +kernel
theorem d_A_reachesTenTo_18 : decode b_A_reachesTenTo 18 = .ok (.iconst 0, 1) := by decide +kernel
theorem d_A_reachesTenTo_19 : decode b_A_reachesTenTo 19 = .ok (.ireturn, 1) := by decide +kernel
theorem d_A_weight_0 : decode b_A_weight 0 = .ok (.aload_n 0, 1) := by decide +kernel
theorem d_A_weight_1 : decode b_A_weight 1 = .ok (.getfield 9, 3) := by decide +kernel
theorem d_A_weight_4 : decode b_A_weight 4 = .ok (.invokestatic 31, 3) := by decide +kernel
theorem d_A_weight_7 : decode b_A_weight 7 = .ok (.istore_n 1, 1) := by decide +kernel
theorem d_A_weight_8 : decode b_A_weight 8 = .ok (.iload_n 1, 1) := by decide +kernel
theorem d_A_weight_9 : decode b_A_weight 9 = .ok (.ifCond .ge 7, 3) := by decide +kernel
theorem d_A_weight_12 : decode b_A_weight 12 = .ok (.iconst 0, 1) := by decide +kernel
theorem d_A_weight_13 : decode b_A_weight 13 = .ok (.goto 7, 3) := by decide +kernel
theorem d_A_weight_16 : decode b_A_weight 16 = .ok (.iload_n 1, 1) := by decide +kernel
theorem d_A_weight_17 : decode b_A_weight 17 = .ok (.bipush 6, 2) := by decide +kernel
theorem d_A_weight_19 : decode b_A_weight 19 = .ok (.isub, 1) := by decide +kernel
theorem d_A_weight_20 : decode b_A_weight 20 = .ok (.ireturn, 1) := by decide +kernel
theorem d_A_lead_0 : decode b_A_lead 0 = .ok (.aload_n 0, 1) := by decide +kernel
theorem d_A_lead_1 : decode b_A_lead 1 = .ok (.getfield 9, 3) := by decide +kernel
theorem d_A_lead_4 : decode b_A_lead 4 = .ok (.invokestatic 31, 3) := by decide +kernel
theorem d_A_lead_7 : decode b_A_lead 7 = .ok (.istore_n 1, 1) := by decide +kernel
theorem d_A_lead_8 : decode b_A_lead 8 = .ok (.iload_n 1, 1) := by decide +kernel
theorem d_A_lead_9 : decode b_A_lead 9 = .ok (.ifCond .ge 7, 3) := by decide +kernel
theorem d_A_lead_12 : decode b_A_lead 12 = .ok (.iconst 0, 1) := by decide +kernel
theorem d_A_lead_13 : decode b_A_lead 13 = .ok (.goto 9, 3) := by decide +kernel
theorem d_A_lead_16 : decode b_A_lead 16 = .ok (.aload_n 0, 1) := by decide +kernel
theorem d_A_lead_17 : decode b_A_lead 17 = .ok (.getfield 9, 3) := by decide +kernel
theorem d_A_lead_20 : decode b_A_lead 20 = .ok (.iload_n 1, 1) := by decide +kernel
theorem d_A_lead_21 : decode b_A_lead 21 = .ok (.iaload, 1) := by decide +kernel
theorem d_A_lead_22 : decode b_A_lead 22 = .ok (.ireturn, 1) := by decide +kernel
theorem d_N_init_0 : decode b_N_init 0 = .ok (.aload_n 0, 1) := by decide +kernel
theorem d_N_init_1 : decode b_N_init 1 = .ok (.invokespecial 3, 3) := by decide +kernel
theorem d_N_init_4 : decode b_N_init 4 = .ok (.aload_n 0, 1) := by decide +kernel
theorem d_N_init_5 : decode b_N_init 5 = .ok (.getstatic 9, 3) := by decide +kernel
theorem d_N_init_8 : decode b_N_init 8 = .ok (.putfield 15, 3) := by decide +kernel
theorem d_N_init_11 : decode b_N_init 11 = .ok (.aload_n 0, 1) := by decide +kernel
theorem d_N_init_12 : decode b_N_init 12 = .ok (.new 20, 3) := by decide +kernel
theorem d_N_init_15 : decode b_N_init 15 = .ok (.dup, 1) := by decide +kernel
theorem d_N_init_16 : decode b_N_init 16 = .ok (.invokespecial 22, 3) := by decide +kernel
theorem d_N_init_19 : decode b_N_init 19 = .ok (.putfield 23, 3) := by decide +kernel
theorem d_N_init_22 : decode b_N_init 22 = .ok (.return_, 1) := by decide +kernel
theorem d_N_isFinite_0 : decode b_N_isFinite 0 = .ok (.aload_n 0, 1) := by decide +kernel
theorem d_N_isFinite_1 : decode b_N_isFinite 1 = .ok (.getfield 15, 3) := by decide +kernel
theorem d_N_isFinite_4 : decode b_N_isFinite 4 = .ok (.getstatic 9, 3) := by decide +kernel
theorem d_N_isFinite_7 : decode b_N_isFinite 7 = .ok (.if_acmp .ne 7, 3) := by decide +kernel
theorem d_N_isFinite_10 : decode b_N_isFinite 10 = .ok (.iconst 1, 1) := by decide +kernel
theorem d_N_isFinite_11 : decode b_N_isFinite 11 = .ok (.goto 4, 3) := by decide +kernel
theorem d_N_isFinite_14 : decode b_N_isFinite 14 = .ok (.iconst 0, 1) := by decide +kernel
theorem d_N_isFinite_15 : decode b_N_isFinite 15 = .ok (.ireturn, 1) := by decide +kernel
theorem d_N_take_0 : decode b_N_take 0 = .ok (.aload_n 0, 1) := by decide +kernel
theorem d_N_take_1 : decode b_N_take 1 = .ok (.aload_n 1, 1) := by decide +kernel
theorem d_N_take_2 : decode b_N_take 2 = .ok (.getfield 15, 3) := by decide +kernel
theorem d_N_take_5 : decode b_N_take 5 = .ok (.putfield 15, 3) := by decide +kernel
theorem d_N_take_8 : decode b_N_take 8 = .ok (.aload_n 0, 1) := by decide +kernel
theorem d_N_take_9 : decode b_N_take 9 = .ok (.aload_n 1, 1) := by decide +kernel
theorem d_N_take_10 : decode b_N_take 10 = .ok (.getfield 27, 3) := by decide +kernel
theorem d_N_take_13 : decode b_N_take 13 = .ok (.putfield 27, 3) := by decide +kernel
theorem d_N_take_16 : decode b_N_take 16 = .ok (.aload_n 0, 1) := by decide +kernel
theorem d_N_take_17 : decode b_N_take 17 = .ok (.getfield 23, 3) := by decide +kernel
theorem d_N_take_20 : decode b_N_take 20 = .ok (.aload_n 1, 1) := by decide +kernel
theorem d_N_take_21 : decode b_N_take 21 = .ok (.getfield 23, 3) := by decide +kernel
theorem d_N_take_24 : decode b_N_take 24 = .ok (.invokevirtual 31, 3) := by decide +kernel
theorem d_N_take_27 : decode b_N_take 27 = .ok (.return_, 1) := by decide +kernel
theorem d_N_become_0 : decode b_N_become 0 = .ok (.aload_n 0, 1) := by decide +kernel
theorem d_N_become_1 : decode b_N_become 1 = .ok (.aload_n 1, 1) := by decide +kernel
theorem d_N_become_2 : decode b_N_become 2 = .ok (.putfield 15, 3) := by decide +kernel
theorem d_N_become_5 : decode b_N_become 5 = .ok (.aload_n 0, 1) := by decide +kernel
theorem d_N_become_6 : decode b_N_become 6 = .ok (.iconst 0, 1) := by decide +kernel
theorem d_N_become_7 : decode b_N_become 7 = .ok (.putfield 27, 3) := by decide +kernel
theorem d_N_become_10 : decode b_N_become 10 = .ok (.aload_n 0, 1) := by decide +kernel
theorem d_N_become_11 : decode b_N_become 11 = .ok (.getfield 23, 3) := by decide +kernel
theorem d_N_become_14 : decode b_N_become 14 = .ok (.invokevirtual 35, 3) := by decide +kernel
theorem d_N_become_17 : decode b_N_become 17 = .ok (.return_, 1) := by decide +kernel
theorem d_N_becomeInfinite_0 : decode b_N_becomeInfinite 0 = .ok (.aload_n 0, 1) := by decide +kernel
theorem d_N_becomeInfinite_1 : decode b_N_becomeInfinite 1 = .ok (.iload_n 1, 1) := by decide +kernel
theorem d_N_becomeInfinite_2 : decode b_N_becomeInfinite 2 = .ok (.ifCond .ge 9, 3) := by decide +kernel
theorem d_N_becomeInfinite_5 : decode b_N_becomeInfinite 5 = .ok (.getstatic 38, 3) := by decide +kernel
theorem d_N_becomeInfinite_8 : decode b_N_becomeInfinite 8 = .ok (.goto 6, 3) := by decide +kernel
theorem d_N_becomeInfinite_11 : decode b_N_becomeInfinite 11 = .ok (.getstatic 41, 3) := by decide +kernel
theorem d_N_becomeInfinite_14 : decode b_N_becomeInfinite 14 = .ok (.invokevirtual 44, 3) := by decide +kernel
theorem d_N_becomeInfinite_17 : decode b_N_becomeInfinite 17 = .ok (.return_, 1) := by decide +kernel
theorem d_N_becomeSmall_0 : decode b_N_becomeSmall 0 = .ok (.aload_n 0, 1) := by decide +kernel
theorem d_N_becomeSmall_1 : decode b_N_becomeSmall 1 = .ok (.getstatic 9, 3) := by decide +kernel
theorem d_N_becomeSmall_4 : decode b_N_becomeSmall 4 = .ok (.invokevirtual 44, 3) := by decide +kernel
theorem d_N_becomeSmall_7 : decode b_N_becomeSmall 7 = .ok (.aload_n 0, 1) := by decide +kernel
theorem d_N_becomeSmall_8 : decode b_N_becomeSmall 8 = .ok (.getfield 23, 3) := by decide +kernel
theorem d_N_becomeSmall_11 : decode b_N_becomeSmall 11 = .ok (.getfield 48, 3) := by decide +kernel
theorem d_N_becomeSmall_14 : decode b_N_becomeSmall 14 = .ok (.bipush 6, 2) := by decide +kernel
theorem d_N_becomeSmall_16 : decode b_N_becomeSmall 16 = .ok (.iload_n 1, 1) := by decide +kernel
theorem d_N_becomeSmall_17 : decode b_N_becomeSmall 17 = .ok (.iastore, 1) := by decide +kernel
theorem d_N_becomeSmall_18 : decode b_N_becomeSmall 18 = .ok (.return_, 1) := by decide +kernel
theorem d_N_sign_0 : decode b_N_sign 0 = .ok (.aload_n 0, 1) := by decide +kernel
theorem d_N_sign_1 : decode b_N_sign 1 = .ok (.invokevirtual 52, 3) := by decide +kernel
theorem d_N_sign_4 : decode b_N_sign 4 = .ok (.ifCond .eq 11, 3) := by decide +kernel
theorem d_N_sign_7 : decode b_N_sign 7 = .ok (.aload_n 0, 1) := by decide +kernel
theorem d_N_sign_8 : decode b_N_sign 8 = .ok (.getfield 23, 3) := by decide +kernel
theorem d_N_sign_11 : decode b_N_sign 11 = .ok (.invokevirtual 56, 3) := by decide +kernel
theorem d_N_sign_14 : decode b_N_sign 14 = .ok (.ireturn, 1) := by decide +kernel
theorem d_N_sign_15 : decode b_N_sign 15 = .ok (.aload_n 0, 1) := by decide +kernel
theorem d_N_sign_16 : decode b_N_sign 16 = .ok (.getfield 15, 3) := by decide +kernel
theorem d_N_sign_19 : decode b_N_sign 19 = .ok (.getstatic 38, 3) := by decide +kernel
theorem d_N_sign_22 : decode b_N_sign 22 = .ok (.if_acmp .ne 7, 3) := by decide +kernel
theorem d_N_sign_25 : decode b_N_sign 25 = .ok (.iconst (-1), 1) := by decide +kernel
theorem d_N_sign_26 : decode b_N_sign 26 = .ok (.goto 4, 3) := by decide +kernel
theorem d_N_sign_29 : decode b_N_sign 29 = .ok (.iconst 1, 1) := by decide +kernel
theorem d_N_sign_30 : decode b_N_sign 30 = .ok (.ireturn, 1) := by decide +kernel
theorem d_N_isZero_0 : decode b_N_isZero 0 = .ok (.aload_n 0, 1) := by decide +kernel
theorem d_N_isZero_1 : decode b_N_isZero 1 = .ok (.invokevirtual 52, 3) := by decide +kernel
theorem d_N_isZero_4 : decode b_N_isZero 4 = .ok (.ifCond .eq 17, 3) := by decide +kernel
theorem d_N_isZero_7 : decode b_N_isZero 7 = .ok (.aload_n 0, 1) := by decide +kernel
theorem d_N_isZero_8 : decode b_N_isZero 8 = .ok (.getfield 23, 3) := by decide +kernel
theorem d_N_isZero_11 : decode b_N_isZero 11 = .ok (.invokevirtual 60, 3) := by decide +kernel
theorem d_N_isZero_14 : decode b_N_isZero 14 = .ok (.ifCond .eq 7, 3) := by decide +kernel
theorem d_N_isZero_17 : decode b_N_isZero 17 = .ok (.iconst 1, 1) := by decide +kernel
theorem d_N_isZero_18 : decode b_N_isZero 18 = .ok (.goto 4, 3) := by decide +kernel
theorem d_N_isZero_21 : decode b_N_isZero 21 = .ok (.iconst 0, 1) := by decide +kernel
theorem d_N_isZero_22 : decode b_N_isZero 22 = .ok (.ireturn, 1) := by decide +kernel
theorem d_N_isTooLarge_0 : decode b_N_isTooLarge 0 = .ok (.aload_n 0, 1) := by decide +kernel
theorem d_N_isTooLarge_1 : decode b_N_isTooLarge 1 = .ok (.getfield 23, 3) := by decide +kernel
theorem d_N_isTooLarge_4 : decode b_N_isTooLarge 4 = .ok (.bipush 32, 2) := by decide +kernel
theorem d_N_isTooLarge_6 : decode b_N_isTooLarge 6 = .ok (.invokevirtual 63, 3) := by decide +kernel
theorem d_N_isTooLarge_9 : decode b_N_isTooLarge 9 = .ok (.ireturn, 1) := by decide +kernel
theorem d_N_roundAt_0 : decode b_N_roundAt 0 = .ok (.aload_n 0, 1) := by decide +kernel
theorem d_N_roundAt_1 : decode b_N_roundAt 1 = .ok (.getfield 23, 3) := by decide +kernel
theorem d_N_roundAt_4 : decode b_N_roundAt 4 = .ok (.getfield 48, 3) := by decide +kernel
theorem d_N_roundAt_7 : decode b_N_roundAt 7 = .ok (.bipush 24, 2) := by decide +kernel
theorem d_N_roundAt_9 : decode b_N_roundAt 9 = .ok (.iload_n 1, 1) := by decide +kernel
theorem d_N_roundAt_10 : decode b_N_roundAt 10 = .ok (.isub, 1) := by decide +kernel
theorem d_N_roundAt_11 : decode b_N_roundAt 11 = .ok (.invokestatic 67, 3) := by decide +kernel
theorem d_N_roundAt_14 : decode b_N_roundAt 14 = .ok (.aload_n 0, 1) := by decide +kernel
theorem d_N_roundAt_15 : decode b_N_roundAt 15 = .ok (.iload_n 1, 1) := by decide +kernel
theorem d_N_roundAt_16 : decode b_N_roundAt 16 = .ok (.invokevirtual 73, 3) := by decide +kernel
theorem d_N_roundAt_19 : decode b_N_roundAt 19 = .ok (.return_, 1) := by decide +kernel
theorem d_N_truncateAt_0 : decode b_N_truncateAt 0 = .ok (.aload_n 0, 1) := by decide +kernel
theorem d_N_truncateAt_1 : decode b_N_truncateAt 1 = .ok (.getfield 23, 3) := by decide +kernel
theorem d_N_truncateAt_4 : decode b_N_truncateAt 4 = .ok (.getfield 48, 3) := by decide +kernel
theorem d_N_truncateAt_7 : decode b_N_truncateAt 7 = .ok (.bipush 24, 2) := by decide +kernel
theorem d_N_truncateAt_9 : decode b_N_truncateAt 9 = .ok (.iload_n 1, 1) := by decide +kernel
theorem d_N_truncateAt_10 : decode b_N_truncateAt 10 = .ok (.isub, 1) := by decide +kernel
theorem d_N_truncateAt_11 : decode b_N_truncateAt 11 = .ok (.invokestatic 77, 3) := by decide +kernel
theorem d_N_truncateAt_14 : decode b_N_truncateAt 14 = .ok (.aload_n 0, 1) := by decide +kernel
theorem d_N_truncateAt_15 : decode b_N_truncateAt 15 = .ok (.iload_n 1, 1) := by decide +kernel
theorem d_N_truncateAt_16 : decode b_N_truncateAt 16 = .ok (.invokevirtual 73, 3) := by decide +kernel
theorem d_N_truncateAt_19 : decode b_N_truncateAt 19 = .ok (.return_, 1) := by decide +kernel
theorem d_N_keepSignAndPlaces_0 : decode b_N_keepSignAndPlaces 0 = .ok (.aload_n 0, 1) := by decide +kernel
theorem d_N_keepSignAndPlaces_1 : decode b_N_keepSignAndPlaces 1 = .ok (.getfield 23, 3) := by decide +kernel
theorem d_N_keepSignAndPlaces_4 : decode b_N_keepSignAndPlaces 4 = .ok (.aload_n 0, 1) := by decide +kernel
theorem d_N_keepSignAndPlaces_5 : decode b_N_keepSignAndPlaces 5 = .ok (.getfield 23, 3) := by decide +kernel
theorem d_N_keepSignAndPlaces_8 : decode b_N_keepSignAndPlaces 8 = .ok (.getfield 80, 3) := by decide +kernel
theorem d_N_keepSignAndPlaces_11 : decode b_N_keepSignAndPlaces 11 = .ok (.invokevirtual 84, 3) := by decide +kernel
theorem d_N_keepSignAndPlaces_14 : decode b_N_keepSignAndPlaces 14 = .ok (.aload_n 0, 1) := by decide +kernel
theorem d_N_keepSignAndPlaces_15 : decode b_N_keepSignAndPlaces 15 = .ok (.iload_n 1, 1) := by decide +kernel
theorem d_N_keepSignAndPlaces_16 : decode b_N_keepSignAndPlaces 16 = .ok (.iconst 0, 1) := by decide +kernel
theorem d_N_keepSignAndPlaces_17 : decode b_N_keepSignAndPlaces 17 = .ok (.invokestatic 88, 3) := by decide +kernel
theorem d_N_keepSignAndPlaces_20 : decode b_N_keepSignAndPlaces 20 = .ok (.putfield 27, 3) := by decide +kernel
theorem d_N_keepSignAndPlaces_23 : decode b_N_keepSignAndPlaces 23 = .ok (.return_, 1) := by decide +kernel
theorem d_N_makeWhole_0 : decode b_N_makeWhole 0 = .ok (.aload_n 0, 1) := by decide +kernel
theorem d_N_makeWhole_1 : decode b_N_makeWhole 1 = .ok (.getfield 23, 3) := by decide +kernel
theorem d_N_makeWhole_4 : decode b_N_makeWhole 4 = .ok (.getfield 80, 3) := by decide +kernel
theorem d_N_makeWhole_7 : decode b_N_makeWhole 7 = .ok (.istore_n 2, 1) := by decide +kernel
theorem d_N_makeWhole_8 : decode b_N_makeWhole 8 = .ok (.iload_n 2, 1) := by decide +kernel
theorem d_N_makeWhole_9 : decode b_N_makeWhole 9 = .ok (.iload_n 1, 1) := by decide +kernel
theorem d_N_makeWhole_10 : decode b_N_makeWhole 10 = .ok (.if_icmp .ne 14, 3) := by decide +kernel
theorem d_N_makeWhole_13 : decode b_N_makeWhole 13 = .ok (.aload_n 0, 1) := by decide +kernel
theorem d_N_makeWhole_14 : decode b_N_makeWhole 14 = .ok (.invokevirtual 94, 3) := by decide +kernel
theorem d_N_makeWhole_17 : decode b_N_makeWhole 17 = .ok (.ifCond .eq 7, 3) := by decide +kernel
theorem d_N_makeWhole_20 : decode b_N_makeWhole 20 = .ok (.iconst 1, 1) := by decide +kernel
theorem d_N_makeWhole_21 : decode b_N_makeWhole 21 = .ok (.goto 4, 3) := by decide +kernel
theorem d_N_makeWhole_24 : decode b_N_makeWhole 24 = .ok (.iconst 0, 1) := by decide +kernel
theorem d_N_makeWhole_25 : decode b_N_makeWhole 25 = .ok (.istore_n 3, 1) := by decide +kernel
theorem d_N_makeWhole_26 : decode b_N_makeWhole 26 = .ok (.aload_n 0, 1) := by decide +kernel
theorem d_N_makeWhole_27 : decode b_N_makeWhole 27 = .ok (.iconst 0, 1) := by decide +kernel
theorem d_N_makeWhole_28 : decode b_N_makeWhole 28 = .ok (.invokevirtual 97, 3) := by decide +kernel
theorem d_N_makeWhole_31 : decode b_N_makeWhole 31 = .ok (.iload_n 3, 1) := by decide +kernel
theorem d_N_makeWhole_32 : decode b_N_makeWhole 32 = .ok (.ifCond .eq 23, 3) := by decide +kernel
theorem d_N_makeWhole_35 : decode b_N_makeWhole 35 = .ok (.aload_n 0, 1) := by decide +kernel
theorem d_N_makeWhole_36 : decode b_N_makeWhole 36 = .ok (.getfield 23, 3) := by decide +kernel
theorem d_N_makeWhole_39 : decode b_N_makeWhole 39 = .ok (.getfield 48, 3) := by decide +kernel
theorem d_N_makeWhole_42 : decode b_N_makeWhole 42 = .ok (.bipush 24, 2) := by decide +kernel
theorem d_N_makeWhole_44 : decode b_N_makeWhole 44 = .ok (.invokestatic 100, 3) := by decide +kernel
theorem d_N_makeWhole_47 : decode b_N_makeWhole 47 = .ok (.aload_n 0, 1) := by decide +kernel
theorem d_N_makeWhole_48 : decode b_N_makeWhole 48 = .ok (.getfield 23, 3) := by decide +kernel
theorem d_N_makeWhole_51 : decode b_N_makeWhole 51 = .ok (.iload_n 2, 1) := by decide +kernel
theorem d_N_makeWhole_52 : decode b_N_makeWhole 52 = .ok (.invokevirtual 84, 3) := by decide +kernel
theorem d_N_makeWhole_55 : decode b_N_makeWhole 55 = .ok (.return_, 1) := by decide +kernel
theorem d_N_hasFraction_0 : decode b_N_hasFraction 0 = .ok (.iconst 0, 1) := by decide +kernel
theorem d_N_hasFraction_1 : decode b_N_hasFraction 1 = .ok (.istore_n 1, 1) := by decide +kernel
theorem d_N_hasFraction_2 : decode b_N_hasFraction 2 = .ok (.iload_n 1, 1) := by decide +kernel
theorem d_N_hasFraction_3 : decode b_N_hasFraction 3 = .ok (.bipush 6, 2) := by decide +kernel
theorem d_N_hasFraction_5 : decode b_N_hasFraction 5 = .ok (.if_icmp .ge 23, 3) := by decide +kernel
theorem d_N_hasFraction_8 : decode b_N_hasFraction 8 = .ok (.aload_n 0, 1) := by decide +kernel
theorem d_N_hasFraction_9 : decode b_N_hasFraction 9 = .ok (.getfield 23, 3) := by decide +kernel
theorem d_N_hasFraction_12 : decode b_N_hasFraction 12 = .ok (.getfield 48, 3) := by decide +kernel
theorem d_N_hasFraction_15 : decode b_N_hasFraction 15 = .ok (.iload_n 1, 1) := by decide +kernel
theorem d_N_hasFraction_16 : decode b_N_hasFraction 16 = .ok (.iaload, 1) := by decide +kernel
theorem d_N_hasFraction_17 : decode b_N_hasFraction 17 = .ok (.ifCond .eq 5, 3) := by decide +kernel
theorem d_N_hasFraction_20 : decode b_N_hasFraction 20 = .ok (.iconst 1, 1) := by decide +kernel
theorem d_N_hasFraction_21 : decode b_N_hasFraction 21 = .ok (.ireturn, 1) := by decide +kernel
theorem d_N_hasFraction_22 : decode b_N_hasFraction 22 = .ok (.iinc 1 1, 3) := by decide +kernel
theorem d_N_hasFraction_25 : decode b_N_hasFraction 25 = .ok (.goto (-23), 3) := by decide +kernel
theorem d_N_hasFraction_28 : decode b_N_hasFraction 28 = .ok (.iconst 0, 1) := by decide +kernel
theorem d_N_hasFraction_29 : decode b_N_hasFraction 29 = .ok (.ireturn, 1) := by decide +kernel
theorem d_N_trim_0 : decode b_N_trim 0 = .ok (.aload_n 0, 1) := by decide +kernel
theorem d_N_trim_1 : decode b_N_trim 1 = .ok (.getfield 27, 3) := by decide +kernel
theorem d_N_trim_4 : decode b_N_trim 4 = .ok (.ifCond .le 36, 3) := by decide +kernel
theorem d_N_trim_7 : decode b_N_trim 7 = .ok (.aload_n 0, 1) := by decide +kernel
theorem d_N_trim_8 : decode b_N_trim 8 = .ok (.getfield 23, 3) := by decide +kernel
theorem d_N_trim_11 : decode b_N_trim 11 = .ok (.getfield 48, 3) := by decide +kernel
theorem d_N_trim_14 : decode b_N_trim 14 = .ok (.bipush 24, 2) := by decide +kernel
theorem d_N_trim_16 : decode b_N_trim 16 = .ok (.aload_n 0, 1) := by decide +kernel
theorem d_N_trim_17 : decode b_N_trim 17 = .ok (.getfield 27, 3) := by decide +kernel
theorem d_N_trim_20 : decode b_N_trim 20 = .ok (.isub, 1) := by decide +kernel
theorem d_N_trim_21 : decode b_N_trim 21 = .ok (.invokestatic 103, 3) := by decide +kernel
theorem d_N_trim_24 : decode b_N_trim 24 = .ok (.ifCond .ne 16, 3) := by decide +kernel
theorem d_N_trim_27 : decode b_N_trim 27 = .ok (.aload_n 0, 1) := by decide +kernel
theorem d_N_trim_28 : decode b_N_trim 28 = .ok (.dup, 1) := by decide +kernel
theorem d_N_trim_29 : decode b_N_trim 29 = .ok (.getfield 27, 3) := by decide +kernel
theorem d_N_trim_32 : decode b_N_trim 32 = .ok (.iconst 1, 1) := by decide +kernel
theorem d_N_trim_33 : decode b_N_trim 33 = .ok (.isub, 1) := by decide +kernel
theorem d_N_trim_34 : decode b_N_trim 34 = .ok (.putfield 27, 3) := by decide +kernel
theorem d_N_trim_37 : decode b_N_trim 37 = .ok (.goto (-37), 3) := by decide +kernel
theorem d_N_trim_40 : decode b_N_trim 40 = .ok (.return_, 1) := by decide +kernel
theorem d_N_comparedWith_0 : decode b_N_comparedWith 0 = .ok (.aload_n 0, 1) := by decide +kernel
theorem d_N_comparedWith_1 : decode b_N_comparedWith 1 = .ok (.invokevirtual 52, 3) := by decide +kernel
theorem d_N_comparedWith_4 : decode b_N_comparedWith 4 = .ok (.ifCond .eq 22, 3) := by decide +kernel
theorem d_N_comparedWith_7 : decode b_N_comparedWith 7 = .ok (.aload_n 1, 1) := by decide +kernel
theorem d_N_comparedWith_8 : decode b_N_comparedWith 8 = .ok (.invokevirtual 52, 3) := by decide +kernel
theorem d_N_comparedWith_11 : decode b_N_comparedWith 11 = .ok (.ifCond .eq 15, 3) := by decide +kernel
theorem d_N_comparedWith_14 : decode b_N_comparedWith 14 = .ok (.aload_n 0, 1) := by decide +kernel
theorem d_N_comparedWith_15 : decode b_N_comparedWith 15 = .ok (.getfield 23, 3) := by decide +kernel
theorem d_N_comparedWith_18 : decode b_N_comparedWith 18 = .ok (.aload_n 1, 1) := by decide +kernel
theorem d_N_comparedWith_19 : decode b_N_comparedWith 19 = .ok (.getfield 23, 3) := by decide +kernel
theorem d_N_comparedWith_22 : decode b_N_comparedWith 22 = .ok (.invokevirtual 107, 3) := by decide +kernel
theorem d_N_comparedWith_25 : decode b_N_comparedWith 25 = .ok (.ireturn, 1) := by decide +kernel
theorem d_N_comparedWith_26 : decode b_N_comparedWith 26 = .ok (.aload_n 0, 1) := by decide +kernel
theorem d_N_comparedWith_27 : decode b_N_comparedWith 27 = .ok (.getfield 15, 3) := by decide +kernel
theorem d_N_comparedWith_30 : decode b_N_comparedWith 30 = .ok (.getfield 111, 3) := by decide +kernel
theorem d_N_comparedWith_33 : decode b_N_comparedWith 33 = .ok (.aload_n 1, 1) := by decide +kernel
theorem d_N_comparedWith_34 : decode b_N_comparedWith 34 = .ok (.getfield 15, 3) := by decide +kernel
theorem d_N_comparedWith_37 : decode b_N_comparedWith 37 = .ok (.getfield 111, 3) := by decide +kernel
theorem d_N_comparedWith_40 : decode b_N_comparedWith 40 = .ok (.isub, 1) := by decide +kernel
theorem d_N_comparedWith_41 : decode b_N_comparedWith 41 = .ok (.invokestatic 114, 3) := by decide +kernel
theorem d_N_comparedWith_44 : decode b_N_comparedWith 44 = .ok (.ireturn, 1) := by decide +kernel
theorem d_N_textLength_0 : decode b_N_textLength 0 = .ok (.aload_n 0, 1) := by decide +kernel
theorem d_N_textLength_1 : decode b_N_textLength 1 = .ok (.invokevirtual 52, 3) := by decide +kernel
theorem d_N_textLength_4 : decode b_N_textLength 4 = .ok (.ifCond .ne 14, 3) := by decide +kernel
theorem d_N_textLength_7 : decode b_N_textLength 7 = .ok (.aload_n 0, 1) := by decide +kernel
theorem d_N_textLength_8 : decode b_N_textLength 8 = .ok (.getfield 15, 3) := by decide +kernel
theorem d_N_textLength_11 : decode b_N_textLength 11 = .ok (.getfield 120, 3) := by decide +kernel
theorem d_N_textLength_14 : decode b_N_textLength 14 = .ok (.invokevirtual 124, 3) := by decide +kernel
theorem d_N_textLength_17 : decode b_N_textLength 17 = .ok (.ireturn, 1) := by decide +kernel
theorem d_N_textLength_18 : decode b_N_textLength 18 = .ok (.aload_n 0, 1) := by decide +kernel
theorem d_N_textLength_19 : decode b_N_textLength 19 = .ok (.getfield 23, 3) := by decide +kernel
theorem d_N_textLength_22 : decode b_N_textLength 22 = .ok (.getfield 80, 3) := by decide +kernel
theorem d_N_textLength_25 : decode b_N_textLength 25 = .ok (.ifCond .eq 7, 3) := by decide +kernel
theorem d_N_textLength_28 : decode b_N_textLength 28 = .ok (.iconst 1, 1) := by decide +kernel
theorem d_N_textLength_29 : decode b_N_textLength 29 = .ok (.goto 4, 3) := by decide +kernel
theorem d_N_textLength_32 : decode b_N_textLength 32 = .ok (.iconst 0, 1) := by decide +kernel
theorem d_N_textLength_33 : decode b_N_textLength 33 = .ok (.istore_n 1, 1) := by decide +kernel
theorem d_N_textLength_34 : decode b_N_textLength 34 = .ok (.iload_n 1, 1) := by decide +kernel
theorem d_N_textLength_35 : decode b_N_textLength 35 = .ok (.aload_n 0, 1) := by decide +kernel
theorem d_N_textLength_36 : decode b_N_textLength 36 = .ok (.invokevirtual 129, 3) := by decide +kernel
theorem d_N_textLength_39 : decode b_N_textLength 39 = .ok (.iadd, 1) := by decide +kernel
theorem d_N_textLength_40 : decode b_N_textLength 40 = .ok (.aload_n 0, 1) := by decide +kernel
theorem d_N_textLength_41 : decode b_N_textLength 41 = .ok (.getfield 27, 3) := by decide +kernel
theorem d_N_textLength_44 : decode b_N_textLength 44 = .ok (.ifCond .le 12, 3) := by decide +kernel
theorem d_N_textLength_47 : decode b_N_textLength 47 = .ok (.iconst 1, 1) := by decide +kernel
theorem d_N_textLength_48 : decode b_N_textLength 48 = .ok (.aload_n 0, 1) := by decide +kernel
theorem d_N_textLength_49 : decode b_N_textLength 49 = .ok (.getfield 27, 3) := by decide +kernel
theorem d_N_textLength_52 : decode b_N_textLength 52 = .ok (.iadd, 1) := by decide +kernel
theorem d_N_textLength_53 : decode b_N_textLength 53 = .ok (.goto 4, 3) := by decide +kernel
theorem d_N_textLength_56 : decode b_N_textLength 56 = .ok (.iconst 0, 1) := by decide +kernel
theorem d_N_textLength_57 : decode b_N_textLength 57 = .ok (.iadd, 1) := by decide +kernel
theorem d_N_textLength_58 : decode b_N_textLength 58 = .ok (.ireturn, 1) := by decide +kernel
theorem d_N_textCharacter_0 : decode b_N_textCharacter 0 = .ok (.aload_n 0, 1) := by decide +kernel
theorem d_N_textCharacter_1 : decode b_N_textCharacter 1 = .ok (.invokevirtual 52, 3) := by decide +kernel
theorem d_N_textCharacter_4 : decode b_N_textCharacter 4 = .ok (.ifCond .ne 15, 3) := by decide +kernel
theorem d_N_textCharacter_7 : decode b_N_textCharacter 7 = .ok (.aload_n 0, 1) := by decide +kernel
theorem d_N_textCharacter_8 : decode b_N_textCharacter 8 = .ok (.getfield 15, 3) := by decide +kernel
theorem d_N_textCharacter_11 : decode b_N_textCharacter 11 = .ok (.getfield 120, 3) := by decide +kernel
theorem d_N_textCharacter_14 : decode b_N_textCharacter 14 = .ok (.iload_n 1, 1) := by decide +kernel
theorem d_N_textCharacter_15 : decode b_N_textCharacter 15 = .ok (.invokevirtual 132, 3) := by decide +kernel
theorem d_N_textCharacter_18 : decode b_N_textCharacter 18 = .ok (.ireturn, 1) := by decide +kernel
theorem d_N_textCharacter_19 : decode b_N_textCharacter 19 = .ok (.aload_n 0, 1) := by decide +kernel
theorem d_N_textCharacter_20 : decode b_N_textCharacter 20 = .ok (.getfield 23, 3) := by decide +kernel
theorem d_N_textCharacter_23 : decode b_N_textCharacter 23 = .ok (.getfield 80, 3) := by decide +kernel
theorem d_N_textCharacter_26 : decode b_N_textCharacter 26 = .ok (.ifCond .eq 10, 3) := by decide +kernel
theorem d_N_textCharacter_29 : decode b_N_textCharacter 29 = .ok (.iload_n 1, 1) := by decide +kernel
theorem d_N_textCharacter_30 : decode b_N_textCharacter 30 = .ok (.ifCond .ne 6, 3) := by decide +kernel
theorem d_N_textCharacter_33 : decode b_N_textCharacter 33 = .ok (.bipush 45, 2) := by decide +kernel
theorem d_N_textCharacter_35 : decode b_N_textCharacter 35 = .ok (.ireturn, 1) := by decide +kernel
theorem d_N_textCharacter_36 : decode b_N_textCharacter 36 = .ok (.aload_n 0, 1) := by decide +kernel
theorem d_N_textCharacter_37 : decode b_N_textCharacter 37 = .ok (.invokevirtual 129, 3) := by decide +kernel
theorem d_N_textCharacter_40 : decode b_N_textCharacter 40 = .ok (.aload_n 0, 1) := by decide +kernel
theorem d_N_textCharacter_41 : decode b_N_textCharacter 41 = .ok (.getfield 23, 3) := by decide +kernel
theorem d_N_textCharacter_44 : decode b_N_textCharacter 44 = .ok (.getfield 80, 3) := by decide +kernel
theorem d_N_textCharacter_47 : decode b_N_textCharacter 47 = .ok (.ifCond .eq 9, 3) := by decide +kernel
theorem d_N_textCharacter_50 : decode b_N_textCharacter 50 = .ok (.iload_n 1, 1) := by decide +kernel
theorem d_N_textCharacter_51 : decode b_N_textCharacter 51 = .ok (.iconst 1, 1) := by decide +kernel
theorem d_N_textCharacter_52 : decode b_N_textCharacter 52 = .ok (.isub, 1) := by decide +kernel
theorem d_N_textCharacter_53 : decode b_N_textCharacter 53 = .ok (.goto 4, 3) := by decide +kernel
theorem d_N_textCharacter_56 : decode b_N_textCharacter 56 = .ok (.iload_n 1, 1) := by decide +kernel
theorem d_N_textCharacter_57 : decode b_N_textCharacter 57 = .ok (.isub, 1) := by decide +kernel
theorem d_N_textCharacter_58 : decode b_N_textCharacter 58 = .ok (.istore_n 2, 1) := by decide +kernel
theorem d_N_textCharacter_59 : decode b_N_textCharacter 59 = .ok (.iload_n 2, 1) := by decide +kernel
theorem d_N_textCharacter_60 : decode b_N_textCharacter 60 = .ok (.ifCond .ne 6, 3) := by decide +kernel
theorem d_N_textCharacter_63 : decode b_N_textCharacter 63 = .ok (.bipush 46, 2) := by decide +kernel
theorem d_N_textCharacter_65 : decode b_N_textCharacter 65 = .ok (.ireturn, 1) := by decide +kernel
theorem d_N_textCharacter_66 : decode b_N_textCharacter 66 = .ok (.iload_n 2, 1) := by decide +kernel
theorem d_N_textCharacter_67 : decode b_N_textCharacter 67 = .ok (.ifCond .le 9, 3) := by decide +kernel
theorem d_N_textCharacter_70 : decode b_N_textCharacter 70 = .ok (.iload_n 2, 1) := by decide +kernel
theorem d_N_textCharacter_71 : decode b_N_textCharacter 71 = .ok (.iconst 1, 1) := by decide +kernel
theorem d_N_textCharacter_72 : decode b_N_textCharacter 72 = .ok (.isub, 1) := by decide +kernel
theorem d_N_textCharacter_73 : decode b_N_textCharacter 73 = .ok (.goto 4, 3) := by decide +kernel
theorem d_N_textCharacter_76 : decode b_N_textCharacter 76 = .ok (.iload_n 2, 1) := by decide +kernel
theorem d_N_textCharacter_77 : decode b_N_textCharacter 77 = .ok (.istore_n 3, 1) := by decide +kernel
theorem d_N_textCharacter_78 : decode b_N_textCharacter 78 = .ok (.bipush 48, 2) := by decide +kernel
theorem d_N_textCharacter_80 : decode b_N_textCharacter 80 = .ok (.aload_n 0, 1) := by decide +kernel
theorem d_N_textCharacter_81 : decode b_N_textCharacter 81 = .ok (.getfield 23, 3) := by decide +kernel
theorem d_N_textCharacter_84 : decode b_N_textCharacter 84 = .ok (.getfield 48, 3) := by decide +kernel
theorem d_N_textCharacter_87 : decode b_N_textCharacter 87 = .ok (.bipush 24, 2) := by decide +kernel
theorem d_N_textCharacter_89 : decode b_N_textCharacter 89 = .ok (.iload_n 3, 1) := by decide +kernel
theorem d_N_textCharacter_90 : decode b_N_textCharacter 90 = .ok (.iadd, 1) := by decide +kernel
theorem d_N_textCharacter_91 : decode b_N_textCharacter 91 = .ok (.invokestatic 103, 3) := by decide +kernel
theorem d_N_textCharacter_94 : decode b_N_textCharacter 94 = .ok (.iadd, 1) := by decide +kernel
theorem d_N_textCharacter_95 : decode b_N_textCharacter 95 = .ok (.ireturn, 1) := by decide +kernel
theorem d_N_wholeDigits_0 : decode b_N_wholeDigits 0 = .ok (.aload_n 0, 1) := by decide +kernel
theorem d_N_wholeDigits_1 : decode b_N_wholeDigits 1 = .ok (.getfield 23, 3) := by decide +kernel
theorem d_N_wholeDigits_4 : decode b_N_wholeDigits 4 = .ok (.getfield 48, 3) := by decide +kernel
theorem d_N_wholeDigits_7 : decode b_N_wholeDigits 7 = .ok (.invokestatic 136, 3) := by decide +kernel
theorem d_N_wholeDigits_10 : decode b_N_wholeDigits 10 = .ok (.bipush 24, 2) := by decide +kernel
theorem d_N_wholeDigits_12 : decode b_N_wholeDigits 12 = .ok (.isub, 1) := by decide +kernel
theorem d_N_wholeDigits_13 : decode b_N_wholeDigits 13 = .ok (.iconst 1, 1) := by decide +kernel
theorem d_N_wholeDigits_14 : decode b_N_wholeDigits 14 = .ok (.invokestatic 88, 3) := by decide +kernel
theorem d_N_wholeDigits_17 : decode b_N_wholeDigits 17 = .ok (.ireturn, 1) := by decide +kernel

theorem d_D_init_0 : decode b_D_init 0 = .ok (.aload_n 0, 1) := by decide +kernel
theorem d_D_init_1 : decode b_D_init 1 = .ok (.invokespecial 3, 3) := by decide +kernel
theorem d_D_init_4 : decode b_D_init 4 = .ok (.aload_n 0, 1) := by decide +kernel
theorem d_D_init_5 : decode b_D_init 5 = .ok (.bipush 8, 2) := by decide +kernel
theorem d_D_init_7 : decode b_D_init 7 = .ok (.anewarray 9, 3) := by decide +kernel
theorem d_D_init_10 : decode b_D_init 10 = .ok (.putfield 11, 3) := by decide +kernel
theorem d_D_init_13 : decode b_D_init 13 = .ok (.iconst 0, 1) := by decide +kernel
theorem d_D_init_14 : decode b_D_init 14 = .ok (.istore_n 1, 1) := by decide +kernel
theorem d_D_init_15 : decode b_D_init 15 = .ok (.iload_n 1, 1) := by decide +kernel
theorem d_D_init_16 : decode b_D_init 16 = .ok (.bipush 8, 2) := by decide +kernel
theorem d_D_init_18 : decode b_D_init 18 = .ok (.if_icmp .ge 22, 3) := by decide +kernel
theorem d_D_init_21 : decode b_D_init 21 = .ok (.aload_n 0, 1) := by decide +kernel
theorem d_D_init_22 : decode b_D_init 22 = .ok (.getfield 11, 3) := by decide +kernel
theorem d_D_init_25 : decode b_D_init 25 = .ok (.iload_n 1, 1) := by decide +kernel
theorem d_D_init_26 : decode b_D_init 26 = .ok (.new 9, 3) := by decide +kernel
theorem d_D_init_29 : decode b_D_init 29 = .ok (.dup, 1) := by decide +kernel
theorem d_D_init_30 : decode b_D_init 30 = .ok (.invokespecial 15, 3) := by decide +kernel
theorem d_D_init_33 : decode b_D_init 33 = .ok (.aastore, 1) := by decide +kernel
theorem d_D_init_34 : decode b_D_init 34 = .ok (.iinc 1 1, 3) := by decide +kernel
theorem d_D_init_37 : decode b_D_init 37 = .ok (.goto (-22), 3) := by decide +kernel
theorem d_D_init_40 : decode b_D_init 40 = .ok (.aload_n 0, 1) := by decide +kernel
theorem d_D_init_41 : decode b_D_init 41 = .ok (.iconst 4, 1) := by decide +kernel
theorem d_D_init_42 : decode b_D_init 42 = .ok (.anewarray 16, 3) := by decide +kernel
theorem d_D_init_45 : decode b_D_init 45 = .ok (.putfield 18, 3) := by decide +kernel
theorem d_D_init_48 : decode b_D_init 48 = .ok (.iconst 0, 1) := by decide +kernel
theorem d_D_init_49 : decode b_D_init 49 = .ok (.istore_n 1, 1) := by decide +kernel
theorem d_D_init_50 : decode b_D_init 50 = .ok (.iload_n 1, 1) := by decide +kernel
theorem d_D_init_51 : decode b_D_init 51 = .ok (.iconst 4, 1) := by decide +kernel
theorem d_D_init_52 : decode b_D_init 52 = .ok (.if_icmp .ge 22, 3) := by decide +kernel
theorem d_D_init_55 : decode b_D_init 55 = .ok (.aload_n 0, 1) := by decide +kernel
theorem d_D_init_56 : decode b_D_init 56 = .ok (.getfield 18, 3) := by decide +kernel
theorem d_D_init_59 : decode b_D_init 59 = .ok (.iload_n 1, 1) := by decide +kernel
theorem d_D_init_60 : decode b_D_init 60 = .ok (.new 16, 3) := by decide +kernel
theorem d_D_init_63 : decode b_D_init 63 = .ok (.dup, 1) := by decide +kernel
theorem d_D_init_64 : decode b_D_init 64 = .ok (.invokespecial 22, 3) := by decide +kernel
theorem d_D_init_67 : decode b_D_init 67 = .ok (.aastore, 1) := by decide +kernel
theorem d_D_init_68 : decode b_D_init 68 = .ok (.iinc 1 1, 3) := by decide +kernel
theorem d_D_init_71 : decode b_D_init 71 = .ok (.goto (-21), 3) := by decide +kernel
theorem d_D_init_74 : decode b_D_init 74 = .ok (.aload_n 0, 1) := by decide +kernel
theorem d_D_init_75 : decode b_D_init 75 = .ok (.new 23, 3) := by decide +kernel
theorem d_D_init_78 : decode b_D_init 78 = .ok (.dup, 1) := by decide +kernel
theorem d_D_init_79 : decode b_D_init 79 = .ok (.invokespecial 25, 3) := by decide +kernel
theorem d_D_init_82 : decode b_D_init 82 = .ok (.putfield 26, 3) := by decide +kernel
theorem d_D_init_85 : decode b_D_init 85 = .ok (.aload_n 0, 1) := by decide +kernel
theorem d_D_init_86 : decode b_D_init 86 = .ok (.new 30, 3) := by decide +kernel
theorem d_D_init_89 : decode b_D_init 89 = .ok (.dup, 1) := by decide +kernel
theorem d_D_init_90 : decode b_D_init 90 = .ok (.invokespecial 32, 3) := by decide +kernel
theorem d_D_init_93 : decode b_D_init 93 = .ok (.putfield 33, 3) := by decide +kernel
theorem d_D_init_96 : decode b_D_init 96 = .ok (.aload_n 0, 1) := by decide +kernel
theorem d_D_init_97 : decode b_D_init 97 = .ok (.new 9, 3) := by decide +kernel
theorem d_D_init_100 : decode b_D_init 100 = .ok (.dup, 1) := by decide +kernel
theorem d_D_init_101 : decode b_D_init 101 = .ok (.invokespecial 15, 3) := by decide +kernel
theorem d_D_init_104 : decode b_D_init 104 = .ok (.putfield 37, 3) := by decide +kernel
theorem d_D_init_107 : decode b_D_init 107 = .ok (.aload_n 0, 1) := by decide +kernel
theorem d_D_init_108 : decode b_D_init 108 = .ok (.new 9, 3) := by decide +kernel
theorem d_D_init_111 : decode b_D_init 111 = .ok (.dup, 1) := by decide +kernel
theorem d_D_init_112 : decode b_D_init 112 = .ok (.invokespecial 15, 3) := by decide +kernel
theorem d_D_init_115 : decode b_D_init 115 = .ok (.putfield 41, 3) := by decide +kernel
theorem d_D_init_118 : decode b_D_init 118 = .ok (.aload_n 0, 1) := by decide +kernel
theorem d_D_init_119 : decode b_D_init 119 = .ok (.new 9, 3) := by decide +kernel
theorem d_D_init_122 : decode b_D_init 122 = .ok (.dup, 1) := by decide +kernel
theorem d_D_init_123 : decode b_D_init 123 = .ok (.invokespecial 15, 3) := by decide +kernel
theorem d_D_init_126 : decode b_D_init 126 = .ok (.putfield 44, 3) := by decide +kernel
theorem d_D_init_129 : decode b_D_init 129 = .ok (.return_, 1) := by decide +kernel
theorem d_D_type_0 : decode b_D_type 0 = .ok (.aload_n 0, 1) := by decide +kernel
theorem d_D_type_1 : decode b_D_type 1 = .ok (.getfield 26, 3) := by decide +kernel
theorem d_D_type_4 : decode b_D_type 4 = .ok (.iload_n 1, 1) := by decide +kernel
theorem d_D_type_5 : decode b_D_type 5 = .ok (.invokevirtual 47, 3) := by decide +kernel
theorem d_D_type_8 : decode b_D_type 8 = .ok (.ireturn, 1) := by decide +kernel
theorem d_D_enter_0 : decode b_D_enter 0 = .ok (.iload_n 1, 1) := by decide +kernel
theorem d_D_enter_1 : decode b_D_enter 1 = .ok (.invokestatic 51, 3) := by decide +kernel
theorem d_D_enter_4 : decode b_D_enter 4 = .ok (.ifCond .ne 5, 3) := by decide +kernel
theorem d_D_enter_7 : decode b_D_enter 7 = .ok (.iconst (-1), 1) := by decide +kernel
theorem d_D_enter_8 : decode b_D_enter 8 = .ok (.ireturn, 1) := by decide +kernel
theorem d_D_enter_9 : decode b_D_enter 9 = .ok (.aload_n 0, 1) := by decide +kernel
theorem d_D_enter_10 : decode b_D_enter 10 = .ok (.getfield 26, 3) := by decide +kernel
theorem d_D_enter_13 : decode b_D_enter 13 = .ok (.aload_n 0, 1) := by decide +kernel
theorem d_D_enter_14 : decode b_D_enter 14 = .ok (.getfield 37, 3) := by decide +kernel
theorem d_D_enter_17 : decode b_D_enter 17 = .ok (.invokevirtual 55, 3) := by decide +kernel
theorem d_D_enter_20 : decode b_D_enter 20 = .ok (.istore_n 2, 1) := by decide +kernel
theorem d_D_enter_21 : decode b_D_enter 21 = .ok (.aload_n 0, 1) := by decide +kernel
theorem d_D_enter_22 : decode b_D_enter 22 = .ok (.getfield 26, 3) := by decide +kernel
theorem d_D_enter_25 : decode b_D_enter 25 = .ok (.invokevirtual 59, 3) := by decide +kernel
theorem d_D_enter_28 : decode b_D_enter 28 = .ok (.aload_n 0, 1) := by decide +kernel
theorem d_D_enter_29 : decode b_D_enter 29 = .ok (.iload_n 1, 1) := by decide +kernel
theorem d_D_enter_30 : decode b_D_enter 30 = .ok (.iload_n 2, 1) := by decide +kernel
theorem d_D_enter_31 : decode b_D_enter 31 = .ok (.invokevirtual 62, 3) := by decide +kernel
theorem d_D_enter_34 : decode b_D_enter 34 = .ok (.ireturn, 1) := by decide +kernel
theorem d_D_length_0 : decode b_D_length 0 = .ok (.iload_n 1, 1) := by decide +kernel
theorem d_D_length_1 : decode b_D_length 1 = .ok (.invokestatic 51, 3) := by decide +kernel
theorem d_D_length_4 : decode b_D_length 4 = .ok (.ifCond .eq 15, 3) := by decide +kernel
theorem d_D_length_7 : decode b_D_length 7 = .ok (.aload_n 0, 1) := by decide +kernel
theorem d_D_length_8 : decode b_D_length 8 = .ok (.getfield 11, 3) := by decide +kernel
theorem d_D_length_11 : decode b_D_length 11 = .ok (.iload_n 1, 1) := by decide +kernel
theorem d_D_length_12 : decode b_D_length 12 = .ok (.aaload, 1) := by decide +kernel
theorem d_D_length_13 : decode b_D_length 13 = .ok (.invokevirtual 66, 3) := by decide +kernel
theorem d_D_length_16 : decode b_D_length 16 = .ok (.goto 4, 3) := by decide +kernel
theorem d_D_length_19 : decode b_D_length 19 = .ok (.iconst (-1), 1) := by decide +kernel
theorem d_D_length_20 : decode b_D_length 20 = .ok (.ireturn, 1) := by decide +kernel
theorem d_D_character_0 : decode b_D_character 0 = .ok (.iload_n 1, 1) := by decide +kernel
theorem d_D_character_1 : decode b_D_character 1 = .ok (.invokestatic 51, 3) := by decide +kernel
theorem d_D_character_4 : decode b_D_character 4 = .ok (.ifCond .eq 20, 3) := by decide +kernel
theorem d_D_character_7 : decode b_D_character 7 = .ok (.iload_n 2, 1) := by decide +kernel
theorem d_D_character_8 : decode b_D_character 8 = .ok (.ifCond .lt 16, 3) := by decide +kernel
theorem d_D_character_11 : decode b_D_character 11 = .ok (.iload_n 2, 1) := by decide +kernel
theorem d_D_character_12 : decode b_D_character 12 = .ok (.aload_n 0, 1) := by decide +kernel
theorem d_D_character_13 : decode b_D_character 13 = .ok (.getfield 11, 3) := by decide +kernel
theorem d_D_character_16 : decode b_D_character 16 = .ok (.iload_n 1, 1) := by decide +kernel
theorem d_D_character_17 : decode b_D_character 17 = .ok (.aaload, 1) := by decide +kernel
theorem d_D_character_18 : decode b_D_character 18 = .ok (.invokevirtual 66, 3) := by decide +kernel
theorem d_D_character_21 : decode b_D_character 21 = .ok (.if_icmp .lt 5, 3) := by decide +kernel
theorem d_D_character_24 : decode b_D_character 24 = .ok (.iconst (-1), 1) := by decide +kernel
theorem d_D_character_25 : decode b_D_character 25 = .ok (.ireturn, 1) := by decide +kernel
theorem d_D_character_26 : decode b_D_character 26 = .ok (.aload_n 0, 1) := by decide +kernel
theorem d_D_character_27 : decode b_D_character 27 = .ok (.getfield 11, 3) := by decide +kernel
theorem d_D_character_30 : decode b_D_character 30 = .ok (.iload_n 1, 1) := by decide +kernel
theorem d_D_character_31 : decode b_D_character 31 = .ok (.aaload, 1) := by decide +kernel
theorem d_D_character_32 : decode b_D_character 32 = .ok (.iload_n 2, 1) := by decide +kernel
theorem d_D_character_33 : decode b_D_character 33 = .ok (.invokevirtual 70, 3) := by decide +kernel
theorem d_D_character_36 : decode b_D_character 36 = .ok (.ireturn, 1) := by decide +kernel
theorem d_D_scale_0 : decode b_D_scale 0 = .ok (.iload_n 1, 1) := by decide +kernel
theorem d_D_scale_1 : decode b_D_scale 1 = .ok (.invokestatic 51, 3) := by decide +kernel
theorem d_D_scale_4 : decode b_D_scale 4 = .ok (.ifCond .eq 15, 3) := by decide +kernel
theorem d_D_scale_7 : decode b_D_scale 7 = .ok (.aload_n 0, 1) := by decide +kernel
theorem d_D_scale_8 : decode b_D_scale 8 = .ok (.getfield 11, 3) := by decide +kernel
theorem d_D_scale_11 : decode b_D_scale 11 = .ok (.iload_n 1, 1) := by decide +kernel
theorem d_D_scale_12 : decode b_D_scale 12 = .ok (.aaload, 1) := by decide +kernel
theorem d_D_scale_13 : decode b_D_scale 13 = .ok (.invokevirtual 74, 3) := by decide +kernel
theorem d_D_scale_16 : decode b_D_scale 16 = .ok (.ifCond .ne 5, 3) := by decide +kernel
theorem d_D_scale_19 : decode b_D_scale 19 = .ok (.iconst (-1), 1) := by decide +kernel
theorem d_D_scale_20 : decode b_D_scale 20 = .ok (.ireturn, 1) := by decide +kernel
theorem d_D_scale_21 : decode b_D_scale 21 = .ok (.aload_n 0, 1) := by decide +kernel
theorem d_D_scale_22 : decode b_D_scale 22 = .ok (.getfield 11, 3) := by decide +kernel
theorem d_D_scale_25 : decode b_D_scale 25 = .ok (.iload_n 1, 1) := by decide +kernel
theorem d_D_scale_26 : decode b_D_scale 26 = .ok (.aaload, 1) := by decide +kernel
theorem d_D_scale_27 : decode b_D_scale 27 = .ok (.getfield 78, 3) := by decide +kernel
theorem d_D_scale_30 : decode b_D_scale 30 = .ok (.ireturn, 1) := by decide +kernel
theorem d_D_apply_0 : decode b_D_apply 0 = .ok (.iload_n 1, 1) := by decide +kernel
theorem d_D_apply_1 : decode b_D_apply 1 = .ok (.ifCond .lt 30, 3) := by decide +kernel
theorem d_D_apply_4 : decode b_D_apply 4 = .ok (.iload_n 1, 1) := by decide +kernel
theorem d_D_apply_5 : decode b_D_apply 5 = .ok (.iconst 5, 1) := by decide +kernel
theorem d_D_apply_6 : decode b_D_apply 6 = .ok (.if_icmp .gt 25, 3) := by decide +kernel
theorem d_D_apply_9 : decode b_D_apply 9 = .ok (.iload_n 2, 1) := by decide +kernel
theorem d_D_apply_10 : decode b_D_apply 10 = .ok (.invokestatic 51, 3) := by decide +kernel
theorem d_D_apply_13 : decode b_D_apply 13 = .ok (.ifCond .eq 18, 3) := by decide +kernel
theorem d_D_apply_16 : decode b_D_apply 16 = .ok (.iload_n 3, 1) := by decide +kernel
theorem d_D_apply_17 : decode b_D_apply 17 = .ok (.invokestatic 51, 3) := by decide +kernel
theorem d_D_apply_20 : decode b_D_apply 20 = .ok (.ifCond .eq 11, 3) := by decide +kernel
theorem d_D_apply_23 : decode b_D_apply 23 = .ok (.iload 4, 2) := by decide +kernel
theorem d_D_apply_25 : decode b_D_apply 25 = .ok (.invokestatic 51, 3) := by decide +kernel
theorem d_D_apply_28 : decode b_D_apply 28 = .ok (.ifCond .ne 5, 3) := by decide +kernel
theorem d_D_apply_31 : decode b_D_apply 31 = .ok (.iconst (-1), 1) := by decide +kernel
theorem d_D_apply_32 : decode b_D_apply 32 = .ok (.ireturn, 1) := by decide +kernel
theorem d_D_apply_33 : decode b_D_apply 33 = .ok (.aload_n 0, 1) := by decide +kernel
theorem d_D_apply_34 : decode b_D_apply 34 = .ok (.iload_n 2, 1) := by decide +kernel
theorem d_D_apply_35 : decode b_D_apply 35 = .ok (.aload_n 0, 1) := by decide +kernel
theorem d_D_apply_36 : decode b_D_apply 36 = .ok (.getfield 33, 3) := by decide +kernel
theorem d_D_apply_39 : decode b_D_apply 39 = .ok (.iload_n 1, 1) := by decide +kernel
theorem d_D_apply_40 : decode b_D_apply 40 = .ok (.aload_n 0, 1) := by decide +kernel
theorem d_D_apply_41 : decode b_D_apply 41 = .ok (.getfield 11, 3) := by decide +kernel
theorem d_D_apply_44 : decode b_D_apply 44 = .ok (.iload_n 3, 1) := by decide +kernel
theorem d_D_apply_45 : decode b_D_apply 45 = .ok (.aaload, 1) := by decide +kernel
theorem d_D_apply_46 : decode b_D_apply 46 = .ok (.aload_n 0, 1) := by decide +kernel
theorem d_D_apply_47 : decode b_D_apply 47 = .ok (.getfield 11, 3) := by decide +kernel
theorem d_D_apply_50 : decode b_D_apply 50 = .ok (.iload 4, 2) := by decide +kernel
theorem d_D_apply_52 : decode b_D_apply 52 = .ok (.aaload, 1) := by decide +kernel
theorem d_D_apply_53 : decode b_D_apply 53 = .ok (.aload_n 0, 1) := by decide +kernel
theorem d_D_apply_54 : decode b_D_apply 54 = .ok (.getfield 37, 3) := by decide +kernel
theorem d_D_apply_57 : decode b_D_apply 57 = .ok (.invokevirtual 82, 3) := by decide +kernel
theorem d_D_apply_60 : decode b_D_apply 60 = .ok (.invokevirtual 62, 3) := by decide +kernel
theorem d_D_apply_63 : decode b_D_apply 63 = .ok (.ireturn, 1) := by decide +kernel
theorem d_D_adjust_0 : decode b_D_adjust 0 = .ok (.iload_n 1, 1) := by decide +kernel
theorem d_D_adjust_1 : decode b_D_adjust 1 = .ok (.ifCond .lt 23, 3) := by decide +kernel
theorem d_D_adjust_4 : decode b_D_adjust 4 = .ok (.iload_n 1, 1) := by decide +kernel
theorem d_D_adjust_5 : decode b_D_adjust 5 = .ok (.bipush 6, 2) := by decide +kernel
theorem d_D_adjust_7 : decode b_D_adjust 7 = .ok (.if_icmp .gt 17, 3) := by decide +kernel
theorem d_D_adjust_10 : decode b_D_adjust 10 = .ok (.iload_n 2, 1) := by decide +kernel
theorem d_D_adjust_11 : decode b_D_adjust 11 = .ok (.invokestatic 51, 3) := by decide +kernel
theorem d_D_adjust_14 : decode b_D_adjust 14 = .ok (.ifCond .eq 10, 3) := by decide +kernel
theorem d_D_adjust_17 : decode b_D_adjust 17 = .ok (.iload_n 3, 1) := by decide +kernel
theorem d_D_adjust_18 : decode b_D_adjust 18 = .ok (.invokestatic 51, 3) := by decide +kernel
theorem d_D_adjust_21 : decode b_D_adjust 21 = .ok (.ifCond .ne 5, 3) := by decide +kernel
theorem d_D_adjust_24 : decode b_D_adjust 24 = .ok (.iconst (-1), 1) := by decide +kernel
theorem d_D_adjust_25 : decode b_D_adjust 25 = .ok (.ireturn, 1) := by decide +kernel
theorem d_D_adjust_26 : decode b_D_adjust 26 = .ok (.aload_n 0, 1) := by decide +kernel
theorem d_D_adjust_27 : decode b_D_adjust 27 = .ok (.iload_n 2, 1) := by decide +kernel
theorem d_D_adjust_28 : decode b_D_adjust 28 = .ok (.aload_n 0, 1) := by decide +kernel
theorem d_D_adjust_29 : decode b_D_adjust 29 = .ok (.getfield 33, 3) := by decide +kernel
theorem d_D_adjust_32 : decode b_D_adjust 32 = .ok (.iload_n 1, 1) := by decide +kernel
theorem d_D_adjust_33 : decode b_D_adjust 33 = .ok (.aload_n 0, 1) := by decide +kernel
theorem d_D_adjust_34 : decode b_D_adjust 34 = .ok (.getfield 11, 3) := by decide +kernel
theorem d_D_adjust_37 : decode b_D_adjust 37 = .ok (.iload_n 3, 1) := by decide +kernel
theorem d_D_adjust_38 : decode b_D_adjust 38 = .ok (.aaload, 1) := by decide +kernel
theorem d_D_adjust_39 : decode b_D_adjust 39 = .ok (.iload 4, 2) := by decide +kernel
theorem d_D_adjust_41 : decode b_D_adjust 41 = .ok (.aload_n 0, 1) := by decide +kernel
theorem d_D_adjust_42 : decode b_D_adjust 42 = .ok (.getfield 37, 3) := by decide +kernel
theorem d_D_adjust_45 : decode b_D_adjust 45 = .ok (.invokevirtual 86, 3) := by decide +kernel
theorem d_D_adjust_48 : decode b_D_adjust 48 = .ok (.invokevirtual 62, 3) := by decide +kernel
theorem d_D_adjust_51 : decode b_D_adjust 51 = .ok (.ireturn, 1) := by decide +kernel
theorem d_D_fit_0 : decode b_D_fit 0 = .ok (.iload_n 1, 1) := by decide +kernel
theorem d_D_fit_1 : decode b_D_fit 1 = .ok (.invokestatic 51, 3) := by decide +kernel
theorem d_D_fit_4 : decode b_D_fit 4 = .ok (.ifCond .eq 26, 3) := by decide +kernel
theorem d_D_fit_7 : decode b_D_fit 7 = .ok (.iload_n 2, 1) := by decide +kernel
theorem d_D_fit_8 : decode b_D_fit 8 = .ok (.iconst 1, 1) := by decide +kernel
theorem d_D_fit_9 : decode b_D_fit 9 = .ok (.if_icmp .lt 21, 3) := by decide +kernel
theorem d_D_fit_12 : decode b_D_fit 12 = .ok (.iload_n 2, 1) := by decide +kernel
theorem d_D_fit_13 : decode b_D_fit 13 = .ok (.bipush 56, 2) := by decide +kernel
theorem d_D_fit_15 : decode b_D_fit 15 = .ok (.if_icmp .gt 15, 3) := by decide +kernel
theorem d_D_fit_18 : decode b_D_fit 18 = .ok (.iload_n 3, 1) := by decide +kernel
theorem d_D_fit_19 : decode b_D_fit 19 = .ok (.bipush (-32), 2) := by decide +kernel
theorem d_D_fit_21 : decode b_D_fit 21 = .ok (.if_icmp .lt 9, 3) := by decide +kernel
theorem d_D_fit_24 : decode b_D_fit 24 = .ok (.iload_n 3, 1) := by decide +kernel
theorem d_D_fit_25 : decode b_D_fit 25 = .ok (.bipush 24, 2) := by decide +kernel
theorem d_D_fit_27 : decode b_D_fit 27 = .ok (.if_icmp .le 5, 3) := by decide +kernel
theorem d_D_fit_30 : decode b_D_fit 30 = .ok (.iconst (-1), 1) := by decide +kernel
theorem d_D_fit_31 : decode b_D_fit 31 = .ok (.ireturn, 1) := by decide +kernel
theorem d_D_fit_32 : decode b_D_fit 32 = .ok (.aload_n 0, 1) := by decide +kernel
theorem d_D_fit_33 : decode b_D_fit 33 = .ok (.getfield 11, 3) := by decide +kernel
theorem d_D_fit_36 : decode b_D_fit 36 = .ok (.iload_n 1, 1) := by decide +kernel
theorem d_D_fit_37 : decode b_D_fit 37 = .ok (.aaload, 1) := by decide +kernel
theorem d_D_fit_38 : decode b_D_fit 38 = .ok (.astore 4, 2) := by decide +kernel
theorem d_D_fit_40 : decode b_D_fit 40 = .ok (.aload 4, 2) := by decide +kernel
theorem d_D_fit_42 : decode b_D_fit 42 = .ok (.getfield 90, 3) := by decide +kernel
theorem d_D_fit_45 : decode b_D_fit 45 = .ok (.getstatic 94, 3) := by decide +kernel
theorem d_D_fit_48 : decode b_D_fit 48 = .ok (.if_acmp .ne 5, 3) := by decide +kernel
theorem d_D_fit_51 : decode b_D_fit 51 = .ok (.iconst 0, 1) := by decide +kernel
theorem d_D_fit_52 : decode b_D_fit 52 = .ok (.ireturn, 1) := by decide +kernel
theorem d_D_fit_53 : decode b_D_fit 53 = .ok (.aload 4, 2) := by decide +kernel
theorem d_D_fit_55 : decode b_D_fit 55 = .ok (.invokevirtual 74, 3) := by decide +kernel
theorem d_D_fit_58 : decode b_D_fit 58 = .ok (.ifCond .ne 6, 3) := by decide +kernel
theorem d_D_fit_61 : decode b_D_fit 61 = .ok (.bipush (-3), 2) := by decide +kernel
theorem d_D_fit_63 : decode b_D_fit 63 = .ok (.ireturn, 1) := by decide +kernel
theorem d_D_fit_64 : decode b_D_fit 64 = .ok (.aload_n 0, 1) := by decide +kernel
theorem d_D_fit_65 : decode b_D_fit 65 = .ok (.getfield 37, 3) := by decide +kernel
theorem d_D_fit_68 : decode b_D_fit 68 = .ok (.aload 4, 2) := by decide +kernel
theorem d_D_fit_70 : decode b_D_fit 70 = .ok (.invokevirtual 99, 3) := by decide +kernel
theorem d_D_fit_73 : decode b_D_fit 73 = .ok (.aload_n 0, 1) := by decide +kernel
theorem d_D_fit_74 : decode b_D_fit 74 = .ok (.getfield 37, 3) := by decide +kernel
theorem d_D_fit_77 : decode b_D_fit 77 = .ok (.iload_n 3, 1) := by decide +kernel
theorem d_D_fit_78 : decode b_D_fit 78 = .ok (.invokevirtual 103, 3) := by decide +kernel
theorem d_D_fit_81 : decode b_D_fit 81 = .ok (.aload_n 0, 1) := by decide +kernel
theorem d_D_fit_82 : decode b_D_fit 82 = .ok (.getfield 37, 3) := by decide +kernel
theorem d_D_fit_85 : decode b_D_fit 85 = .ok (.getfield 107, 3) := by decide +kernel
theorem d_D_fit_88 : decode b_D_fit 88 = .ok (.iload_n 2, 1) := by decide +kernel
theorem d_D_fit_89 : decode b_D_fit 89 = .ok (.iload_n 3, 1) := by decide +kernel
theorem d_D_fit_90 : decode b_D_fit 90 = .ok (.isub, 1) := by decide +kernel
theorem d_D_fit_91 : decode b_D_fit 91 = .ok (.invokevirtual 111, 3) := by decide +kernel
theorem d_D_fit_94 : decode b_D_fit 94 = .ok (.ifCond .ne 13, 3) := by decide +kernel
theorem d_D_fit_97 : decode b_D_fit 97 = .ok (.aload_n 0, 1) := by decide +kernel
theorem d_D_fit_98 : decode b_D_fit 98 = .ok (.getfield 37, 3) := by decide +kernel
theorem d_D_fit_101 : decode b_D_fit 101 = .ok (.invokevirtual 116, 3) := by decide +kernel
theorem d_D_fit_104 : decode b_D_fit 104 = .ok (.ifCond .eq 6, 3) := by decide +kernel
theorem d_D_fit_107 : decode b_D_fit 107 = .ok (.bipush (-3), 2) := by decide +kernel
theorem d_D_fit_109 : decode b_D_fit 109 = .ok (.ireturn, 1) := by decide +kernel
theorem d_D_fit_110 : decode b_D_fit 110 = .ok (.aload_n 0, 1) := by decide +kernel
theorem d_D_fit_111 : decode b_D_fit 111 = .ok (.iload_n 1, 1) := by decide +kernel
theorem d_D_fit_112 : decode b_D_fit 112 = .ok (.iconst 0, 1) := by decide +kernel
theorem d_D_fit_113 : decode b_D_fit 113 = .ok (.invokevirtual 62, 3) := by decide +kernel
theorem d_D_fit_116 : decode b_D_fit 116 = .ok (.ireturn, 1) := by decide +kernel
theorem d_D_compare_0 : decode b_D_compare 0 = .ok (.iload_n 1, 1) := by decide +kernel
theorem d_D_compare_1 : decode b_D_compare 1 = .ok (.invokestatic 51, 3) := by decide +kernel
theorem d_D_compare_4 : decode b_D_compare 4 = .ok (.ifCond .eq 10, 3) := by decide +kernel
theorem d_D_compare_7 : decode b_D_compare 7 = .ok (.iload_n 2, 1) := by decide +kernel
theorem d_D_compare_8 : decode b_D_compare 8 = .ok (.invokestatic 51, 3) := by decide +kernel
theorem d_D_compare_11 : decode b_D_compare 11 = .ok (.ifCond .ne 6, 3) := by decide +kernel
theorem d_D_compare_14 : decode b_D_compare 14 = .ok (.bipush (-2), 2) := by decide +kernel
theorem d_D_compare_16 : decode b_D_compare 16 = .ok (.ireturn, 1) := by decide +kernel
theorem d_D_compare_17 : decode b_D_compare 17 = .ok (.aload_n 0, 1) := by decide +kernel
theorem d_D_compare_18 : decode b_D_compare 18 = .ok (.getfield 11, 3) := by decide +kernel
theorem d_D_compare_21 : decode b_D_compare 21 = .ok (.iload_n 1, 1) := by decide +kernel
theorem d_D_compare_22 : decode b_D_compare 22 = .ok (.aaload, 1) := by decide +kernel
theorem d_D_compare_23 : decode b_D_compare 23 = .ok (.aload_n 0, 1) := by decide +kernel
theorem d_D_compare_24 : decode b_D_compare 24 = .ok (.getfield 11, 3) := by decide +kernel
theorem d_D_compare_27 : decode b_D_compare 27 = .ok (.iload_n 2, 1) := by decide +kernel
theorem d_D_compare_28 : decode b_D_compare 28 = .ok (.aaload, 1) := by decide +kernel
theorem d_D_compare_29 : decode b_D_compare 29 = .ok (.invokevirtual 119, 3) := by decide +kernel
theorem d_D_compare_32 : decode b_D_compare 32 = .ok (.ireturn, 1) := by decide +kernel
theorem d_D_accept_0 : decode b_D_accept 0 = .ok (.iload_n 1, 1) := by decide +kernel
theorem d_D_accept_1 : decode b_D_accept 1 = .ok (.invokestatic 122, 3) := by decide +kernel
theorem d_D_accept_4 : decode b_D_accept 4 = .ok (.ifCond .eq 10, 3) := by decide +kernel
theorem d_D_accept_7 : decode b_D_accept 7 = .ok (.iload_n 2, 1) := by decide +kernel
theorem d_D_accept_8 : decode b_D_accept 8 = .ok (.invokestatic 51, 3) := by decide +kernel
theorem d_D_accept_11 : decode b_D_accept 11 = .ok (.ifCond .ne 5, 3) := by decide +kernel
theorem d_D_accept_14 : decode b_D_accept 14 = .ok (.iconst (-1), 1) := by decide +kernel
theorem d_D_accept_15 : decode b_D_accept 15 = .ok (.ireturn, 1) := by decide +kernel
theorem d_D_accept_16 : decode b_D_accept 16 = .ok (.aload_n 0, 1) := by decide +kernel
theorem d_D_accept_17 : decode b_D_accept 17 = .ok (.getfield 18, 3) := by decide +kernel
theorem d_D_accept_20 : decode b_D_accept 20 = .ok (.iload_n 1, 1) := by decide +kernel
theorem d_D_accept_21 : decode b_D_accept 21 = .ok (.aaload, 1) := by decide +kernel
theorem d_D_accept_22 : decode b_D_accept 22 = .ok (.aload_n 0, 1) := by decide +kernel
theorem d_D_accept_23 : decode b_D_accept 23 = .ok (.getfield 11, 3) := by decide +kernel
theorem d_D_accept_26 : decode b_D_accept 26 = .ok (.iload_n 2, 1) := by decide +kernel
theorem d_D_accept_27 : decode b_D_accept 27 = .ok (.aaload, 1) := by decide +kernel
theorem d_D_accept_28 : decode b_D_accept 28 = .ok (.invokevirtual 125, 3) := by decide +kernel
theorem d_D_accept_31 : decode b_D_accept 31 = .ok (.ireturn, 1) := by decide +kernel
theorem d_D_discard_0 : decode b_D_discard 0 = .ok (.iload_n 1, 1) := by decide +kernel
theorem d_D_discard_1 : decode b_D_discard 1 = .ok (.invokestatic 122, 3) := by decide +kernel
theorem d_D_discard_4 : decode b_D_discard 4 = .ok (.ifCond .eq 10, 3) := by decide +kernel
theorem d_D_discard_7 : decode b_D_discard 7 = .ok (.iload_n 2, 1) := by decide +kernel
theorem d_D_discard_8 : decode b_D_discard 8 = .ok (.invokestatic 51, 3) := by decide +kernel
theorem d_D_discard_11 : decode b_D_discard 11 = .ok (.ifCond .ne 5, 3) := by decide +kernel
theorem d_D_discard_14 : decode b_D_discard 14 = .ok (.iconst (-1), 1) := by decide +kernel
theorem d_D_discard_15 : decode b_D_discard 15 = .ok (.ireturn, 1) := by decide +kernel
theorem d_D_discard_16 : decode b_D_discard 16 = .ok (.aload_n 0, 1) := by decide +kernel
theorem d_D_discard_17 : decode b_D_discard 17 = .ok (.getfield 18, 3) := by decide +kernel
theorem d_D_discard_20 : decode b_D_discard 20 = .ok (.iload_n 1, 1) := by decide +kernel
theorem d_D_discard_21 : decode b_D_discard 21 = .ok (.aaload, 1) := by decide +kernel
theorem d_D_discard_22 : decode b_D_discard 22 = .ok (.aload_n 0, 1) := by decide +kernel
theorem d_D_discard_23 : decode b_D_discard 23 = .ok (.getfield 11, 3) := by decide +kernel
theorem d_D_discard_26 : decode b_D_discard 26 = .ok (.iload_n 2, 1) := by decide +kernel
theorem d_D_discard_27 : decode b_D_discard 27 = .ok (.aaload, 1) := by decide +kernel
theorem d_D_discard_28 : decode b_D_discard 28 = .ok (.invokevirtual 128, 3) := by decide +kernel
theorem d_D_discard_31 : decode b_D_discard 31 = .ok (.ireturn, 1) := by decide +kernel
theorem d_D_merge_0 : decode b_D_merge 0 = .ok (.iload_n 1, 1) := by decide +kernel
theorem d_D_merge_1 : decode b_D_merge 1 = .ok (.invokestatic 122, 3) := by decide +kernel
theorem d_D_merge_4 : decode b_D_merge 4 = .ok (.ifCond .eq 10, 3) := by decide +kernel
theorem d_D_merge_7 : decode b_D_merge 7 = .ok (.iload_n 2, 1) := by decide +kernel
theorem d_D_merge_8 : decode b_D_merge 8 = .ok (.invokestatic 122, 3) := by decide +kernel
theorem d_D_merge_11 : decode b_D_merge 11 = .ok (.ifCond .ne 5, 3) := by decide +kernel
theorem d_D_merge_14 : decode b_D_merge 14 = .ok (.iconst (-1), 1) := by decide +kernel
theorem d_D_merge_15 : decode b_D_merge 15 = .ok (.ireturn, 1) := by decide +kernel
theorem d_D_merge_16 : decode b_D_merge 16 = .ok (.aload_n 0, 1) := by decide +kernel
theorem d_D_merge_17 : decode b_D_merge 17 = .ok (.getfield 18, 3) := by decide +kernel
theorem d_D_merge_20 : decode b_D_merge 20 = .ok (.iload_n 1, 1) := by decide +kernel
theorem d_D_merge_21 : decode b_D_merge 21 = .ok (.aaload, 1) := by decide +kernel
theorem d_D_merge_22 : decode b_D_merge 22 = .ok (.aload_n 0, 1) := by decide +kernel
theorem d_D_merge_23 : decode b_D_merge 23 = .ok (.getfield 18, 3) := by decide +kernel
theorem d_D_merge_26 : decode b_D_merge 26 = .ok (.iload_n 2, 1) := by decide +kernel
theorem d_D_merge_27 : decode b_D_merge 27 = .ok (.aaload, 1) := by decide +kernel
theorem d_D_merge_28 : decode b_D_merge 28 = .ok (.invokevirtual 131, 3) := by decide +kernel
theorem d_D_merge_31 : decode b_D_merge 31 = .ok (.ireturn, 1) := by decide +kernel
theorem d_D_reset_0 : decode b_D_reset 0 = .ok (.iload_n 1, 1) := by decide +kernel
theorem d_D_reset_1 : decode b_D_reset 1 = .ok (.invokestatic 122, 3) := by decide +kernel
theorem d_D_reset_4 : decode b_D_reset 4 = .ok (.ifCond .ne 5, 3) := by decide +kernel
theorem d_D_reset_7 : decode b_D_reset 7 = .ok (.iconst 0, 1) := by decide +kernel
theorem d_D_reset_8 : decode b_D_reset 8 = .ok (.ireturn, 1) := by decide +kernel
theorem d_D_reset_9 : decode b_D_reset 9 = .ok (.aload_n 0, 1) := by decide +kernel
theorem d_D_reset_10 : decode b_D_reset 10 = .ok (.getfield 18, 3) := by decide +kernel
theorem d_D_reset_13 : decode b_D_reset 13 = .ok (.iload_n 1, 1) := by decide +kernel
theorem d_D_reset_14 : decode b_D_reset 14 = .ok (.aaload, 1) := by decide +kernel
theorem d_D_reset_15 : decode b_D_reset 15 = .ok (.invokevirtual 135, 3) := by decide +kernel
theorem d_D_reset_18 : decode b_D_reset 18 = .ok (.iconst 1, 1) := by decide +kernel
theorem d_D_reset_19 : decode b_D_reset 19 = .ok (.ireturn, 1) := by decide +kernel
theorem d_D_count_0 : decode b_D_count 0 = .ok (.iload_n 1, 1) := by decide +kernel
theorem d_D_count_1 : decode b_D_count 1 = .ok (.invokestatic 122, 3) := by decide +kernel
theorem d_D_count_4 : decode b_D_count 4 = .ok (.ifCond .eq 15, 3) := by decide +kernel
theorem d_D_count_7 : decode b_D_count 7 = .ok (.aload_n 0, 1) := by decide +kernel
theorem d_D_count_8 : decode b_D_count 8 = .ok (.getfield 18, 3) := by decide +kernel
theorem d_D_count_11 : decode b_D_count 11 = .ok (.iload_n 1, 1) := by decide +kernel
theorem d_D_count_12 : decode b_D_count 12 = .ok (.aaload, 1) := by decide +kernel
theorem d_D_count_13 : decode b_D_count 13 = .ok (.invokevirtual 138, 3) := by decide +kernel
theorem d_D_count_16 : decode b_D_count 16 = .ok (.goto 4, 3) := by decide +kernel
theorem d_D_count_19 : decode b_D_count 19 = .ok (.iconst (-1), 1) := by decide +kernel
theorem d_D_count_20 : decode b_D_count 20 = .ok (.ireturn, 1) := by decide +kernel
theorem d_D_total_0 : decode b_D_total 0 = .ok (.iload_n 1, 1) := by decide +kernel
theorem d_D_total_1 : decode b_D_total 1 = .ok (.invokestatic 51, 3) := by decide +kernel
theorem d_D_total_4 : decode b_D_total 4 = .ok (.ifCond .eq 10, 3) := by decide +kernel
theorem d_D_total_7 : decode b_D_total 7 = .ok (.iload_n 2, 1) := by decide +kernel
theorem d_D_total_8 : decode b_D_total 8 = .ok (.invokestatic 122, 3) := by decide +kernel
theorem d_D_total_11 : decode b_D_total 11 = .ok (.ifCond .ne 5, 3) := by decide +kernel
theorem d_D_total_14 : decode b_D_total 14 = .ok (.iconst (-1), 1) := by decide +kernel
theorem d_D_total_15 : decode b_D_total 15 = .ok (.ireturn, 1) := by decide +kernel
theorem d_D_total_16 : decode b_D_total 16 = .ok (.aload_n 0, 1) := by decide +kernel
theorem d_D_total_17 : decode b_D_total 17 = .ok (.iload_n 1, 1) := by decide +kernel
theorem d_D_total_18 : decode b_D_total 18 = .ok (.aload_n 0, 1) := by decide +kernel
theorem d_D_total_19 : decode b_D_total 19 = .ok (.getfield 18, 3) := by decide +kernel
theorem d_D_total_22 : decode b_D_total 22 = .ok (.iload_n 2, 1) := by decide +kernel
theorem d_D_total_23 : decode b_D_total 23 = .ok (.aaload, 1) := by decide +kernel
theorem d_D_total_24 : decode b_D_total 24 = .ok (.aload_n 0, 1) := by decide +kernel
theorem d_D_total_25 : decode b_D_total 25 = .ok (.getfield 37, 3) := by decide +kernel
theorem d_D_total_28 : decode b_D_total 28 = .ok (.invokevirtual 141, 3) := by decide +kernel
theorem d_D_total_31 : decode b_D_total 31 = .ok (.invokevirtual 62, 3) := by decide +kernel
theorem d_D_total_34 : decode b_D_total 34 = .ok (.ireturn, 1) := by decide +kernel
theorem d_D_average_0 : decode b_D_average 0 = .ok (.iload_n 1, 1) := by decide +kernel
theorem d_D_average_1 : decode b_D_average 1 = .ok (.invokestatic 51, 3) := by decide +kernel
theorem d_D_average_4 : decode b_D_average 4 = .ok (.ifCond .eq 10, 3) := by decide +kernel
theorem d_D_average_7 : decode b_D_average 7 = .ok (.iload_n 2, 1) := by decide +kernel
theorem d_D_average_8 : decode b_D_average 8 = .ok (.invokestatic 122, 3) := by decide +kernel
theorem d_D_average_11 : decode b_D_average 11 = .ok (.ifCond .ne 5, 3) := by decide +kernel
theorem d_D_average_14 : decode b_D_average 14 = .ok (.iconst (-1), 1) := by decide +kernel
theorem d_D_average_15 : decode b_D_average 15 = .ok (.ireturn, 1) := by decide +kernel
theorem d_D_average_16 : decode b_D_average 16 = .ok (.aload_n 0, 1) := by decide +kernel
theorem d_D_average_17 : decode b_D_average 17 = .ok (.getfield 18, 3) := by decide +kernel
theorem d_D_average_20 : decode b_D_average 20 = .ok (.iload_n 2, 1) := by decide +kernel
theorem d_D_average_21 : decode b_D_average 21 = .ok (.aaload, 1) := by decide +kernel
theorem d_D_average_22 : decode b_D_average 22 = .ok (.aload_n 0, 1) := by decide +kernel
theorem d_D_average_23 : decode b_D_average 23 = .ok (.getfield 37, 3) := by decide +kernel
theorem d_D_average_26 : decode b_D_average 26 = .ok (.invokevirtual 141, 3) := by decide +kernel
theorem d_D_average_29 : decode b_D_average 29 = .ok (.istore_n 3, 1) := by decide +kernel
theorem d_D_average_30 : decode b_D_average 30 = .ok (.iload_n 3, 1) := by decide +kernel
theorem d_D_average_31 : decode b_D_average 31 = .ok (.ifCond .ne 61, 3) := by decide +kernel
theorem d_D_average_34 : decode b_D_average 34 = .ok (.aload_n 0, 1) := by decide +kernel
theorem d_D_average_35 : decode b_D_average 35 = .ok (.getfield 37, 3) := by decide +kernel
theorem d_D_average_38 : decode b_D_average 38 = .ok (.invokevirtual 74, 3) := by decide +kernel
theorem d_D_average_41 : decode b_D_average 41 = .ok (.ifCond .eq 51, 3) := by decide +kernel
theorem d_D_average_44 : decode b_D_average 44 = .ok (.aload_n 0, 1) := by decide +kernel
theorem d_D_average_45 : decode b_D_average 45 = .ok (.getfield 41, 3) := by decide +kernel
theorem d_D_average_48 : decode b_D_average 48 = .ok (.aload_n 0, 1) := by decide +kernel
theorem d_D_average_49 : decode b_D_average 49 = .ok (.getfield 37, 3) := by decide +kernel
theorem d_D_average_52 : decode b_D_average 52 = .ok (.invokevirtual 99, 3) := by decide +kernel
theorem d_D_average_55 : decode b_D_average 55 = .ok (.aload_n 0, 1) := by decide +kernel
theorem d_D_average_56 : decode b_D_average 56 = .ok (.getfield 44, 3) := by decide +kernel
theorem d_D_average_59 : decode b_D_average 59 = .ok (.aload_n 0, 1) := by decide +kernel
theorem d_D_average_60 : decode b_D_average 60 = .ok (.getfield 18, 3) := by decide +kernel
theorem d_D_average_63 : decode b_D_average 63 = .ok (.iload_n 2, 1) := by decide +kernel
theorem d_D_average_64 : decode b_D_average 64 = .ok (.aaload, 1) := by decide +kernel
theorem d_D_average_65 : decode b_D_average 65 = .ok (.invokevirtual 138, 3) := by decide +kernel
theorem d_D_average_68 : decode b_D_average 68 = .ok (.invokevirtual 144, 3) := by decide +kernel
theorem d_D_average_71 : decode b_D_average 71 = .ok (.aload_n 0, 1) := by decide +kernel
theorem d_D_average_72 : decode b_D_average 72 = .ok (.getfield 33, 3) := by decide +kernel
theorem d_D_average_75 : decode b_D_average 75 = .ok (.iconst 3, 1) := by decide +kernel
theorem d_D_average_76 : decode b_D_average 76 = .ok (.aload_n 0, 1) := by decide +kernel
theorem d_D_average_77 : decode b_D_average 77 = .ok (.getfield 41, 3) := by decide +kernel
theorem d_D_average_80 : decode b_D_average 80 = .ok (.aload_n 0, 1) := by decide +kernel
theorem d_D_average_81 : decode b_D_average 81 = .ok (.getfield 44, 3) := by decide +kernel
theorem d_D_average_84 : decode b_D_average 84 = .ok (.aload_n 0, 1) := by decide +kernel
theorem d_D_average_85 : decode b_D_average 85 = .ok (.getfield 37, 3) := by decide +kernel
theorem d_D_average_88 : decode b_D_average 88 = .ok (.invokevirtual 82, 3) := by decide +kernel
theorem d_D_average_91 : decode b_D_average 91 = .ok (.istore_n 3, 1) := by decide +kernel
theorem d_D_average_92 : decode b_D_average 92 = .ok (.aload_n 0, 1) := by decide +kernel
theorem d_D_average_93 : decode b_D_average 93 = .ok (.iload_n 1, 1) := by decide +kernel
theorem d_D_average_94 : decode b_D_average 94 = .ok (.iload_n 3, 1) := by decide +kernel
theorem d_D_average_95 : decode b_D_average 95 = .ok (.invokevirtual 62, 3) := by decide +kernel
theorem d_D_average_98 : decode b_D_average 98 = .ok (.ireturn, 1) := by decide +kernel
theorem d_D_isRegister_0 : decode b_D_isRegister 0 = .ok (.iload_n 0, 1) := by decide +kernel
theorem d_D_isRegister_1 : decode b_D_isRegister 1 = .ok (.ifCond .lt 13, 3) := by decide +kernel
theorem d_D_isRegister_4 : decode b_D_isRegister 4 = .ok (.iload_n 0, 1) := by decide +kernel
theorem d_D_isRegister_5 : decode b_D_isRegister 5 = .ok (.bipush 8, 2) := by decide +kernel
theorem d_D_isRegister_7 : decode b_D_isRegister 7 = .ok (.if_icmp .ge 7, 3) := by decide +kernel
theorem d_D_isRegister_10 : decode b_D_isRegister 10 = .ok (.iconst 1, 1) := by decide +kernel
theorem d_D_isRegister_11 : decode b_D_isRegister 11 = .ok (.goto 4, 3) := by decide +kernel
theorem d_D_isRegister_14 : decode b_D_isRegister 14 = .ok (.iconst 0, 1) := by decide +kernel
theorem d_D_isRegister_15 : decode b_D_isRegister 15 = .ok (.ireturn, 1) := by decide +kernel
theorem d_D_isSum_0 : decode b_D_isSum 0 = .ok (.iload_n 0, 1) := by decide +kernel
theorem d_D_isSum_1 : decode b_D_isSum 1 = .ok (.ifCond .lt 12, 3) := by decide +kernel
theorem d_D_isSum_4 : decode b_D_isSum 4 = .ok (.iload_n 0, 1) := by decide +kernel
theorem d_D_isSum_5 : decode b_D_isSum 5 = .ok (.iconst 4, 1) := by decide +kernel
theorem d_D_isSum_6 : decode b_D_isSum 6 = .ok (.if_icmp .ge 7, 3) := by decide +kernel
theorem d_D_isSum_9 : decode b_D_isSum 9 = .ok (.iconst 1, 1) := by decide +kernel
theorem d_D_isSum_10 : decode b_D_isSum 10 = .ok (.goto 4, 3) := by decide +kernel
theorem d_D_isSum_13 : decode b_D_isSum 13 = .ok (.iconst 0, 1) := by decide +kernel
theorem d_D_isSum_14 : decode b_D_isSum 14 = .ok (.ireturn, 1) := by decide +kernel
theorem d_D_store_0 : decode b_D_store 0 = .ok (.iload_n 2, 1) := by decide +kernel
theorem d_D_store_1 : decode b_D_store 1 = .ok (.ifCond .ne 16, 3) := by decide +kernel
theorem d_D_store_4 : decode b_D_store 4 = .ok (.aload_n 0, 1) := by decide +kernel
theorem d_D_store_5 : decode b_D_store 5 = .ok (.getfield 11, 3) := by decide +kernel
theorem d_D_store_8 : decode b_D_store 8 = .ok (.iload_n 1, 1) := by decide +kernel
theorem d_D_store_9 : decode b_D_store 9 = .ok (.aaload, 1) := by decide +kernel
theorem d_D_store_10 : decode b_D_store 10 = .ok (.aload_n 0, 1) := by decide +kernel
theorem d_D_store_11 : decode b_D_store 11 = .ok (.getfield 37, 3) := by decide +kernel
theorem d_D_store_14 : decode b_D_store 14 = .ok (.invokevirtual 99, 3) := by decide +kernel
theorem d_D_store_17 : decode b_D_store 17 = .ok (.iload_n 2, 1) := by decide +kernel
theorem d_D_store_18 : decode b_D_store 18 = .ok (.ireturn, 1) := by decide +kernel

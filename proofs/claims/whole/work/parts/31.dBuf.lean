theorem d_U_init_0 : decode b_U_init 0 = .ok (.aload_n 0, 1) := by decide +kernel
theorem d_U_init_1 : decode b_U_init 1 = .ok (.invokespecial 3, 3) := by decide +kernel
theorem d_U_init_4 : decode b_U_init 4 = .ok (.aload_n 0, 1) := by decide +kernel
theorem d_U_init_5 : decode b_U_init 5 = .ok (.bipush 80, 2) := by decide +kernel
theorem d_U_init_7 : decode b_U_init 7 = .ok (.newarray .char, 2) := by decide +kernel
theorem d_U_init_9 : decode b_U_init 9 = .ok (.putfield 11, 3) := by decide +kernel
theorem d_U_init_12 : decode b_U_init 12 = .ok (.return_, 1) := by decide +kernel
theorem d_U_append_0 : decode b_U_append 0 = .ok (.aload_n 0, 1) := by decide +kernel
theorem d_U_append_1 : decode b_U_append 1 = .ok (.getfield 15, 3) := by decide +kernel
theorem d_U_append_4 : decode b_U_append 4 = .ok (.bipush 80, 2) := by decide +kernel
theorem d_U_append_6 : decode b_U_append 6 = .ok (.if_icmp .ge 15, 3) := by decide +kernel
theorem d_U_append_9 : decode b_U_append 9 = .ok (.iload_n 1, 1) := by decide +kernel
theorem d_U_append_10 : decode b_U_append 10 = .ok (.bipush 32, 2) := by decide +kernel
theorem d_U_append_12 : decode b_U_append 12 = .ok (.if_icmp .lt 9, 3) := by decide +kernel
theorem d_U_append_15 : decode b_U_append 15 = .ok (.iload_n 1, 1) := by decide +kernel
theorem d_U_append_16 : decode b_U_append 16 = .ok (.bipush 126, 2) := by decide +kernel
theorem d_U_append_18 : decode b_U_append 18 = .ok (.if_icmp .le 5, 3) := by decide +kernel
theorem d_U_append_21 : decode b_U_append 21 = .ok (.iconst 0, 1) := by decide +kernel
theorem d_U_append_22 : decode b_U_append 22 = .ok (.ireturn, 1) := by decide +kernel
theorem d_U_append_23 : decode b_U_append 23 = .ok (.aload_n 0, 1) := by decide +kernel
theorem d_U_append_24 : decode b_U_append 24 = .ok (.getfield 11, 3) := by decide +kernel
theorem d_U_append_27 : decode b_U_append 27 = .ok (.aload_n 0, 1) := by decide +kernel
theorem d_U_append_28 : decode b_U_append 28 = .ok (.getfield 15, 3) := by decide +kernel
theorem d_U_append_31 : decode b_U_append 31 = .ok (.iload_n 1, 1) := by decide +kernel
theorem d_U_append_32 : decode b_U_append 32 = .ok (.castore, 1) := by decide +kernel
theorem d_U_append_33 : decode b_U_append 33 = .ok (.aload_n 0, 1) := by decide +kernel
theorem d_U_append_34 : decode b_U_append 34 = .ok (.dup, 1) := by decide +kernel
theorem d_U_append_35 : decode b_U_append 35 = .ok (.getfield 15, 3) := by decide +kernel
theorem d_U_append_38 : decode b_U_append 38 = .ok (.iconst 1, 1) := by decide +kernel
theorem d_U_append_39 : decode b_U_append 39 = .ok (.iadd, 1) := by decide +kernel
theorem d_U_append_40 : decode b_U_append 40 = .ok (.putfield 15, 3) := by decide +kernel
theorem d_U_append_43 : decode b_U_append 43 = .ok (.iconst 1, 1) := by decide +kernel
theorem d_U_append_44 : decode b_U_append 44 = .ok (.ireturn, 1) := by decide +kernel
theorem d_U_empty_0 : decode b_U_empty 0 = .ok (.aload_n 0, 1) := by decide +kernel
theorem d_U_empty_1 : decode b_U_empty 1 = .ok (.iconst 0, 1) := by decide +kernel
theorem d_U_empty_2 : decode b_U_empty 2 = .ok (.putfield 15, 3) := by decide +kernel
theorem d_U_empty_5 : decode b_U_empty 5 = .ok (.return_, 1) := by decide +kernel
theorem d_U_readInto_0 : decode b_U_readInto 0 = .ok (.aload_n 0, 1) := by decide +kernel
theorem d_U_readInto_1 : decode b_U_readInto 1 = .ok (.iconst 0, 1) := by decide +kernel
theorem d_U_readInto_2 : decode b_U_readInto 2 = .ok (.ldc 19, 2) := by decide +kernel
theorem d_U_readInto_4 : decode b_U_readInto 4 = .ok (.invokevirtual 21, 3) := by decide +kernel
theorem d_U_readInto_7 : decode b_U_readInto 7 = .ok (.ifCond .eq 12, 3) := by decide +kernel
theorem d_U_readInto_10 : decode b_U_readInto 10 = .ok (.aload_n 1, 1) := by decide +kernel
theorem d_U_readInto_11 : decode b_U_readInto 11 = .ok (.getstatic 25, 3) := by decide +kernel
theorem d_U_readInto_14 : decode b_U_readInto 14 = .ok (.invokevirtual 31, 3) := by decide +kernel
theorem d_U_readInto_17 : decode b_U_readInto 17 = .ok (.iconst 0, 1) := by decide +kernel
theorem d_U_readInto_18 : decode b_U_readInto 18 = .ok (.ireturn, 1) := by decide +kernel
theorem d_U_readInto_19 : decode b_U_readInto 19 = .ok (.aload_n 0, 1) := by decide +kernel
theorem d_U_readInto_20 : decode b_U_readInto 20 = .ok (.iconst 0, 1) := by decide +kernel
theorem d_U_readInto_21 : decode b_U_readInto 21 = .ok (.invokevirtual 37, 3) := by decide +kernel
theorem d_U_readInto_24 : decode b_U_readInto 24 = .ok (.ifCond .eq 7, 3) := by decide +kernel
theorem d_U_readInto_27 : decode b_U_readInto 27 = .ok (.iconst 1, 1) := by decide +kernel
theorem d_U_readInto_28 : decode b_U_readInto 28 = .ok (.goto 4, 3) := by decide +kernel
theorem d_U_readInto_31 : decode b_U_readInto 31 = .ok (.iconst 0, 1) := by decide +kernel
theorem d_U_readInto_32 : decode b_U_readInto 32 = .ok (.istore_n 2, 1) := by decide +kernel
theorem d_U_readInto_33 : decode b_U_readInto 33 = .ok (.iload_n 2, 1) := by decide +kernel
theorem d_U_readInto_34 : decode b_U_readInto 34 = .ok (.iconst 1, 1) := by decide +kernel
theorem d_U_readInto_35 : decode b_U_readInto 35 = .ok (.if_icmp .ne 18, 3) := by decide +kernel
theorem d_U_readInto_38 : decode b_U_readInto 38 = .ok (.aload_n 0, 1) := by decide +kernel
theorem d_U_readInto_39 : decode b_U_readInto 39 = .ok (.getfield 11, 3) := by decide +kernel
theorem d_U_readInto_42 : decode b_U_readInto 42 = .ok (.iconst 0, 1) := by decide +kernel
theorem d_U_readInto_43 : decode b_U_readInto 43 = .ok (.caload, 1) := by decide +kernel
theorem d_U_readInto_44 : decode b_U_readInto 44 = .ok (.bipush 45, 2) := by decide +kernel
theorem d_U_readInto_46 : decode b_U_readInto 46 = .ok (.if_icmp .ne 7, 3) := by decide +kernel
theorem d_U_readInto_49 : decode b_U_readInto 49 = .ok (.iconst 1, 1) := by decide +kernel
theorem d_U_readInto_50 : decode b_U_readInto 50 = .ok (.goto 4, 3) := by decide +kernel
theorem d_U_readInto_53 : decode b_U_readInto 53 = .ok (.iconst 0, 1) := by decide +kernel
theorem d_U_readInto_54 : decode b_U_readInto 54 = .ok (.istore_n 3, 1) := by decide +kernel
theorem d_U_readInto_55 : decode b_U_readInto 55 = .ok (.aload_n 0, 1) := by decide +kernel
theorem d_U_readInto_56 : decode b_U_readInto 56 = .ok (.iload_n 2, 1) := by decide +kernel
theorem d_U_readInto_57 : decode b_U_readInto 57 = .ok (.ldc 41, 2) := by decide +kernel
theorem d_U_readInto_59 : decode b_U_readInto 59 = .ok (.invokevirtual 21, 3) := by decide +kernel
theorem d_U_readInto_62 : decode b_U_readInto 62 = .ok (.ifCond .ne 13, 3) := by decide +kernel
theorem d_U_readInto_65 : decode b_U_readInto 65 = .ok (.aload_n 0, 1) := by decide +kernel
theorem d_U_readInto_66 : decode b_U_readInto 66 = .ok (.iload_n 2, 1) := by decide +kernel
theorem d_U_readInto_67 : decode b_U_readInto 67 = .ok (.ldc 43, 2) := by decide +kernel
theorem d_U_readInto_69 : decode b_U_readInto 69 = .ok (.invokevirtual 21, 3) := by decide +kernel
theorem d_U_readInto_72 : decode b_U_readInto 72 = .ok (.ifCond .eq 18, 3) := by decide +kernel
theorem d_U_readInto_75 : decode b_U_readInto 75 = .ok (.aload_n 1, 1) := by decide +kernel
theorem d_U_readInto_76 : decode b_U_readInto 76 = .ok (.iload_n 3, 1) := by decide +kernel
theorem d_U_readInto_77 : decode b_U_readInto 77 = .ok (.ifCond .eq 7, 3) := by decide +kernel
theorem d_U_readInto_80 : decode b_U_readInto 80 = .ok (.iconst (-1), 1) := by decide +kernel
theorem d_U_readInto_81 : decode b_U_readInto 81 = .ok (.goto 4, 3) := by decide +kernel
theorem d_U_readInto_84 : decode b_U_readInto 84 = .ok (.iconst 1, 1) := by decide +kernel
theorem d_U_readInto_85 : decode b_U_readInto 85 = .ok (.invokevirtual 45, 3) := by decide +kernel
theorem d_U_readInto_88 : decode b_U_readInto 88 = .ok (.iconst 0, 1) := by decide +kernel
theorem d_U_readInto_89 : decode b_U_readInto 89 = .ok (.ireturn, 1) := by decide +kernel
theorem d_U_readInto_90 : decode b_U_readInto 90 = .ok (.aload_n 0, 1) := by decide +kernel
theorem d_U_readInto_91 : decode b_U_readInto 91 = .ok (.iload_n 2, 1) := by decide +kernel
theorem d_U_readInto_92 : decode b_U_readInto 92 = .ok (.iload_n 3, 1) := by decide +kernel
theorem d_U_readInto_93 : decode b_U_readInto 93 = .ok (.aload_n 1, 1) := by decide +kernel
theorem d_U_readInto_94 : decode b_U_readInto 94 = .ok (.invokevirtual 49, 3) := by decide +kernel
theorem d_U_readInto_97 : decode b_U_readInto 97 = .ok (.ireturn, 1) := by decide +kernel
theorem d_U_readFinite_0 : decode b_U_readFinite 0 = .ok (.aload_n 0, 1) := by decide +kernel
theorem d_U_readFinite_1 : decode b_U_readFinite 1 = .ok (.iload_n 1, 1) := by decide +kernel
theorem d_U_readFinite_2 : decode b_U_readFinite 2 = .ok (.invokevirtual 53, 3) := by decide +kernel
theorem d_U_readFinite_5 : decode b_U_readFinite 5 = .ok (.istore 4, 2) := by decide +kernel
theorem d_U_readFinite_7 : decode b_U_readFinite 7 = .ok (.aload_n 0, 1) := by decide +kernel
theorem d_U_readFinite_8 : decode b_U_readFinite 8 = .ok (.iload_n 1, 1) := by decide +kernel
theorem d_U_readFinite_9 : decode b_U_readFinite 9 = .ok (.iload 4, 2) := by decide +kernel
theorem d_U_readFinite_11 : decode b_U_readFinite 11 = .ok (.invokevirtual 57, 3) := by decide +kernel
theorem d_U_readFinite_14 : decode b_U_readFinite 14 = .ok (.istore 5, 2) := by decide +kernel
theorem d_U_readFinite_16 : decode b_U_readFinite 16 = .ok (.iload 4, 2) := by decide +kernel
theorem d_U_readFinite_18 : decode b_U_readFinite 18 = .ok (.iload_n 1, 1) := by decide +kernel
theorem d_U_readFinite_19 : decode b_U_readFinite 19 = .ok (.isub, 1) := by decide +kernel
theorem d_U_readFinite_20 : decode b_U_readFinite 20 = .ok (.iload 5, 2) := by decide +kernel
theorem d_U_readFinite_22 : decode b_U_readFinite 22 = .ok (.iload 4, 2) := by decide +kernel
theorem d_U_readFinite_24 : decode b_U_readFinite 24 = .ok (.if_icmp .ge 7, 3) := by decide +kernel
theorem d_U_readFinite_27 : decode b_U_readFinite 27 = .ok (.iconst 1, 1) := by decide +kernel
theorem d_U_readFinite_28 : decode b_U_readFinite 28 = .ok (.goto 4, 3) := by decide +kernel
theorem d_U_readFinite_31 : decode b_U_readFinite 31 = .ok (.iconst 0, 1) := by decide +kernel
theorem d_U_readFinite_32 : decode b_U_readFinite 32 = .ok (.isub, 1) := by decide +kernel
theorem d_U_readFinite_33 : decode b_U_readFinite 33 = .ok (.istore 6, 2) := by decide +kernel
theorem d_U_readFinite_35 : decode b_U_readFinite 35 = .ok (.aload_n 0, 1) := by decide +kernel
theorem d_U_readFinite_36 : decode b_U_readFinite 36 = .ok (.iload 4, 2) := by decide +kernel
theorem d_U_readFinite_38 : decode b_U_readFinite 38 = .ok (.invokevirtual 61, 3) := by decide +kernel
theorem d_U_readFinite_41 : decode b_U_readFinite 41 = .ok (.istore 7, 2) := by decide +kernel
theorem d_U_readFinite_43 : decode b_U_readFinite 43 = .ok (.iload 6, 2) := by decide +kernel
theorem d_U_readFinite_45 : decode b_U_readFinite 45 = .ok (.ifCond .eq 11, 3) := by decide +kernel
theorem d_U_readFinite_48 : decode b_U_readFinite 48 = .ok (.iload 7, 2) := by decide +kernel
theorem d_U_readFinite_50 : decode b_U_readFinite 50 = .ok (.sipush 1000, 3) := by decide +kernel
theorem d_U_readFinite_53 : decode b_U_readFinite 53 = .ok (.if_icmp .ne 6, 3) := by decide +kernel
theorem d_U_readFinite_56 : decode b_U_readFinite 56 = .ok (.bipush (-2), 2) := by decide +kernel
theorem d_U_readFinite_58 : decode b_U_readFinite 58 = .ok (.ireturn, 1) := by decide +kernel
theorem d_U_readFinite_59 : decode b_U_readFinite 59 = .ok (.iload 4, 2) := by decide +kernel
theorem d_U_readFinite_61 : decode b_U_readFinite 61 = .ok (.iload 5, 2) := by decide +kernel
theorem d_U_readFinite_63 : decode b_U_readFinite 63 = .ok (.isub, 1) := by decide +kernel
theorem d_U_readFinite_64 : decode b_U_readFinite 64 = .ok (.iconst 1, 1) := by decide +kernel
theorem d_U_readFinite_65 : decode b_U_readFinite 65 = .ok (.isub, 1) := by decide +kernel
theorem d_U_readFinite_66 : decode b_U_readFinite 66 = .ok (.iconst 0, 1) := by decide +kernel
theorem d_U_readFinite_67 : decode b_U_readFinite 67 = .ok (.invokestatic 64, 3) := by decide +kernel
theorem d_U_readFinite_70 : decode b_U_readFinite 70 = .ok (.istore 8, 2) := by decide +kernel
theorem d_U_readFinite_72 : decode b_U_readFinite 72 = .ok (.iload 8, 2) := by decide +kernel
theorem d_U_readFinite_74 : decode b_U_readFinite 74 = .ok (.iload 7, 2) := by decide +kernel
theorem d_U_readFinite_76 : decode b_U_readFinite 76 = .ok (.isub, 1) := by decide +kernel
theorem d_U_readFinite_77 : decode b_U_readFinite 77 = .ok (.istore 9, 2) := by decide +kernel
theorem d_U_readFinite_79 : decode b_U_readFinite 79 = .ok (.aload_n 3, 1) := by decide +kernel
theorem d_U_readFinite_80 : decode b_U_readFinite 80 = .ok (.getstatic 69, 3) := by decide +kernel
theorem d_U_readFinite_83 : decode b_U_readFinite 83 = .ok (.invokevirtual 31, 3) := by decide +kernel
theorem d_U_readFinite_86 : decode b_U_readFinite 86 = .ok (.aload_n 3, 1) := by decide +kernel
theorem d_U_readFinite_87 : decode b_U_readFinite 87 = .ok (.iconst 0, 1) := by decide +kernel
theorem d_U_readFinite_88 : decode b_U_readFinite 88 = .ok (.iload 9, 2) := by decide +kernel
theorem d_U_readFinite_90 : decode b_U_readFinite 90 = .ok (.bipush 24, 2) := by decide +kernel
theorem d_U_readFinite_92 : decode b_U_readFinite 92 = .ok (.invokestatic 72, 3) := by decide +kernel
theorem d_U_readFinite_95 : decode b_U_readFinite 95 = .ok (.invokestatic 64, 3) := by decide +kernel
theorem d_U_readFinite_98 : decode b_U_readFinite 98 = .ok (.putfield 75, 3) := by decide +kernel
theorem d_U_readFinite_101 : decode b_U_readFinite 101 = .ok (.aload_n 0, 1) := by decide +kernel
theorem d_U_readFinite_102 : decode b_U_readFinite 102 = .ok (.iload_n 1, 1) := by decide +kernel
theorem d_U_readFinite_103 : decode b_U_readFinite 103 = .ok (.iload 4, 2) := by decide +kernel
theorem d_U_readFinite_105 : decode b_U_readFinite 105 = .ok (.iload 6, 2) := by decide +kernel
theorem d_U_readFinite_107 : decode b_U_readFinite 107 = .ok (.iconst 1, 1) := by decide +kernel
theorem d_U_readFinite_108 : decode b_U_readFinite 108 = .ok (.isub, 1) := by decide +kernel
theorem d_U_readFinite_109 : decode b_U_readFinite 109 = .ok (.bipush 24, 2) := by decide +kernel
theorem d_U_readFinite_111 : decode b_U_readFinite 111 = .ok (.iadd, 1) := by decide +kernel
theorem d_U_readFinite_112 : decode b_U_readFinite 112 = .ok (.iload 9, 2) := by decide +kernel
theorem d_U_readFinite_114 : decode b_U_readFinite 114 = .ok (.isub, 1) := by decide +kernel
theorem d_U_readFinite_115 : decode b_U_readFinite 115 = .ok (.aload_n 3, 1) := by decide +kernel
theorem d_U_readFinite_116 : decode b_U_readFinite 116 = .ok (.getfield 78, 3) := by decide +kernel
theorem d_U_readFinite_119 : decode b_U_readFinite 119 = .ok (.getfield 82, 3) := by decide +kernel
theorem d_U_readFinite_122 : decode b_U_readFinite 122 = .ok (.invokevirtual 88, 3) := by decide +kernel
theorem d_U_readFinite_125 : decode b_U_readFinite 125 = .ok (.istore 10, 2) := by decide +kernel
theorem d_U_readFinite_127 : decode b_U_readFinite 127 = .ok (.aload_n 3, 1) := by decide +kernel
theorem d_U_readFinite_128 : decode b_U_readFinite 128 = .ok (.getfield 78, 3) := by decide +kernel
theorem d_U_readFinite_131 : decode b_U_readFinite 131 = .ok (.iload_n 2, 1) := by decide +kernel
theorem d_U_readFinite_132 : decode b_U_readFinite 132 = .ok (.invokevirtual 92, 3) := by decide +kernel
theorem d_U_readFinite_135 : decode b_U_readFinite 135 = .ok (.iload 10, 2) := by decide +kernel
theorem d_U_readFinite_137 : decode b_U_readFinite 137 = .ok (.ifCond .eq 14, 3) := by decide +kernel
theorem d_U_readFinite_140 : decode b_U_readFinite 140 = .ok (.aload_n 3, 1) := by decide +kernel
theorem d_U_readFinite_141 : decode b_U_readFinite 141 = .ok (.invokevirtual 96, 3) := by decide +kernel
theorem d_U_readFinite_144 : decode b_U_readFinite 144 = .ok (.ifCond .ne 7, 3) := by decide +kernel
theorem d_U_readFinite_147 : decode b_U_readFinite 147 = .ok (.iconst 0, 1) := by decide +kernel
theorem d_U_readFinite_148 : decode b_U_readFinite 148 = .ok (.goto 5, 3) := by decide +kernel
theorem d_U_readFinite_151 : decode b_U_readFinite 151 = .ok (.bipush (-3), 2) := by decide +kernel
theorem d_U_readFinite_153 : decode b_U_readFinite 153 = .ok (.ireturn, 1) := by decide +kernel
theorem d_U_placeDigits_0 : decode b_U_placeDigits 0 = .ok (.iload_n 3, 1) := by decide +kernel
theorem d_U_placeDigits_1 : decode b_U_placeDigits 1 = .ok (.istore 5, 2) := by decide +kernel
theorem d_U_placeDigits_3 : decode b_U_placeDigits 3 = .ok (.iconst 0, 1) := by decide +kernel
theorem d_U_placeDigits_4 : decode b_U_placeDigits 4 = .ok (.istore 6, 2) := by decide +kernel
theorem d_U_placeDigits_6 : decode b_U_placeDigits 6 = .ok (.iload_n 1, 1) := by decide +kernel
theorem d_U_placeDigits_7 : decode b_U_placeDigits 7 = .ok (.istore 7, 2) := by decide +kernel
theorem d_U_placeDigits_9 : decode b_U_placeDigits 9 = .ok (.iload 7, 2) := by decide +kernel
theorem d_U_placeDigits_11 : decode b_U_placeDigits 11 = .ok (.iload_n 2, 1) := by decide +kernel
theorem d_U_placeDigits_12 : decode b_U_placeDigits 12 = .ok (.if_icmp .ge 110, 3) := by decide +kernel
theorem d_U_placeDigits_15 : decode b_U_placeDigits 15 = .ok (.aload_n 0, 1) := by decide +kernel
theorem d_U_placeDigits_16 : decode b_U_placeDigits 16 = .ok (.getfield 11, 3) := by decide +kernel
theorem d_U_placeDigits_19 : decode b_U_placeDigits 19 = .ok (.iload 7, 2) := by decide +kernel
theorem d_U_placeDigits_21 : decode b_U_placeDigits 21 = .ok (.caload, 1) := by decide +kernel
theorem d_U_placeDigits_22 : decode b_U_placeDigits 22 = .ok (.bipush 46, 2) := by decide +kernel
theorem d_U_placeDigits_24 : decode b_U_placeDigits 24 = .ok (.if_icmp .ne 6, 3) := by decide +kernel
theorem d_U_placeDigits_27 : decode b_U_placeDigits 27 = .ok (.goto 89, 3) := by decide +kernel
theorem d_U_placeDigits_30 : decode b_U_placeDigits 30 = .ok (.aload_n 0, 1) := by decide +kernel
theorem d_U_placeDigits_31 : decode b_U_placeDigits 31 = .ok (.getfield 11, 3) := by decide +kernel
theorem d_U_placeDigits_34 : decode b_U_placeDigits 34 = .ok (.iload 7, 2) := by decide +kernel
theorem d_U_placeDigits_36 : decode b_U_placeDigits 36 = .ok (.caload, 1) := by decide +kernel
theorem d_U_placeDigits_37 : decode b_U_placeDigits 37 = .ok (.bipush 48, 2) := by decide +kernel
theorem d_U_placeDigits_39 : decode b_U_placeDigits 39 = .ok (.isub, 1) := by decide +kernel
theorem d_U_placeDigits_40 : decode b_U_placeDigits 40 = .ok (.istore 8, 2) := by decide +kernel
theorem d_U_placeDigits_42 : decode b_U_placeDigits 42 = .ok (.iload 5, 2) := by decide +kernel
theorem d_U_placeDigits_44 : decode b_U_placeDigits 44 = .ok (.bipush 56, 2) := by decide +kernel
theorem d_U_placeDigits_46 : decode b_U_placeDigits 46 = .ok (.if_icmp .lt 10, 3) := by decide +kernel
theorem d_U_placeDigits_49 : decode b_U_placeDigits 49 = .ok (.iload 8, 2) := by decide +kernel
theorem d_U_placeDigits_51 : decode b_U_placeDigits 51 = .ok (.ifCond .eq 5, 3) := by decide +kernel
theorem d_U_placeDigits_54 : decode b_U_placeDigits 54 = .ok (.iconst 0, 1) := by decide +kernel
theorem d_U_placeDigits_55 : decode b_U_placeDigits 55 = .ok (.ireturn, 1) := by decide +kernel
theorem d_U_placeDigits_56 : decode b_U_placeDigits 56 = .ok (.iload 5, 2) := by decide +kernel
theorem d_U_placeDigits_58 : decode b_U_placeDigits 58 = .ok (.ifCond .lt 31, 3) := by decide +kernel
theorem d_U_placeDigits_61 : decode b_U_placeDigits 61 = .ok (.iload 5, 2) := by decide +kernel
theorem d_U_placeDigits_63 : decode b_U_placeDigits 63 = .ok (.bipush 56, 2) := by decide +kernel
theorem d_U_placeDigits_65 : decode b_U_placeDigits 65 = .ok (.if_icmp .ge 24, 3) := by decide +kernel
theorem d_U_placeDigits_68 : decode b_U_placeDigits 68 = .ok (.aload 4, 2) := by decide +kernel
theorem d_U_placeDigits_70 : decode b_U_placeDigits 70 = .ok (.iload 5, 2) := by decide +kernel
theorem d_U_placeDigits_72 : decode b_U_placeDigits 72 = .ok (.iconst 4, 1) := by decide +kernel
theorem d_U_placeDigits_73 : decode b_U_placeDigits 73 = .ok (.idiv, 1) := by decide +kernel
theorem d_U_placeDigits_74 : decode b_U_placeDigits 74 = .ok (.dup2, 1) := by decide +kernel
theorem d_U_placeDigits_75 : decode b_U_placeDigits 75 = .ok (.iaload, 1) := by decide +kernel
theorem d_U_placeDigits_76 : decode b_U_placeDigits 76 = .ok (.iload 8, 2) := by decide +kernel
theorem d_U_placeDigits_78 : decode b_U_placeDigits 78 = .ok (.getstatic 100, 3) := by decide +kernel
theorem d_U_placeDigits_81 : decode b_U_placeDigits 81 = .ok (.iload 5, 2) := by decide +kernel
theorem d_U_placeDigits_83 : decode b_U_placeDigits 83 = .ok (.iconst 4, 1) := by decide +kernel
theorem d_U_placeDigits_84 : decode b_U_placeDigits 84 = .ok (.irem, 1) := by decide +kernel
theorem d_U_placeDigits_85 : decode b_U_placeDigits 85 = .ok (.iaload, 1) := by decide +kernel
theorem d_U_placeDigits_86 : decode b_U_placeDigits 86 = .ok (.imul, 1) := by decide +kernel
theorem d_U_placeDigits_87 : decode b_U_placeDigits 87 = .ok (.iadd, 1) := by decide +kernel
theorem d_U_placeDigits_88 : decode b_U_placeDigits 88 = .ok (.iastore, 1) := by decide +kernel
theorem d_U_placeDigits_89 : decode b_U_placeDigits 89 = .ok (.iload 6, 2) := by decide +kernel
theorem d_U_placeDigits_91 : decode b_U_placeDigits 91 = .ok (.ifCond .ne 15, 3) := by decide +kernel
theorem d_U_placeDigits_94 : decode b_U_placeDigits 94 = .ok (.iload 5, 2) := by decide +kernel
theorem d_U_placeDigits_96 : decode b_U_placeDigits 96 = .ok (.iconst (-1), 1) := by decide +kernel
theorem d_U_placeDigits_97 : decode b_U_placeDigits 97 = .ok (.if_icmp .ne 13, 3) := by decide +kernel
theorem d_U_placeDigits_100 : decode b_U_placeDigits 100 = .ok (.iload 8, 2) := by decide +kernel
theorem d_U_placeDigits_102 : decode b_U_placeDigits 102 = .ok (.iconst 5, 1) := by decide +kernel
theorem d_U_placeDigits_103 : decode b_U_placeDigits 103 = .ok (.if_icmp .lt 7, 3) := by decide +kernel
theorem d_U_placeDigits_106 : decode b_U_placeDigits 106 = .ok (.iconst 1, 1) := by decide +kernel
theorem d_U_placeDigits_107 : decode b_U_placeDigits 107 = .ok (.goto 4, 3) := by decide +kernel
theorem d_U_placeDigits_110 : decode b_U_placeDigits 110 = .ok (.iconst 0, 1) := by decide +kernel
theorem d_U_placeDigits_111 : decode b_U_placeDigits 111 = .ok (.istore 6, 2) := by decide +kernel
theorem d_U_placeDigits_113 : decode b_U_placeDigits 113 = .ok (.iinc 5 (-1), 3) := by decide +kernel
theorem d_U_placeDigits_116 : decode b_U_placeDigits 116 = .ok (.iinc 7 1, 3) := by decide +kernel
theorem d_U_placeDigits_119 : decode b_U_placeDigits 119 = .ok (.goto (-110), 3) := by decide +kernel
theorem d_U_placeDigits_122 : decode b_U_placeDigits 122 = .ok (.iload 6, 2) := by decide +kernel
theorem d_U_placeDigits_124 : decode b_U_placeDigits 124 = .ok (.ifCond .eq 9, 3) := by decide +kernel
theorem d_U_placeDigits_127 : decode b_U_placeDigits 127 = .ok (.aload 4, 2) := by decide +kernel
theorem d_U_placeDigits_129 : decode b_U_placeDigits 129 = .ok (.iconst 0, 1) := by decide +kernel
theorem d_U_placeDigits_130 : decode b_U_placeDigits 130 = .ok (.invokestatic 103, 3) := by decide +kernel
theorem d_U_placeDigits_133 : decode b_U_placeDigits 133 = .ok (.iconst 1, 1) := by decide +kernel
theorem d_U_placeDigits_134 : decode b_U_placeDigits 134 = .ok (.ireturn, 1) := by decide +kernel
theorem d_U_endOfDigits_0 : decode b_U_endOfDigits 0 = .ok (.iload_n 1, 1) := by decide +kernel
theorem d_U_endOfDigits_1 : decode b_U_endOfDigits 1 = .ok (.istore_n 2, 1) := by decide +kernel
theorem d_U_endOfDigits_2 : decode b_U_endOfDigits 2 = .ok (.iconst 0, 1) := by decide +kernel
theorem d_U_endOfDigits_3 : decode b_U_endOfDigits 3 = .ok (.istore_n 3, 1) := by decide +kernel
theorem d_U_endOfDigits_4 : decode b_U_endOfDigits 4 = .ok (.iload_n 2, 1) := by decide +kernel
theorem d_U_endOfDigits_5 : decode b_U_endOfDigits 5 = .ok (.aload_n 0, 1) := by decide +kernel
theorem d_U_endOfDigits_6 : decode b_U_endOfDigits 6 = .ok (.getfield 15, 3) := by decide +kernel
theorem d_U_endOfDigits_9 : decode b_U_endOfDigits 9 = .ok (.if_icmp .ge 53, 3) := by decide +kernel
theorem d_U_endOfDigits_12 : decode b_U_endOfDigits 12 = .ok (.aload_n 0, 1) := by decide +kernel
theorem d_U_endOfDigits_13 : decode b_U_endOfDigits 13 = .ok (.iload_n 2, 1) := by decide +kernel
theorem d_U_endOfDigits_14 : decode b_U_endOfDigits 14 = .ok (.invokevirtual 109, 3) := by decide +kernel
theorem d_U_endOfDigits_17 : decode b_U_endOfDigits 17 = .ok (.ifCond .ne 18, 3) := by decide +kernel
theorem d_U_endOfDigits_20 : decode b_U_endOfDigits 20 = .ok (.aload_n 0, 1) := by decide +kernel
theorem d_U_endOfDigits_21 : decode b_U_endOfDigits 21 = .ok (.getfield 11, 3) := by decide +kernel
theorem d_U_endOfDigits_24 : decode b_U_endOfDigits 24 = .ok (.iload_n 2, 1) := by decide +kernel
theorem d_U_endOfDigits_25 : decode b_U_endOfDigits 25 = .ok (.caload, 1) := by decide +kernel
theorem d_U_endOfDigits_26 : decode b_U_endOfDigits 26 = .ok (.bipush 46, 2) := by decide +kernel
theorem d_U_endOfDigits_28 : decode b_U_endOfDigits 28 = .ok (.if_icmp .ne 34, 3) := by decide +kernel
theorem d_U_endOfDigits_31 : decode b_U_endOfDigits 31 = .ok (.iload_n 3, 1) := by decide +kernel
theorem d_U_endOfDigits_32 : decode b_U_endOfDigits 32 = .ok (.ifCond .ne 30, 3) := by decide +kernel
theorem d_U_endOfDigits_35 : decode b_U_endOfDigits 35 = .ok (.iload_n 3, 1) := by decide +kernel
theorem d_U_endOfDigits_36 : decode b_U_endOfDigits 36 = .ok (.ifCond .ne 14, 3) := by decide +kernel
theorem d_U_endOfDigits_39 : decode b_U_endOfDigits 39 = .ok (.aload_n 0, 1) := by decide +kernel
theorem d_U_endOfDigits_40 : decode b_U_endOfDigits 40 = .ok (.getfield 11, 3) := by decide +kernel
theorem d_U_endOfDigits_43 : decode b_U_endOfDigits 43 = .ok (.iload_n 2, 1) := by decide +kernel
theorem d_U_endOfDigits_44 : decode b_U_endOfDigits 44 = .ok (.caload, 1) := by decide +kernel
theorem d_U_endOfDigits_45 : decode b_U_endOfDigits 45 = .ok (.bipush 46, 2) := by decide +kernel
theorem d_U_endOfDigits_47 : decode b_U_endOfDigits 47 = .ok (.if_icmp .ne 7, 3) := by decide +kernel
theorem d_U_endOfDigits_50 : decode b_U_endOfDigits 50 = .ok (.iconst 1, 1) := by decide +kernel
theorem d_U_endOfDigits_51 : decode b_U_endOfDigits 51 = .ok (.goto 4, 3) := by decide +kernel
theorem d_U_endOfDigits_54 : decode b_U_endOfDigits 54 = .ok (.iconst 0, 1) := by decide +kernel
theorem d_U_endOfDigits_55 : decode b_U_endOfDigits 55 = .ok (.istore_n 3, 1) := by decide +kernel
theorem d_U_endOfDigits_56 : decode b_U_endOfDigits 56 = .ok (.iinc 2 1, 3) := by decide +kernel
theorem d_U_endOfDigits_59 : decode b_U_endOfDigits 59 = .ok (.goto (-55), 3) := by decide +kernel
theorem d_U_endOfDigits_62 : decode b_U_endOfDigits 62 = .ok (.iload_n 2, 1) := by decide +kernel
theorem d_U_endOfDigits_63 : decode b_U_endOfDigits 63 = .ok (.ireturn, 1) := by decide +kernel
theorem d_U_pointBetween_0 : decode b_U_pointBetween 0 = .ok (.iload_n 1, 1) := by decide +kernel
theorem d_U_pointBetween_1 : decode b_U_pointBetween 1 = .ok (.istore_n 3, 1) := by decide +kernel
theorem d_U_pointBetween_2 : decode b_U_pointBetween 2 = .ok (.iload_n 3, 1) := by decide +kernel
theorem d_U_pointBetween_3 : decode b_U_pointBetween 3 = .ok (.iload_n 2, 1) := by decide +kernel
theorem d_U_pointBetween_4 : decode b_U_pointBetween 4 = .ok (.if_icmp .ge 20, 3) := by decide +kernel
theorem d_U_pointBetween_7 : decode b_U_pointBetween 7 = .ok (.aload_n 0, 1) := by decide +kernel
theorem d_U_pointBetween_8 : decode b_U_pointBetween 8 = .ok (.getfield 11, 3) := by decide +kernel
theorem d_U_pointBetween_11 : decode b_U_pointBetween 11 = .ok (.iload_n 3, 1) := by decide +kernel
theorem d_U_pointBetween_12 : decode b_U_pointBetween 12 = .ok (.caload, 1) := by decide +kernel
theorem d_U_pointBetween_13 : decode b_U_pointBetween 13 = .ok (.bipush 46, 2) := by decide +kernel
theorem d_U_pointBetween_15 : decode b_U_pointBetween 15 = .ok (.if_icmp .eq 9, 3) := by decide +kernel
theorem d_U_pointBetween_18 : decode b_U_pointBetween 18 = .ok (.iinc 3 1, 3) := by decide +kernel
theorem d_U_pointBetween_21 : decode b_U_pointBetween 21 = .ok (.goto (-19), 3) := by decide +kernel
theorem d_U_pointBetween_24 : decode b_U_pointBetween 24 = .ok (.iload_n 3, 1) := by decide +kernel
theorem d_U_pointBetween_25 : decode b_U_pointBetween 25 = .ok (.ireturn, 1) := by decide +kernel
theorem d_U_exponentFrom_0 : decode b_U_exponentFrom 0 = .ok (.iload_n 1, 1) := by decide +kernel
theorem d_U_exponentFrom_1 : decode b_U_exponentFrom 1 = .ok (.aload_n 0, 1) := by decide +kernel
theorem d_U_exponentFrom_2 : decode b_U_exponentFrom 2 = .ok (.getfield 15, 3) := by decide +kernel
theorem d_U_exponentFrom_5 : decode b_U_exponentFrom 5 = .ok (.if_icmp .ne 5, 3) := by decide +kernel
theorem d_U_exponentFrom_8 : decode b_U_exponentFrom 8 = .ok (.iconst 0, 1) := by decide +kernel
theorem d_U_exponentFrom_9 : decode b_U_exponentFrom 9 = .ok (.ireturn, 1) := by decide +kernel
theorem d_U_exponentFrom_10 : decode b_U_exponentFrom 10 = .ok (.aload_n 0, 1) := by decide +kernel
theorem d_U_exponentFrom_11 : decode b_U_exponentFrom 11 = .ok (.getfield 11, 3) := by decide +kernel
theorem d_U_exponentFrom_14 : decode b_U_exponentFrom 14 = .ok (.iload_n 1, 1) := by decide +kernel
theorem d_U_exponentFrom_15 : decode b_U_exponentFrom 15 = .ok (.caload, 1) := by decide +kernel
theorem d_U_exponentFrom_16 : decode b_U_exponentFrom 16 = .ok (.invokestatic 112, 3) := by decide +kernel
theorem d_U_exponentFrom_19 : decode b_U_exponentFrom 19 = .ok (.bipush 101, 2) := by decide +kernel
theorem d_U_exponentFrom_21 : decode b_U_exponentFrom 21 = .ok (.if_icmp .eq 7, 3) := by decide +kernel
theorem d_U_exponentFrom_24 : decode b_U_exponentFrom 24 = .ok (.sipush 1000, 3) := by decide +kernel
theorem d_U_exponentFrom_27 : decode b_U_exponentFrom 27 = .ok (.ireturn, 1) := by decide +kernel
theorem d_U_exponentFrom_28 : decode b_U_exponentFrom 28 = .ok (.aload_n 0, 1) := by decide +kernel
theorem d_U_exponentFrom_29 : decode b_U_exponentFrom 29 = .ok (.iload_n 1, 1) := by decide +kernel
theorem d_U_exponentFrom_30 : decode b_U_exponentFrom 30 = .ok (.iconst 1, 1) := by decide +kernel
theorem d_U_exponentFrom_31 : decode b_U_exponentFrom 31 = .ok (.iadd, 1) := by decide +kernel
theorem d_U_exponentFrom_32 : decode b_U_exponentFrom 32 = .ok (.invokevirtual 37, 3) := by decide +kernel
theorem d_U_exponentFrom_35 : decode b_U_exponentFrom 35 = .ok (.ifCond .eq 9, 3) := by decide +kernel
theorem d_U_exponentFrom_38 : decode b_U_exponentFrom 38 = .ok (.iload_n 1, 1) := by decide +kernel
theorem d_U_exponentFrom_39 : decode b_U_exponentFrom 39 = .ok (.iconst 2, 1) := by decide +kernel
theorem d_U_exponentFrom_40 : decode b_U_exponentFrom 40 = .ok (.iadd, 1) := by decide +kernel
theorem d_U_exponentFrom_41 : decode b_U_exponentFrom 41 = .ok (.goto 6, 3) := by decide +kernel
theorem d_U_exponentFrom_44 : decode b_U_exponentFrom 44 = .ok (.iload_n 1, 1) := by decide +kernel
theorem d_U_exponentFrom_45 : decode b_U_exponentFrom 45 = .ok (.iconst 1, 1) := by decide +kernel
theorem d_U_exponentFrom_46 : decode b_U_exponentFrom 46 = .ok (.iadd, 1) := by decide +kernel
theorem d_U_exponentFrom_47 : decode b_U_exponentFrom 47 = .ok (.istore_n 2, 1) := by decide +kernel
theorem d_U_exponentFrom_48 : decode b_U_exponentFrom 48 = .ok (.iload_n 2, 1) := by decide +kernel
theorem d_U_exponentFrom_49 : decode b_U_exponentFrom 49 = .ok (.aload_n 0, 1) := by decide +kernel
theorem d_U_exponentFrom_50 : decode b_U_exponentFrom 50 = .ok (.getfield 15, 3) := by decide +kernel
theorem d_U_exponentFrom_53 : decode b_U_exponentFrom 53 = .ok (.if_icmp .ge 13, 3) := by decide +kernel
theorem d_U_exponentFrom_56 : decode b_U_exponentFrom 56 = .ok (.aload_n 0, 1) := by decide +kernel
theorem d_U_exponentFrom_57 : decode b_U_exponentFrom 57 = .ok (.getfield 15, 3) := by decide +kernel
theorem d_U_exponentFrom_60 : decode b_U_exponentFrom 60 = .ok (.iload_n 2, 1) := by decide +kernel
theorem d_U_exponentFrom_61 : decode b_U_exponentFrom 61 = .ok (.isub, 1) := by decide +kernel
theorem d_U_exponentFrom_62 : decode b_U_exponentFrom 62 = .ok (.iconst 3, 1) := by decide +kernel
theorem d_U_exponentFrom_63 : decode b_U_exponentFrom 63 = .ok (.if_icmp .le 7, 3) := by decide +kernel
theorem d_U_exponentFrom_66 : decode b_U_exponentFrom 66 = .ok (.sipush 1000, 3) := by decide +kernel
theorem d_U_exponentFrom_69 : decode b_U_exponentFrom 69 = .ok (.ireturn, 1) := by decide +kernel
theorem d_U_exponentFrom_70 : decode b_U_exponentFrom 70 = .ok (.iconst 0, 1) := by decide +kernel
theorem d_U_exponentFrom_71 : decode b_U_exponentFrom 71 = .ok (.istore_n 3, 1) := by decide +kernel
theorem d_U_exponentFrom_72 : decode b_U_exponentFrom 72 = .ok (.iload_n 2, 1) := by decide +kernel
theorem d_U_exponentFrom_73 : decode b_U_exponentFrom 73 = .ok (.istore 4, 2) := by decide +kernel
theorem d_U_exponentFrom_75 : decode b_U_exponentFrom 75 = .ok (.iload 4, 2) := by decide +kernel
theorem d_U_exponentFrom_77 : decode b_U_exponentFrom 77 = .ok (.aload_n 0, 1) := by decide +kernel
theorem d_U_exponentFrom_78 : decode b_U_exponentFrom 78 = .ok (.getfield 15, 3) := by decide +kernel
theorem d_U_exponentFrom_81 : decode b_U_exponentFrom 81 = .ok (.if_icmp .ge 38, 3) := by decide +kernel
theorem d_U_exponentFrom_84 : decode b_U_exponentFrom 84 = .ok (.aload_n 0, 1) := by decide +kernel
theorem d_U_exponentFrom_85 : decode b_U_exponentFrom 85 = .ok (.iload 4, 2) := by decide +kernel
theorem d_U_exponentFrom_87 : decode b_U_exponentFrom 87 = .ok (.invokevirtual 109, 3) := by decide +kernel
theorem d_U_exponentFrom_90 : decode b_U_exponentFrom 90 = .ok (.ifCond .ne 7, 3) := by decide +kernel
theorem d_U_exponentFrom_93 : decode b_U_exponentFrom 93 = .ok (.sipush 1000, 3) := by decide +kernel
theorem d_U_exponentFrom_96 : decode b_U_exponentFrom 96 = .ok (.ireturn, 1) := by decide +kernel
theorem d_U_exponentFrom_97 : decode b_U_exponentFrom 97 = .ok (.iload_n 3, 1) := by decide +kernel
theorem d_U_exponentFrom_98 : decode b_U_exponentFrom 98 = .ok (.bipush 10, 2) := by decide +kernel
theorem d_U_exponentFrom_100 : decode b_U_exponentFrom 100 = .ok (.imul, 1) := by decide +kernel
theorem d_U_exponentFrom_101 : decode b_U_exponentFrom 101 = .ok (.aload_n 0, 1) := by decide +kernel
theorem d_U_exponentFrom_102 : decode b_U_exponentFrom 102 = .ok (.getfield 11, 3) := by decide +kernel
theorem d_U_exponentFrom_105 : decode b_U_exponentFrom 105 = .ok (.iload 4, 2) := by decide +kernel
theorem d_U_exponentFrom_107 : decode b_U_exponentFrom 107 = .ok (.caload, 1) := by decide +kernel
theorem d_U_exponentFrom_108 : decode b_U_exponentFrom 108 = .ok (.iadd, 1) := by decide +kernel
theorem d_U_exponentFrom_109 : decode b_U_exponentFrom 109 = .ok (.bipush 48, 2) := by decide +kernel
theorem d_U_exponentFrom_111 : decode b_U_exponentFrom 111 = .ok (.isub, 1) := by decide +kernel
theorem d_U_exponentFrom_112 : decode b_U_exponentFrom 112 = .ok (.istore_n 3, 1) := by decide +kernel
theorem d_U_exponentFrom_113 : decode b_U_exponentFrom 113 = .ok (.iinc 4 1, 3) := by decide +kernel
theorem d_U_exponentFrom_116 : decode b_U_exponentFrom 116 = .ok (.goto (-41), 3) := by decide +kernel
theorem d_U_exponentFrom_119 : decode b_U_exponentFrom 119 = .ok (.aload_n 0, 1) := by decide +kernel
theorem d_U_exponentFrom_120 : decode b_U_exponentFrom 120 = .ok (.getfield 11, 3) := by decide +kernel
theorem d_U_exponentFrom_123 : decode b_U_exponentFrom 123 = .ok (.iload_n 1, 1) := by decide +kernel
theorem d_U_exponentFrom_124 : decode b_U_exponentFrom 124 = .ok (.iconst 1, 1) := by decide +kernel
theorem d_U_exponentFrom_125 : decode b_U_exponentFrom 125 = .ok (.iadd, 1) := by decide +kernel
theorem d_U_exponentFrom_126 : decode b_U_exponentFrom 126 = .ok (.caload, 1) := by decide +kernel
theorem d_U_exponentFrom_127 : decode b_U_exponentFrom 127 = .ok (.bipush 45, 2) := by decide +kernel
theorem d_U_exponentFrom_129 : decode b_U_exponentFrom 129 = .ok (.if_icmp .ne 8, 3) := by decide +kernel
theorem d_U_exponentFrom_132 : decode b_U_exponentFrom 132 = .ok (.iload_n 3, 1) := by decide +kernel
theorem d_U_exponentFrom_133 : decode b_U_exponentFrom 133 = .ok (.ineg, 1) := by decide +kernel
theorem d_U_exponentFrom_134 : decode b_U_exponentFrom 134 = .ok (.goto 4, 3) := by decide +kernel
theorem d_U_exponentFrom_137 : decode b_U_exponentFrom 137 = .ok (.iload_n 3, 1) := by decide +kernel
theorem d_U_exponentFrom_138 : decode b_U_exponentFrom 138 = .ok (.ireturn, 1) := by decide +kernel
theorem d_U_isWordFrom_0 : decode b_U_isWordFrom 0 = .ok (.aload_n 0, 1) := by decide +kernel
theorem d_U_isWordFrom_1 : decode b_U_isWordFrom 1 = .ok (.getfield 15, 3) := by decide +kernel
theorem d_U_isWordFrom_4 : decode b_U_isWordFrom 4 = .ok (.iload_n 1, 1) := by decide +kernel
theorem d_U_isWordFrom_5 : decode b_U_isWordFrom 5 = .ok (.isub, 1) := by decide +kernel
theorem d_U_isWordFrom_6 : decode b_U_isWordFrom 6 = .ok (.aload_n 2, 1) := by decide +kernel
theorem d_U_isWordFrom_7 : decode b_U_isWordFrom 7 = .ok (.invokevirtual 116, 3) := by decide +kernel
theorem d_U_isWordFrom_10 : decode b_U_isWordFrom 10 = .ok (.if_icmp .eq 5, 3) := by decide +kernel
theorem d_U_isWordFrom_13 : decode b_U_isWordFrom 13 = .ok (.iconst 0, 1) := by decide +kernel
theorem d_U_isWordFrom_14 : decode b_U_isWordFrom 14 = .ok (.ireturn, 1) := by decide +kernel
theorem d_U_isWordFrom_15 : decode b_U_isWordFrom 15 = .ok (.iconst 0, 1) := by decide +kernel
theorem d_U_isWordFrom_16 : decode b_U_isWordFrom 16 = .ok (.istore_n 3, 1) := by decide +kernel
theorem d_U_isWordFrom_17 : decode b_U_isWordFrom 17 = .ok (.iload_n 3, 1) := by decide +kernel
theorem d_U_isWordFrom_18 : decode b_U_isWordFrom 18 = .ok (.aload_n 2, 1) := by decide +kernel
theorem d_U_isWordFrom_19 : decode b_U_isWordFrom 19 = .ok (.invokevirtual 116, 3) := by decide +kernel
theorem d_U_isWordFrom_22 : decode b_U_isWordFrom 22 = .ok (.if_icmp .ge 30, 3) := by decide +kernel
theorem d_U_isWordFrom_25 : decode b_U_isWordFrom 25 = .ok (.aload_n 0, 1) := by decide +kernel
theorem d_U_isWordFrom_26 : decode b_U_isWordFrom 26 = .ok (.getfield 11, 3) := by decide +kernel
theorem d_U_isWordFrom_29 : decode b_U_isWordFrom 29 = .ok (.iload_n 1, 1) := by decide +kernel
theorem d_U_isWordFrom_30 : decode b_U_isWordFrom 30 = .ok (.iload_n 3, 1) := by decide +kernel
theorem d_U_isWordFrom_31 : decode b_U_isWordFrom 31 = .ok (.iadd, 1) := by decide +kernel
theorem d_U_isWordFrom_32 : decode b_U_isWordFrom 32 = .ok (.caload, 1) := by decide +kernel
theorem d_U_isWordFrom_33 : decode b_U_isWordFrom 33 = .ok (.invokestatic 112, 3) := by decide +kernel
theorem d_U_isWordFrom_36 : decode b_U_isWordFrom 36 = .ok (.aload_n 2, 1) := by decide +kernel
theorem d_U_isWordFrom_37 : decode b_U_isWordFrom 37 = .ok (.iload_n 3, 1) := by decide +kernel
theorem d_U_isWordFrom_38 : decode b_U_isWordFrom 38 = .ok (.invokevirtual 122, 3) := by decide +kernel
theorem d_U_isWordFrom_41 : decode b_U_isWordFrom 41 = .ok (.if_icmp .eq 5, 3) := by decide +kernel
theorem d_U_isWordFrom_44 : decode b_U_isWordFrom 44 = .ok (.iconst 0, 1) := by decide +kernel
theorem d_U_isWordFrom_45 : decode b_U_isWordFrom 45 = .ok (.ireturn, 1) := by decide +kernel
theorem d_U_isWordFrom_46 : decode b_U_isWordFrom 46 = .ok (.iinc 3 1, 3) := by decide +kernel
theorem d_U_isWordFrom_49 : decode b_U_isWordFrom 49 = .ok (.goto (-32), 3) := by decide +kernel
theorem d_U_isWordFrom_52 : decode b_U_isWordFrom 52 = .ok (.iconst 1, 1) := by decide +kernel
theorem d_U_isWordFrom_53 : decode b_U_isWordFrom 53 = .ok (.ireturn, 1) := by decide +kernel
theorem d_U_isSignAt_0 : decode b_U_isSignAt 0 = .ok (.iload_n 1, 1) := by decide +kernel
theorem d_U_isSignAt_1 : decode b_U_isSignAt 1 = .ok (.aload_n 0, 1) := by decide +kernel
theorem d_U_isSignAt_2 : decode b_U_isSignAt 2 = .ok (.getfield 15, 3) := by decide +kernel
theorem d_U_isSignAt_5 : decode b_U_isSignAt 5 = .ok (.if_icmp .ge 29, 3) := by decide +kernel
theorem d_U_isSignAt_8 : decode b_U_isSignAt 8 = .ok (.aload_n 0, 1) := by decide +kernel
theorem d_U_isSignAt_9 : decode b_U_isSignAt 9 = .ok (.getfield 11, 3) := by decide +kernel
theorem d_U_isSignAt_12 : decode b_U_isSignAt 12 = .ok (.iload_n 1, 1) := by decide +kernel
theorem d_U_isSignAt_13 : decode b_U_isSignAt 13 = .ok (.caload, 1) := by decide +kernel
theorem d_U_isSignAt_14 : decode b_U_isSignAt 14 = .ok (.bipush 43, 2) := by decide +kernel
theorem d_U_isSignAt_16 : decode b_U_isSignAt 16 = .ok (.if_icmp .eq 14, 3) := by decide +kernel
theorem d_U_isSignAt_19 : decode b_U_isSignAt 19 = .ok (.aload_n 0, 1) := by decide +kernel
theorem d_U_isSignAt_20 : decode b_U_isSignAt 20 = .ok (.getfield 11, 3) := by decide +kernel
theorem d_U_isSignAt_23 : decode b_U_isSignAt 23 = .ok (.iload_n 1, 1) := by decide +kernel
theorem d_U_isSignAt_24 : decode b_U_isSignAt 24 = .ok (.caload, 1) := by decide +kernel
theorem d_U_isSignAt_25 : decode b_U_isSignAt 25 = .ok (.bipush 45, 2) := by decide +kernel
theorem d_U_isSignAt_27 : decode b_U_isSignAt 27 = .ok (.if_icmp .ne 7, 3) := by decide +kernel
theorem d_U_isSignAt_30 : decode b_U_isSignAt 30 = .ok (.iconst 1, 1) := by decide +kernel
theorem d_U_isSignAt_31 : decode b_U_isSignAt 31 = .ok (.goto 4, 3) := by decide +kernel
theorem d_U_isSignAt_34 : decode b_U_isSignAt 34 = .ok (.iconst 0, 1) := by decide +kernel
theorem d_U_isSignAt_35 : decode b_U_isSignAt 35 = .ok (.ireturn, 1) := by decide +kernel
theorem d_U_isDigitAt_0 : decode b_U_isDigitAt 0 = .ok (.iload_n 1, 1) := by decide +kernel
theorem d_U_isDigitAt_1 : decode b_U_isDigitAt 1 = .ok (.aload_n 0, 1) := by decide +kernel
theorem d_U_isDigitAt_2 : decode b_U_isDigitAt 2 = .ok (.getfield 15, 3) := by decide +kernel
theorem d_U_isDigitAt_5 : decode b_U_isDigitAt 5 = .ok (.if_icmp .ge 29, 3) := by decide +kernel
theorem d_U_isDigitAt_8 : decode b_U_isDigitAt 8 = .ok (.aload_n 0, 1) := by decide +kernel
theorem d_U_isDigitAt_9 : decode b_U_isDigitAt 9 = .ok (.getfield 11, 3) := by decide +kernel
theorem d_U_isDigitAt_12 : decode b_U_isDigitAt 12 = .ok (.iload_n 1, 1) := by decide +kernel
theorem d_U_isDigitAt_13 : decode b_U_isDigitAt 13 = .ok (.caload, 1) := by decide +kernel
theorem d_U_isDigitAt_14 : decode b_U_isDigitAt 14 = .ok (.bipush 48, 2) := by decide +kernel
theorem d_U_isDigitAt_16 : decode b_U_isDigitAt 16 = .ok (.if_icmp .lt 18, 3) := by decide +kernel
theorem d_U_isDigitAt_19 : decode b_U_isDigitAt 19 = .ok (.aload_n 0, 1) := by decide +kernel
theorem d_U_isDigitAt_20 : decode b_U_isDigitAt 20 = .ok (.getfield 11, 3) := by decide +kernel
theorem d_U_isDigitAt_23 : decode b_U_isDigitAt 23 = .ok (.iload_n 1, 1) := by decide +kernel
theorem d_U_isDigitAt_24 : decode b_U_isDigitAt 24 = .ok (.caload, 1) := by decide +kernel
theorem d_U_isDigitAt_25 : decode b_U_isDigitAt 25 = .ok (.bipush 57, 2) := by decide +kernel
theorem d_U_isDigitAt_27 : decode b_U_isDigitAt 27 = .ok (.if_icmp .gt 7, 3) := by decide +kernel
theorem d_U_isDigitAt_30 : decode b_U_isDigitAt 30 = .ok (.iconst 1, 1) := by decide +kernel
theorem d_U_isDigitAt_31 : decode b_U_isDigitAt 31 = .ok (.goto 4, 3) := by decide +kernel
theorem d_U_isDigitAt_34 : decode b_U_isDigitAt 34 = .ok (.iconst 0, 1) := by decide +kernel
theorem d_U_isDigitAt_35 : decode b_U_isDigitAt 35 = .ok (.ireturn, 1) := by decide +kernel
theorem d_U_lower_0 : decode b_U_lower 0 = .ok (.iload_n 0, 1) := by decide +kernel
theorem d_U_lower_1 : decode b_U_lower 1 = .ok (.bipush 65, 2) := by decide +kernel
theorem d_U_lower_3 : decode b_U_lower 3 = .ok (.if_icmp .lt 19, 3) := by decide +kernel
theorem d_U_lower_6 : decode b_U_lower 6 = .ok (.iload_n 0, 1) := by decide +kernel
theorem d_U_lower_7 : decode b_U_lower 7 = .ok (.bipush 90, 2) := by decide +kernel
theorem d_U_lower_9 : decode b_U_lower 9 = .ok (.if_icmp .gt 13, 3) := by decide +kernel
theorem d_U_lower_12 : decode b_U_lower 12 = .ok (.iload_n 0, 1) := by decide +kernel
theorem d_U_lower_13 : decode b_U_lower 13 = .ok (.bipush 65, 2) := by decide +kernel
theorem d_U_lower_15 : decode b_U_lower 15 = .ok (.isub, 1) := by decide +kernel
theorem d_U_lower_16 : decode b_U_lower 16 = .ok (.bipush 97, 2) := by decide +kernel
theorem d_U_lower_18 : decode b_U_lower 18 = .ok (.iadd, 1) := by decide +kernel
theorem d_U_lower_19 : decode b_U_lower 19 = .ok (.goto 4, 3) := by decide +kernel
theorem d_U_lower_22 : decode b_U_lower 22 = .ok (.iload_n 0, 1) := by decide +kernel
theorem d_U_lower_23 : decode b_U_lower 23 = .ok (.ireturn, 1) := by decide +kernel
theorem d_JS_charAt_0 : decode b_JS_charAt 0 = .ok (.aload_n 0, 1) := by decide +kernel
theorem d_JS_charAt_1 : decode b_JS_charAt 1 = .ok (.invokevirtual 492, 3) := by decide +kernel
theorem d_JS_charAt_4 : decode b_JS_charAt 4 = .ok (.ifCond .eq 12, 3) := by decide +kernel
theorem d_JS_charAt_7 : decode b_JS_charAt 7 = .ok (.aload_n 0, 1) := by decide +kernel
theorem d_JS_charAt_8 : decode b_JS_charAt 8 = .ok (.getfield 9, 3) := by decide +kernel
theorem d_JS_charAt_11 : decode b_JS_charAt 11 = .ok (.iload_n 1, 1) := by decide +kernel
theorem d_JS_charAt_12 : decode b_JS_charAt 12 = .ok (.invokestatic 495, 3) := by decide +kernel
theorem d_JS_charAt_15 : decode b_JS_charAt 15 = .ok (.ireturn, 1) := by decide +kernel
theorem d_JS_charAt_16 : decode b_JS_charAt 16 = .ok (.aload_n 0, 1) := by decide +kernel
theorem d_JS_charAt_17 : decode b_JS_charAt 17 = .ok (.getfield 9, 3) := by decide +kernel
theorem d_JS_charAt_20 : decode b_JS_charAt 20 = .ok (.iload_n 1, 1) := by decide +kernel
theorem d_JS_charAt_21 : decode b_JS_charAt 21 = .ok (.invokestatic 498, 3) := by decide +kernel
theorem d_JS_charAt_24 : decode b_JS_charAt 24 = .ok (.ireturn, 1) := by decide +kernel
theorem d_JS_checkIndex_0 : decode b_JS_checkIndex 0 = .ok (.iload_n 0, 1) := by decide +kernel
theorem d_JS_checkIndex_1 : decode b_JS_checkIndex 1 = .ok (.iload_n 1, 1) := by decide +kernel
theorem d_JS_checkIndex_2 : decode b_JS_checkIndex 2 = .ok (.getstatic 1053, 3) := by decide +kernel
theorem d_JS_checkIndex_5 : decode b_JS_checkIndex 5 = .ok (.invokestatic 1059, 3) := by decide +kernel
theorem d_JS_checkIndex_8 : decode b_JS_checkIndex 8 = .ok (.pop, 1) := by decide +kernel
theorem d_JS_checkIndex_9 : decode b_JS_checkIndex 9 = .ok (.return_, 1) := by decide +kernel
theorem d_JS_coder_0 : decode b_JS_coder 0 = .ok (.getstatic 38, 3) := by decide +kernel
theorem d_JS_coder_3 : decode b_JS_coder 3 = .ok (.ifCond .eq 10, 3) := by decide +kernel
theorem d_JS_coder_6 : decode b_JS_coder 6 = .ok (.aload_n 0, 1) := by decide +kernel
theorem d_JS_coder_7 : decode b_JS_coder 7 = .ok (.getfield 15, 3) := by decide +kernel
theorem d_JS_coder_10 : decode b_JS_coder 10 = .ok (.goto 4, 3) := by decide +kernel
theorem d_JS_coder_13 : decode b_JS_coder 13 = .ok (.iconst 1, 1) := by decide +kernel
theorem d_JS_coder_14 : decode b_JS_coder 14 = .ok (.ireturn, 1) := by decide +kernel
theorem d_JS_isLatin1_0 : decode b_JS_isLatin1 0 = .ok (.getstatic 38, 3) := by decide +kernel
theorem d_JS_isLatin1_3 : decode b_JS_isLatin1 3 = .ok (.ifCond .eq 14, 3) := by decide +kernel
theorem d_JS_isLatin1_6 : decode b_JS_isLatin1 6 = .ok (.aload_n 0, 1) := by decide +kernel
theorem d_JS_isLatin1_7 : decode b_JS_isLatin1 7 = .ok (.getfield 15, 3) := by decide +kernel
theorem d_JS_isLatin1_10 : decode b_JS_isLatin1 10 = .ok (.ifCond .ne 7, 3) := by decide +kernel
theorem d_JS_isLatin1_13 : decode b_JS_isLatin1 13 = .ok (.iconst 1, 1) := by decide +kernel
theorem d_JS_isLatin1_14 : decode b_JS_isLatin1 14 = .ok (.goto 4, 3) := by decide +kernel
theorem d_JS_isLatin1_17 : decode b_JS_isLatin1 17 = .ok (.iconst 0, 1) := by decide +kernel
theorem d_JS_isLatin1_18 : decode b_JS_isLatin1 18 = .ok (.ireturn, 1) := by decide +kernel
theorem d_JS_length_0 : decode b_JS_length 0 = .ok (.aload_n 0, 1) := by decide +kernel
theorem d_JS_length_1 : decode b_JS_length 1 = .ok (.getfield 9, 3) := by decide +kernel
theorem d_JS_length_4 : decode b_JS_length 4 = .ok (.arraylength, 1) := by decide +kernel
theorem d_JS_length_5 : decode b_JS_length 5 = .ok (.aload_n 0, 1) := by decide +kernel
theorem d_JS_length_6 : decode b_JS_length 6 = .ok (.invokevirtual 335, 3) := by decide +kernel
theorem d_JS_length_9 : decode b_JS_length 9 = .ok (.ishr, 1) := by decide +kernel
theorem d_JS_length_10 : decode b_JS_length 10 = .ok (.ireturn, 1) := by decide +kernel
theorem d_JL_charAt_0 : decode b_JL_charAt 0 = .ok (.iload_n 1, 1) := by decide +kernel
theorem d_JL_charAt_1 : decode b_JL_charAt 1 = .ok (.aload_n 0, 1) := by decide +kernel
theorem d_JL_charAt_2 : decode b_JL_charAt 2 = .ok (.arraylength, 1) := by decide +kernel
theorem d_JL_charAt_3 : decode b_JL_charAt 3 = .ok (.invokestatic 9, 3) := by decide +kernel
theorem d_JL_charAt_6 : decode b_JL_charAt 6 = .ok (.aload_n 0, 1) := by decide +kernel
theorem d_JL_charAt_7 : decode b_JL_charAt 7 = .ok (.iload_n 1, 1) := by decide +kernel
theorem d_JL_charAt_8 : decode b_JL_charAt 8 = .ok (.baload, 1) := by decide +kernel
theorem d_JL_charAt_9 : decode b_JL_charAt 9 = .ok (.sipush 255, 3) := by decide +kernel
theorem d_JL_charAt_12 : decode b_JL_charAt 12 = .ok (.iand, 1) := by decide +kernel
theorem d_JL_charAt_13 : decode b_JL_charAt 13 = .ok (.i2c, 1) := by decide +kernel
theorem d_JL_charAt_14 : decode b_JL_charAt 14 = .ok (.ireturn, 1) := by decide +kernel
theorem d_JP_checkIndex_0 : decode b_JP_checkIndex 0 = .ok (.iload_n 0, 1) := by decide +kernel
theorem d_JP_checkIndex_1 : decode b_JP_checkIndex 1 = .ok (.ifCond .lt 8, 3) := by decide +kernel
theorem d_JP_checkIndex_4 : decode b_JP_checkIndex 4 = .ok (.iload_n 0, 1) := by decide +kernel
theorem d_JP_checkIndex_5 : decode b_JP_checkIndex 5 = .ok (.iload_n 1, 1) := by decide +kernel
theorem d_JP_checkIndex_6 : decode b_JP_checkIndex 6 = .ok (.if_icmp .lt 10, 3) := by decide +kernel
theorem d_JP_checkIndex_9 : decode b_JP_checkIndex 9 = .ok (.aload_n 2, 1) := by decide +kernel
theorem d_JP_checkIndex_10 : decode b_JP_checkIndex 10 = .ok (.iload_n 0, 1) := by decide +kernel
theorem d_JP_checkIndex_11 : decode b_JP_checkIndex 11 = .ok (.iload_n 1, 1) := by decide +kernel
theorem d_JP_checkIndex_12 : decode b_JP_checkIndex 12 = .ok (.invokestatic 95, 3) := by decide +kernel
theorem d_JP_checkIndex_15 : decode b_JP_checkIndex 15 = .ok (.athrow, 1) := by decide +kernel
theorem d_JP_checkIndex_16 : decode b_JP_checkIndex 16 = .ok (.iload_n 0, 1) := by decide +kernel
theorem d_JP_checkIndex_17 : decode b_JP_checkIndex 17 = .ok (.ireturn, 1) := by decide +kernel

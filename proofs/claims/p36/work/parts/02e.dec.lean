theorem dL_isSo_983 : decode cL_isSo 983 = .ok (.imul, 1) := by decide +kernel
theorem dL_isSo_984 : decode cL_isSo 984 = .ok (.if_icmp .ne 41, 3) := by decide +kernel
theorem dL_isSo_987 : decode cL_isSo 987 = .ok (.aload_n 0, 1) := by decide +kernel
theorem dL_isSo_988 : decode cL_isSo 988 = .ok (.iload 14, 2) := by decide +kernel
theorem dL_isSo_990 : decode cL_isSo 990 = .ok (.aload 5, 2) := by decide +kernel
theorem dL_isSo_992 : decode cL_isSo 992 = .ok (.iload 16, 2) := by decide +kernel
theorem dL_isSo_994 : decode cL_isSo 994 = .ok (.invokestatic 105, 3) := by decide +kernel
theorem dL_isSo_997 : decode cL_isSo 997 = .ok (.iadd, 1) := by decide +kernel
theorem dL_isSo_998 : decode cL_isSo 998 = .ok (.iconst 1, 1) := by decide +kernel
theorem dL_isSo_999 : decode cL_isSo 999 = .ok (.isub, 1) := by decide +kernel
theorem dL_isSo_1000 : decode cL_isSo 1000 = .ok (.invokevirtual 165, 3) := by decide +kernel
theorem dL_isSo_1003 : decode cL_isSo 1003 = .ok (.bipush 100, 2) := by decide +kernel
theorem dL_isSo_1005 : decode cL_isSo 1005 = .ok (.iload 16, 2) := by decide +kernel
theorem dL_isSo_1007 : decode cL_isSo 1007 = .ok (.imul, 1) := by decide +kernel
theorem dL_isSo_1008 : decode cL_isSo 1008 = .ok (.aload 5, 2) := by decide +kernel
theorem dL_isSo_1010 : decode cL_isSo 1010 = .ok (.iload 16, 2) := by decide +kernel
theorem dL_isSo_1012 : decode cL_isSo 1012 = .ok (.invokestatic 105, 3) := by decide +kernel
theorem dL_isSo_1015 : decode cL_isSo 1015 = .ok (.iadd, 1) := by decide +kernel
theorem dL_isSo_1016 : decode cL_isSo 1016 = .ok (.iconst 1, 1) := by decide +kernel
theorem dL_isSo_1017 : decode cL_isSo 1017 = .ok (.isub, 1) := by decide +kernel
theorem dL_isSo_1018 : decode cL_isSo 1018 = .ok (.if_icmp .ne 7, 3) := by decide +kernel
theorem dL_isSo_1021 : decode cL_isSo 1021 = .ok (.iconst 1, 1) := by decide +kernel
theorem dL_isSo_1022 : decode cL_isSo 1022 = .ok (.goto 4, 3) := by decide +kernel
theorem dL_isSo_1025 : decode cL_isSo 1025 = .ok (.iconst 0, 1) := by decide +kernel
theorem dL_isSo_1026 : decode cL_isSo 1026 = .ok (.istore 13, 2) := by decide +kernel
theorem dL_isSo_1028 : decode cL_isSo 1028 = .ok (.iload 14, 2) := by decide +kernel
theorem dL_isSo_1030 : decode cL_isSo 1030 = .ok (.aload 5, 2) := by decide +kernel
theorem dL_isSo_1032 : decode cL_isSo 1032 = .ok (.iload 16, 2) := by decide +kernel
theorem dL_isSo_1034 : decode cL_isSo 1034 = .ok (.invokestatic 105, 3) := by decide +kernel
theorem dL_isSo_1037 : decode cL_isSo 1037 = .ok (.iadd, 1) := by decide +kernel
theorem dL_isSo_1038 : decode cL_isSo 1038 = .ok (.istore 14, 2) := by decide +kernel
theorem dL_isSo_1040 : decode cL_isSo 1040 = .ok (.iload 15, 2) := by decide +kernel
theorem dL_isSo_1042 : decode cL_isSo 1042 = .ok (.bipush 10, 2) := by decide +kernel
theorem dL_isSo_1044 : decode cL_isSo 1044 = .ok (.idiv, 1) := by decide +kernel
theorem dL_isSo_1045 : decode cL_isSo 1045 = .ok (.istore 15, 2) := by decide +kernel
theorem dL_isSo_1047 : decode cL_isSo 1047 = .ok (.goto (-93), 3) := by decide +kernel
theorem dL_isSo_1050 : decode cL_isSo 1050 = .ok (.iload 13, 2) := by decide +kernel
theorem dL_isSo_1052 : decode cL_isSo 1052 = .ok (.ifCond .eq 17, 3) := by decide +kernel
theorem dL_isSo_1055 : decode cL_isSo 1055 = .ok (.aload_n 0, 1) := by decide +kernel
theorem dL_isSo_1056 : decode cL_isSo 1056 = .ok (.iload 14, 2) := by decide +kernel
theorem dL_isSo_1058 : decode cL_isSo 1058 = .ok (.invokevirtual 165, 3) := by decide +kernel
theorem dL_isSo_1061 : decode cL_isSo 1061 = .ok (.iconst (-1), 1) := by decide +kernel
theorem dL_isSo_1062 : decode cL_isSo 1062 = .ok (.if_icmp .ne 7, 3) := by decide +kernel
theorem dL_isSo_1065 : decode cL_isSo 1065 = .ok (.iconst 1, 1) := by decide +kernel
theorem dL_isSo_1066 : decode cL_isSo 1066 = .ok (.goto 4, 3) := by decide +kernel
theorem dL_isSo_1069 : decode cL_isSo 1069 = .ok (.iconst 0, 1) := by decide +kernel
theorem dL_isSo_1070 : decode cL_isSo 1070 = .ok (.ireturn, 1) := by decide +kernel
theorem dL_inFilm_0 : decode cL_inFilm 0 = .ok (.iconst 0, 1) := by decide +kernel
theorem dL_inFilm_1 : decode cL_inFilm 1 = .ok (.istore_n 2, 1) := by decide +kernel
theorem dL_inFilm_2 : decode cL_inFilm 2 = .ok (.aload_n 0, 1) := by decide +kernel
theorem dL_inFilm_3 : decode cL_inFilm 3 = .ok (.bipush 6, 2) := by decide +kernel
theorem dL_inFilm_5 : decode cL_inFilm 5 = .ok (.iaload, 1) := by decide +kernel
theorem dL_inFilm_6 : decode cL_inFilm 6 = .ok (.istore_n 3, 1) := by decide +kernel
theorem dL_inFilm_7 : decode cL_inFilm 7 = .ok (.iload_n 3, 1) := by decide +kernel
theorem dL_inFilm_8 : decode cL_inFilm 8 = .ok (.ifCond .le 24, 3) := by decide +kernel
theorem dL_inFilm_11 : decode cL_inFilm 11 = .ok (.iload_n 3, 1) := by decide +kernel
theorem dL_inFilm_12 : decode cL_inFilm 12 = .ok (.bipush 10, 2) := by decide +kernel
theorem dL_inFilm_14 : decode cL_inFilm 14 = .ok (.irem, 1) := by decide +kernel
theorem dL_inFilm_15 : decode cL_inFilm 15 = .ok (.iload_n 1, 1) := by decide +kernel
theorem dL_inFilm_16 : decode cL_inFilm 16 = .ok (.iconst 1, 1) := by decide +kernel
theorem dL_inFilm_17 : decode cL_inFilm 17 = .ok (.iadd, 1) := by decide +kernel
theorem dL_inFilm_18 : decode cL_inFilm 18 = .ok (.if_icmp .eq 14, 3) := by decide +kernel
theorem dL_inFilm_21 : decode cL_inFilm 21 = .ok (.iinc 2 1, 3) := by decide +kernel
theorem dL_inFilm_24 : decode cL_inFilm 24 = .ok (.iload_n 3, 1) := by decide +kernel
theorem dL_inFilm_25 : decode cL_inFilm 25 = .ok (.bipush 10, 2) := by decide +kernel
theorem dL_inFilm_27 : decode cL_inFilm 27 = .ok (.idiv, 1) := by decide +kernel
theorem dL_inFilm_28 : decode cL_inFilm 28 = .ok (.istore_n 3, 1) := by decide +kernel
theorem dL_inFilm_29 : decode cL_inFilm 29 = .ok (.goto (-22), 3) := by decide +kernel
theorem dL_inFilm_32 : decode cL_inFilm 32 = .ok (.aload_n 0, 1) := by decide +kernel
theorem dL_inFilm_33 : decode cL_inFilm 33 = .ok (.bipush 6, 2) := by decide +kernel
theorem dL_inFilm_35 : decode cL_inFilm 35 = .ok (.iaload, 1) := by decide +kernel
theorem dL_inFilm_36 : decode cL_inFilm 36 = .ok (.istore_n 3, 1) := by decide +kernel
theorem dL_inFilm_37 : decode cL_inFilm 37 = .ok (.iconst 0, 1) := by decide +kernel
theorem dL_inFilm_38 : decode cL_inFilm 38 = .ok (.istore 4, 2) := by decide +kernel
theorem dL_inFilm_40 : decode cL_inFilm 40 = .ok (.iload 4, 2) := by decide +kernel
theorem dL_inFilm_42 : decode cL_inFilm 42 = .ok (.iload_n 2, 1) := by decide +kernel
theorem dL_inFilm_43 : decode cL_inFilm 43 = .ok (.if_icmp .ge 14, 3) := by decide +kernel
theorem dL_inFilm_46 : decode cL_inFilm 46 = .ok (.iload_n 3, 1) := by decide +kernel
theorem dL_inFilm_47 : decode cL_inFilm 47 = .ok (.bipush 10, 2) := by decide +kernel
theorem dL_inFilm_49 : decode cL_inFilm 49 = .ok (.idiv, 1) := by decide +kernel
theorem dL_inFilm_50 : decode cL_inFilm 50 = .ok (.istore_n 3, 1) := by decide +kernel
theorem dL_inFilm_51 : decode cL_inFilm 51 = .ok (.iinc 4 1, 3) := by decide +kernel
theorem dL_inFilm_54 : decode cL_inFilm 54 = .ok (.goto (-14), 3) := by decide +kernel
theorem dL_inFilm_57 : decode cL_inFilm 57 = .ok (.iload_n 3, 1) := by decide +kernel
theorem dL_inFilm_58 : decode cL_inFilm 58 = .ok (.ifCond .le 7, 3) := by decide +kernel
theorem dL_inFilm_61 : decode cL_inFilm 61 = .ok (.iload_n 2, 1) := by decide +kernel
theorem dL_inFilm_62 : decode cL_inFilm 62 = .ok (.goto 4, 3) := by decide +kernel
theorem dL_inFilm_65 : decode cL_inFilm 65 = .ok (.iconst (-1), 1) := by decide +kernel
theorem dL_inFilm_66 : decode cL_inFilm 66 = .ok (.ireturn, 1) := by decide +kernel
theorem dL_inAll_0 : decode cL_inAll 0 = .ok (.iconst 0, 1) := by decide +kernel
theorem dL_inAll_1 : decode cL_inAll 1 = .ok (.istore_n 2, 1) := by decide +kernel
theorem dL_inAll_2 : decode cL_inAll 2 = .ok (.aload_n 1, 1) := by decide +kernel
theorem dL_inAll_3 : decode cL_inAll 3 = .ok (.bipush 6, 2) := by decide +kernel
theorem dL_inAll_5 : decode cL_inAll 5 = .ok (.iaload, 1) := by decide +kernel
theorem dL_inAll_6 : decode cL_inAll 6 = .ok (.istore_n 3, 1) := by decide +kernel
theorem dL_inAll_7 : decode cL_inAll 7 = .ok (.iload_n 3, 1) := by decide +kernel
theorem dL_inAll_8 : decode cL_inAll 8 = .ok (.ifCond .le 24, 3) := by decide +kernel
theorem dL_inAll_11 : decode cL_inAll 11 = .ok (.iload_n 2, 1) := by decide +kernel
theorem dL_inAll_12 : decode cL_inAll 12 = .ok (.aload_n 0, 1) := by decide +kernel
theorem dL_inAll_13 : decode cL_inAll 13 = .ok (.iload_n 3, 1) := by decide +kernel
theorem dL_inAll_14 : decode cL_inAll 14 = .ok (.bipush 10, 2) := by decide +kernel
theorem dL_inAll_16 : decode cL_inAll 16 = .ok (.irem, 1) := by decide +kernel
theorem dL_inAll_17 : decode cL_inAll 17 = .ok (.iconst 1, 1) := by decide +kernel
theorem dL_inAll_18 : decode cL_inAll 18 = .ok (.isub, 1) := by decide +kernel
theorem dL_inAll_19 : decode cL_inAll 19 = .ok (.invokestatic 105, 3) := by decide +kernel
theorem dL_inAll_22 : decode cL_inAll 22 = .ok (.iadd, 1) := by decide +kernel
theorem dL_inAll_23 : decode cL_inAll 23 = .ok (.istore_n 2, 1) := by decide +kernel
theorem dL_inAll_24 : decode cL_inAll 24 = .ok (.iload_n 3, 1) := by decide +kernel
theorem dL_inAll_25 : decode cL_inAll 25 = .ok (.bipush 10, 2) := by decide +kernel
theorem dL_inAll_27 : decode cL_inAll 27 = .ok (.idiv, 1) := by decide +kernel
theorem dL_inAll_28 : decode cL_inAll 28 = .ok (.istore_n 3, 1) := by decide +kernel
theorem dL_inAll_29 : decode cL_inAll 29 = .ok (.goto (-22), 3) := by decide +kernel
theorem dL_inAll_32 : decode cL_inAll 32 = .ok (.iload_n 2, 1) := by decide +kernel
theorem dL_inAll_33 : decode cL_inAll 33 = .ok (.ireturn, 1) := by decide +kernel
theorem dL_isTold_0 : decode cL_isTold 0 = .ok (.iload 6, 2) := by decide +kernel
theorem dL_isTold_2 : decode cL_isTold 2 = .ok (.ifCond .ne 114, 3) := by decide +kernel
theorem dL_isTold_5 : decode cL_isTold 5 = .ok (.aload 5, 2) := by decide +kernel
theorem dL_isTold_7 : decode cL_isTold 7 = .ok (.iconst 0, 1) := by decide +kernel
theorem dL_isTold_8 : decode cL_isTold 8 = .ok (.iaload, 1) := by decide +kernel
theorem dL_isTold_9 : decode cL_isTold 9 = .ok (.iconst 2, 1) := by decide +kernel
theorem dL_isTold_10 : decode cL_isTold 10 = .ok (.if_icmp .ge 106, 3) := by decide +kernel
theorem dL_isTold_13 : decode cL_isTold 13 = .ok (.iload 7, 2) := by decide +kernel
theorem dL_isTold_15 : decode cL_isTold 15 = .ok (.bipush 9, 2) := by decide +kernel
theorem dL_isTold_17 : decode cL_isTold 17 = .ok (.irem, 1) := by decide +kernel
theorem dL_isTold_18 : decode cL_isTold 18 = .ok (.ifCond .ne 16, 3) := by decide +kernel
theorem dL_isTold_21 : decode cL_isTold 21 = .ok (.iload 7, 2) := by decide +kernel
theorem dL_isTold_23 : decode cL_isTold 23 = .ok (.bipush 9, 2) := by decide +kernel
theorem dL_isTold_25 : decode cL_isTold 25 = .ok (.idiv, 1) := by decide +kernel
theorem dL_isTold_26 : decode cL_isTold 26 = .ok (.iconst 2, 1) := by decide +kernel
theorem dL_isTold_27 : decode cL_isTold 27 = .ok (.irem, 1) := by decide +kernel
theorem dL_isTold_28 : decode cL_isTold 28 = .ok (.bipush 7, 2) := by decide +kernel
theorem dL_isTold_30 : decode cL_isTold 30 = .ok (.imul, 1) := by decide +kernel
theorem dL_isTold_31 : decode cL_isTold 31 = .ok (.goto 9, 3) := by decide +kernel
theorem dL_isTold_34 : decode cL_isTold 34 = .ok (.iconst 1, 1) := by decide +kernel
theorem dL_isTold_35 : decode cL_isTold 35 = .ok (.iload 7, 2) := by decide +kernel
theorem dL_isTold_37 : decode cL_isTold 37 = .ok (.iconst 3, 1) := by decide +kernel
theorem dL_isTold_38 : decode cL_isTold 38 = .ok (.irem, 1) := by decide +kernel
theorem dL_isTold_39 : decode cL_isTold 39 = .ok (.iadd, 1) := by decide +kernel
theorem dL_isTold_40 : decode cL_isTold 40 = .ok (.istore 9, 2) := by decide +kernel
theorem dL_isTold_42 : decode cL_isTold 42 = .ok (.iload 9, 2) := by decide +kernel
theorem dL_isTold_44 : decode cL_isTold 44 = .ok (.ifCond .le 13, 3) := by decide +kernel
theorem dL_isTold_47 : decode cL_isTold 47 = .ok (.iload 9, 2) := by decide +kernel
theorem dL_isTold_49 : decode cL_isTold 49 = .ok (.iconst 4, 1) := by decide +kernel
theorem dL_isTold_50 : decode cL_isTold 50 = .ok (.if_icmp .ge 7, 3) := by decide +kernel
theorem dL_isTold_53 : decode cL_isTold 53 = .ok (.iconst 1, 1) := by decide +kernel
theorem dL_isTold_54 : decode cL_isTold 54 = .ok (.goto 4, 3) := by decide +kernel
theorem dL_isTold_57 : decode cL_isTold 57 = .ok (.iconst 0, 1) := by decide +kernel
theorem dL_isTold_58 : decode cL_isTold 58 = .ok (.istore 10, 2) := by decide +kernel
theorem dL_isTold_60 : decode cL_isTold 60 = .ok (.iload 10, 2) := by decide +kernel
theorem dL_isTold_62 : decode cL_isTold 62 = .ok (.ifCond .eq 19, 3) := by decide +kernel
theorem dL_isTold_65 : decode cL_isTold 65 = .ok (.aload_n 1, 1) := by decide +kernel
theorem dL_isTold_66 : decode cL_isTold 66 = .ok (.aload 5, 2) := by decide +kernel
theorem dL_isTold_68 : decode cL_isTold 68 = .ok (.iconst 0, 1) := by decide +kernel
theorem dL_isTold_69 : decode cL_isTold 69 = .ok (.iaload, 1) := by decide +kernel
theorem dL_isTold_70 : decode cL_isTold 70 = .ok (.iload 9, 2) := by decide +kernel
theorem dL_isTold_72 : decode cL_isTold 72 = .ok (.iastore, 1) := by decide +kernel
theorem dL_isTold_73 : decode cL_isTold 73 = .ok (.aload 5, 2) := by decide +kernel
theorem dL_isTold_75 : decode cL_isTold 75 = .ok (.iconst 0, 1) := by decide +kernel
theorem dL_isTold_76 : decode cL_isTold 76 = .ok (.dup2, 1) := by decide +kernel
theorem dL_isTold_77 : decode cL_isTold 77 = .ok (.iaload, 1) := by decide +kernel
theorem dL_isTold_78 : decode cL_isTold 78 = .ok (.iconst 1, 1) := by decide +kernel
theorem dL_isTold_79 : decode cL_isTold 79 = .ok (.iadd, 1) := by decide +kernel
theorem dL_isTold_80 : decode cL_isTold 80 = .ok (.iastore, 1) := by decide +kernel
theorem dL_isTold_81 : decode cL_isTold 81 = .ok (.aload_n 0, 1) := by decide +kernel
theorem dL_isTold_82 : decode cL_isTold 82 = .ok (.iconst 0, 1) := by decide +kernel
theorem dL_isTold_83 : decode cL_isTold 83 = .ok (.iload 9, 2) := by decide +kernel
theorem dL_isTold_85 : decode cL_isTold 85 = .ok (.iconst 0, 1) := by decide +kernel
theorem dL_isTold_86 : decode cL_isTold 86 = .ok (.iconst 0, 1) := by decide +kernel
theorem dL_isTold_87 : decode cL_isTold 87 = .ok (.iconst 0, 1) := by decide +kernel
theorem dL_isTold_88 : decode cL_isTold 88 = .ok (.invokestatic 161, 3) := by decide +kernel
theorem dL_isTold_91 : decode cL_isTold 91 = .ok (.iload 10, 2) := by decide +kernel
theorem dL_isTold_93 : decode cL_isTold 93 = .ok (.ifCond .eq 12, 3) := by decide +kernel
theorem dL_isTold_96 : decode cL_isTold 96 = .ok (.aload 5, 2) := by decide +kernel
theorem dL_isTold_98 : decode cL_isTold 98 = .ok (.iconst 0, 1) := by decide +kernel
theorem dL_isTold_99 : decode cL_isTold 99 = .ok (.iaload, 1) := by decide +kernel
theorem dL_isTold_100 : decode cL_isTold 100 = .ok (.iconst 1, 1) := by decide +kernel
theorem dL_isTold_101 : decode cL_isTold 101 = .ok (.isub, 1) := by decide +kernel
theorem dL_isTold_102 : decode cL_isTold 102 = .ok (.goto 5, 3) := by decide +kernel
theorem dL_isTold_105 : decode cL_isTold 105 = .ok (.ldc 87, 2) := by decide +kernel
theorem dL_isTold_107 : decode cL_isTold 107 = .ok (.if_icmp .ne 7, 3) := by decide +kernel
theorem dL_isTold_110 : decode cL_isTold 110 = .ok (.iconst 1, 1) := by decide +kernel
theorem dL_isTold_111 : decode cL_isTold 111 = .ok (.goto 4, 3) := by decide +kernel
theorem dL_isTold_114 : decode cL_isTold 114 = .ok (.iconst 0, 1) := by decide +kernel
theorem dL_isTold_115 : decode cL_isTold 115 = .ok (.ireturn, 1) := by decide +kernel
theorem dL_isTold_116 : decode cL_isTold 116 = .ok (.iload 7, 2) := by decide +kernel
theorem dL_isTold_118 : decode cL_isTold 118 = .ok (.aload 5, 2) := by decide +kernel
theorem dL_isTold_120 : decode cL_isTold 120 = .ok (.iconst 0, 1) := by decide +kernel
theorem dL_isTold_121 : decode cL_isTold 121 = .ok (.iaload, 1) := by decide +kernel
theorem dL_isTold_122 : decode cL_isTold 122 = .ok (.iconst 1, 1) := by decide +kernel
theorem dL_isTold_123 : decode cL_isTold 123 = .ok (.iadd, 1) := by decide +kernel
theorem dL_isTold_124 : decode cL_isTold 124 = .ok (.irem, 1) := by decide +kernel
theorem dL_isTold_125 : decode cL_isTold 125 = .ok (.istore 9, 2) := by decide +kernel
theorem dL_isTold_127 : decode cL_isTold 127 = .ok (.iload 6, 2) := by decide +kernel
theorem dL_isTold_129 : decode cL_isTold 129 = .ok (.iconst 2, 1) := by decide +kernel
theorem dL_isTold_130 : decode cL_isTold 130 = .ok (.if_icmp .ge 230, 3) := by decide +kernel
theorem dL_isTold_133 : decode cL_isTold 133 = .ok (.iload 8, 2) := by decide +kernel
theorem dL_isTold_135 : decode cL_isTold 135 = .ok (.bipush 13, 2) := by decide +kernel
theorem dL_isTold_137 : decode cL_isTold 137 = .ok (.irem, 1) := by decide +kernel
theorem dL_isTold_138 : decode cL_isTold 138 = .ok (.bipush 12, 2) := by decide +kernel
theorem dL_isTold_140 : decode cL_isTold 140 = .ok (.if_icmp .ne 8, 3) := by decide +kernel
theorem dL_isTold_143 : decode cL_isTold 143 = .ok (.bipush 10, 2) := by decide +kernel
theorem dL_isTold_145 : decode cL_isTold 145 = .ok (.goto 7, 3) := by decide +kernel
theorem dL_isTold_148 : decode cL_isTold 148 = .ok (.iload 8, 2) := by decide +kernel
theorem dL_isTold_150 : decode cL_isTold 150 = .ok (.iconst 3, 1) := by decide +kernel
theorem dL_isTold_151 : decode cL_isTold 151 = .ok (.irem, 1) := by decide +kernel
theorem dL_isTold_152 : decode cL_isTold 152 = .ok (.istore 10, 2) := by decide +kernel
theorem dL_isTold_154 : decode cL_isTold 154 = .ok (.iload 8, 2) := by decide +kernel
theorem dL_isTold_156 : decode cL_isTold 156 = .ok (.bipush 13, 2) := by decide +kernel
theorem dL_isTold_158 : decode cL_isTold 158 = .ok (.idiv, 1) := by decide +kernel
theorem dL_isTold_159 : decode cL_isTold 159 = .ok (.bipush 9, 2) := by decide +kernel
theorem dL_isTold_161 : decode cL_isTold 161 = .ok (.irem, 1) := by decide +kernel
theorem dL_isTold_162 : decode cL_isTold 162 = .ok (.ifCond .ne 16, 3) := by decide +kernel
theorem dL_isTold_165 : decode cL_isTold 165 = .ok (.iload 8, 2) := by decide +kernel
theorem dL_isTold_167 : decode cL_isTold 167 = .ok (.bipush 117, 2) := by decide +kernel
theorem dL_isTold_169 : decode cL_isTold 169 = .ok (.idiv, 1) := by decide +kernel
theorem dL_isTold_170 : decode cL_isTold 170 = .ok (.iconst 2, 1) := by decide +kernel
theorem dL_isTold_171 : decode cL_isTold 171 = .ok (.irem, 1) := by decide +kernel
theorem dL_isTold_172 : decode cL_isTold 172 = .ok (.bipush 10, 2) := by decide +kernel
theorem dL_isTold_174 : decode cL_isTold 174 = .ok (.imul, 1) := by decide +kernel
theorem dL_isTold_175 : decode cL_isTold 175 = .ok (.goto 12, 3) := by decide +kernel
theorem dL_isTold_178 : decode cL_isTold 178 = .ok (.iconst 1, 1) := by decide +kernel
theorem dL_isTold_179 : decode cL_isTold 179 = .ok (.iload 8, 2) := by decide +kernel
theorem dL_isTold_181 : decode cL_isTold 181 = .ok (.bipush 13, 2) := by decide +kernel
theorem dL_isTold_183 : decode cL_isTold 183 = .ok (.idiv, 1) := by decide +kernel
theorem dL_isTold_184 : decode cL_isTold 184 = .ok (.iconst 4, 1) := by decide +kernel
theorem dL_isTold_185 : decode cL_isTold 185 = .ok (.irem, 1) := by decide +kernel
theorem dL_isTold_186 : decode cL_isTold 186 = .ok (.iadd, 1) := by decide +kernel
theorem dL_isTold_187 : decode cL_isTold 187 = .ok (.istore 11, 2) := by decide +kernel
theorem dL_isTold_189 : decode cL_isTold 189 = .ok (.iload 9, 2) := by decide +kernel
theorem dL_isTold_191 : decode cL_isTold 191 = .ok (.aload 5, 2) := by decide +kernel
theorem dL_isTold_193 : decode cL_isTold 193 = .ok (.iconst 0, 1) := by decide +kernel
theorem dL_isTold_194 : decode cL_isTold 194 = .ok (.iaload, 1) := by decide +kernel
theorem dL_isTold_195 : decode cL_isTold 195 = .ok (.if_icmp .ge 7, 3) := by decide +kernel
theorem dL_isTold_198 : decode cL_isTold 198 = .ok (.iconst 1, 1) := by decide +kernel
theorem dL_isTold_199 : decode cL_isTold 199 = .ok (.goto 4, 3) := by decide +kernel
theorem dL_isTold_202 : decode cL_isTold 202 = .ok (.iconst 0, 1) := by decide +kernel
theorem dL_isTold_203 : decode cL_isTold 203 = .ok (.istore 12, 2) := by decide +kernel
theorem dL_isTold_205 : decode cL_isTold 205 = .ok (.iload 10, 2) := by decide +kernel
theorem dL_isTold_207 : decode cL_isTold 207 = .ok (.bipush 10, 2) := by decide +kernel
theorem dL_isTold_209 : decode cL_isTold 209 = .ok (.if_icmp .ge 19, 3) := by decide +kernel
theorem dL_isTold_212 : decode cL_isTold 212 = .ok (.iload 11, 2) := by decide +kernel
theorem dL_isTold_214 : decode cL_isTold 214 = .ok (.ifCond .le 14, 3) := by decide +kernel
theorem dL_isTold_217 : decode cL_isTold 217 = .ok (.iload 11, 2) := by decide +kernel
theorem dL_isTold_219 : decode cL_isTold 219 = .ok (.bipush 10, 2) := by decide +kernel
theorem dL_isTold_221 : decode cL_isTold 221 = .ok (.if_icmp .ge 7, 3) := by decide +kernel
theorem dL_isTold_224 : decode cL_isTold 224 = .ok (.iconst 1, 1) := by decide +kernel
theorem dL_isTold_225 : decode cL_isTold 225 = .ok (.goto 4, 3) := by decide +kernel
theorem dL_isTold_228 : decode cL_isTold 228 = .ok (.iconst 0, 1) := by decide +kernel
theorem dL_isTold_229 : decode cL_isTold 229 = .ok (.istore 13, 2) := by decide +kernel
theorem dL_isTold_231 : decode cL_isTold 231 = .ok (.iload 12, 2) := by decide +kernel
theorem dL_isTold_233 : decode cL_isTold 233 = .ok (.ifCond .eq 21, 3) := by decide +kernel
theorem dL_isTold_236 : decode cL_isTold 236 = .ok (.iload 10, 2) := by decide +kernel
theorem dL_isTold_238 : decode cL_isTold 238 = .ok (.bipush 10, 2) := by decide +kernel
theorem dL_isTold_240 : decode cL_isTold 240 = .ok (.if_icmp .ge 14, 3) := by decide +kernel
theorem dL_isTold_243 : decode cL_isTold 243 = .ok (.bipush 10, 2) := by decide +kernel
theorem dL_isTold_245 : decode cL_isTold 245 = .ok (.iload 9, 2) := by decide +kernel
theorem dL_isTold_247 : decode cL_isTold 247 = .ok (.imul, 1) := by decide +kernel
theorem dL_isTold_248 : decode cL_isTold 248 = .ok (.iload 10, 2) := by decide +kernel
theorem dL_isTold_250 : decode cL_isTold 250 = .ok (.iadd, 1) := by decide +kernel
theorem dL_isTold_251 : decode cL_isTold 251 = .ok (.goto 5, 3) := by decide +kernel
theorem dL_isTold_254 : decode cL_isTold 254 = .ok (.bipush 20, 2) := by decide +kernel
theorem dL_isTold_256 : decode cL_isTold 256 = .ok (.istore 14, 2) := by decide +kernel
theorem dL_isTold_258 : decode cL_isTold 258 = .ok (.iload 12, 2) := by decide +kernel
theorem dL_isTold_260 : decode cL_isTold 260 = .ok (.ifCond .eq 24, 3) := by decide +kernel
theorem dL_isTold_263 : decode cL_isTold 263 = .ok (.iload 13, 2) := by decide +kernel
theorem dL_isTold_265 : decode cL_isTold 265 = .ok (.ifCond .eq 19, 3) := by decide +kernel
theorem dL_isTold_268 : decode cL_isTold 268 = .ok (.aload_n 2, 1) := by decide +kernel
theorem dL_isTold_269 : decode cL_isTold 269 = .ok (.iload 14, 2) := by decide +kernel
theorem dL_isTold_271 : decode cL_isTold 271 = .ok (.iaload, 1) := by decide +kernel
theorem dL_isTold_272 : decode cL_isTold 272 = .ok (.iload 11, 2) := by decide +kernel
theorem dL_isTold_274 : decode cL_isTold 274 = .ok (.iadd, 1) := by decide +kernel
theorem dL_isTold_275 : decode cL_isTold 275 = .ok (.bipush 10, 2) := by decide +kernel
theorem dL_isTold_277 : decode cL_isTold 277 = .ok (.if_icmp .ge 7, 3) := by decide +kernel
theorem dL_isTold_280 : decode cL_isTold 280 = .ok (.iconst 1, 1) := by decide +kernel
theorem dL_isTold_281 : decode cL_isTold 281 = .ok (.goto 4, 3) := by decide +kernel
theorem dL_isTold_284 : decode cL_isTold 284 = .ok (.iconst 0, 1) := by decide +kernel
theorem dL_isTold_285 : decode cL_isTold 285 = .ok (.istore 15, 2) := by decide +kernel
theorem dL_isTold_287 : decode cL_isTold 287 = .ok (.aload_n 2, 1) := by decide +kernel
theorem dL_isTold_288 : decode cL_isTold 288 = .ok (.iload 14, 2) := by decide +kernel
theorem dL_isTold_290 : decode cL_isTold 290 = .ok (.dup2, 1) := by decide +kernel
theorem dL_isTold_291 : decode cL_isTold 291 = .ok (.iaload, 1) := by decide +kernel
theorem dL_isTold_292 : decode cL_isTold 292 = .ok (.iload 15, 2) := by decide +kernel
theorem dL_isTold_294 : decode cL_isTold 294 = .ok (.ifCond .eq 8, 3) := by decide +kernel
theorem dL_isTold_297 : decode cL_isTold 297 = .ok (.iload 11, 2) := by decide +kernel
theorem dL_isTold_299 : decode cL_isTold 299 = .ok (.goto 4, 3) := by decide +kernel
theorem dL_isTold_302 : decode cL_isTold 302 = .ok (.iconst 0, 1) := by decide +kernel
theorem dL_isTold_303 : decode cL_isTold 303 = .ok (.iadd, 1) := by decide +kernel
theorem dL_isTold_304 : decode cL_isTold 304 = .ok (.iastore, 1) := by decide +kernel
theorem dL_isTold_305 : decode cL_isTold 305 = .ok (.aload_n 0, 1) := by decide +kernel
theorem dL_isTold_306 : decode cL_isTold 306 = .ok (.iconst 1, 1) := by decide +kernel
theorem dL_isTold_307 : decode cL_isTold 307 = .ok (.iload 9, 2) := by decide +kernel
theorem dL_isTold_309 : decode cL_isTold 309 = .ok (.iload 10, 2) := by decide +kernel
theorem dL_isTold_311 : decode cL_isTold 311 = .ok (.iload 11, 2) := by decide +kernel
theorem dL_isTold_313 : decode cL_isTold 313 = .ok (.iconst 0, 1) := by decide +kernel
theorem dL_isTold_314 : decode cL_isTold 314 = .ok (.invokestatic 161, 3) := by decide +kernel
theorem dL_isTold_317 : decode cL_isTold 317 = .ok (.iload 12, 2) := by decide +kernel
theorem dL_isTold_319 : decode cL_isTold 319 = .ok (.ifCond .ne 8, 3) := by decide +kernel
theorem dL_isTold_322 : decode cL_isTold 322 = .ok (.ldc 84, 2) := by decide +kernel
theorem dL_isTold_324 : decode cL_isTold 324 = .ok (.goto 27, 3) := by decide +kernel
theorem dL_isTold_327 : decode cL_isTold 327 = .ok (.iload 13, 2) := by decide +kernel
theorem dL_isTold_329 : decode cL_isTold 329 = .ok (.ifCond .ne 8, 3) := by decide +kernel
theorem dL_isTold_332 : decode cL_isTold 332 = .ok (.ldc 87, 2) := by decide +kernel
theorem dL_isTold_334 : decode cL_isTold 334 = .ok (.goto 17, 3) := by decide +kernel
theorem dL_isTold_337 : decode cL_isTold 337 = .ok (.iload 15, 2) := by decide +kernel
theorem dL_isTold_339 : decode cL_isTold 339 = .ok (.ifCond .eq 10, 3) := by decide +kernel
theorem dL_isTold_342 : decode cL_isTold 342 = .ok (.aload_n 2, 1) := by decide +kernel
theorem dL_isTold_343 : decode cL_isTold 343 = .ok (.iload 14, 2) := by decide +kernel
theorem dL_isTold_345 : decode cL_isTold 345 = .ok (.iaload, 1) := by decide +kernel
theorem dL_isTold_346 : decode cL_isTold 346 = .ok (.goto 5, 3) := by decide +kernel
theorem dL_isTold_349 : decode cL_isTold 349 = .ok (.ldc 90, 2) := by decide +kernel
theorem dL_isTold_351 : decode cL_isTold 351 = .ok (.if_icmp .ne 7, 3) := by decide +kernel
theorem dL_isTold_354 : decode cL_isTold 354 = .ok (.iconst 1, 1) := by decide +kernel
theorem dL_isTold_355 : decode cL_isTold 355 = .ok (.goto 4, 3) := by decide +kernel
theorem dL_isTold_358 : decode cL_isTold 358 = .ok (.iconst 0, 1) := by decide +kernel
theorem dL_isTold_359 : decode cL_isTold 359 = .ok (.ireturn, 1) := by decide +kernel
theorem dL_isTold_360 : decode cL_isTold 360 = .ok (.iload 6, 2) := by decide +kernel
theorem dL_isTold_362 : decode cL_isTold 362 = .ok (.iconst 2, 1) := by decide +kernel
theorem dL_isTold_363 : decode cL_isTold 363 = .ok (.if_icmp .ne 181, 3) := by decide +kernel
theorem dL_isTold_366 : decode cL_isTold 366 = .ok (.aload 5, 2) := by decide +kernel
theorem dL_isTold_368 : decode cL_isTold 368 = .ok (.iconst 1, 1) := by decide +kernel
theorem dL_isTold_369 : decode cL_isTold 369 = .ok (.iaload, 1) := by decide +kernel
theorem dL_isTold_370 : decode cL_isTold 370 = .ok (.istore 10, 2) := by decide +kernel
theorem dL_isTold_372 : decode cL_isTold 372 = .ok (.iload 7, 2) := by decide +kernel
theorem dL_isTold_374 : decode cL_isTold 374 = .ok (.bipush 13, 2) := by decide +kernel
theorem dL_isTold_376 : decode cL_isTold 376 = .ok (.irem, 1) := by decide +kernel
theorem dL_isTold_377 : decode cL_isTold 377 = .ok (.bipush 12, 2) := by decide +kernel
theorem dL_isTold_379 : decode cL_isTold 379 = .ok (.if_icmp .ne 8, 3) := by decide +kernel
theorem dL_isTold_382 : decode cL_isTold 382 = .ok (.bipush 10, 2) := by decide +kernel
theorem dL_isTold_384 : decode cL_isTold 384 = .ok (.goto 7, 3) := by decide +kernel
theorem dL_isTold_387 : decode cL_isTold 387 = .ok (.iload 7, 2) := by decide +kernel
theorem dL_isTold_389 : decode cL_isTold 389 = .ok (.iconst 3, 1) := by decide +kernel
theorem dL_isTold_390 : decode cL_isTold 390 = .ok (.irem, 1) := by decide +kernel
theorem dL_isTold_391 : decode cL_isTold 391 = .ok (.istore 11, 2) := by decide +kernel
theorem dL_isTold_393 : decode cL_isTold 393 = .ok (.iload 8, 2) := by decide +kernel
theorem dL_isTold_395 : decode cL_isTold 395 = .ok (.bipush 9, 2) := by decide +kernel
theorem dL_isTold_397 : decode cL_isTold 397 = .ok (.irem, 1) := by decide +kernel
theorem dL_isTold_398 : decode cL_isTold 398 = .ok (.ifCond .ne 16, 3) := by decide +kernel
theorem dL_isTold_401 : decode cL_isTold 401 = .ok (.iload 8, 2) := by decide +kernel
theorem dL_isTold_403 : decode cL_isTold 403 = .ok (.bipush 9, 2) := by decide +kernel
theorem dL_isTold_405 : decode cL_isTold 405 = .ok (.idiv, 1) := by decide +kernel
theorem dL_isTold_406 : decode cL_isTold 406 = .ok (.iconst 2, 1) := by decide +kernel
theorem dL_isTold_407 : decode cL_isTold 407 = .ok (.irem, 1) := by decide +kernel
theorem dL_isTold_408 : decode cL_isTold 408 = .ok (.bipush 25, 2) := by decide +kernel
theorem dL_isTold_410 : decode cL_isTold 410 = .ok (.imul, 1) := by decide +kernel
theorem dL_isTold_411 : decode cL_isTold 411 = .ok (.goto 9, 3) := by decide +kernel
theorem dL_isTold_414 : decode cL_isTold 414 = .ok (.iconst 1, 1) := by decide +kernel
theorem dL_isTold_415 : decode cL_isTold 415 = .ok (.iload 8, 2) := by decide +kernel
theorem dL_isTold_417 : decode cL_isTold 417 = .ok (.iconst 4, 1) := by decide +kernel
theorem dL_isTold_418 : decode cL_isTold 418 = .ok (.irem, 1) := by decide +kernel
theorem dL_isTold_419 : decode cL_isTold 419 = .ok (.iadd, 1) := by decide +kernel
theorem dL_isTold_420 : decode cL_isTold 420 = .ok (.istore 12, 2) := by decide +kernel
theorem dL_isTold_422 : decode cL_isTold 422 = .ok (.iload 11, 2) := by decide +kernel
theorem dL_isTold_424 : decode cL_isTold 424 = .ok (.bipush 10, 2) := by decide +kernel
theorem dL_isTold_426 : decode cL_isTold 426 = .ok (.if_icmp .ge 19, 3) := by decide +kernel
theorem dL_isTold_429 : decode cL_isTold 429 = .ok (.iload 12, 2) := by decide +kernel
theorem dL_isTold_431 : decode cL_isTold 431 = .ok (.ifCond .le 14, 3) := by decide +kernel
theorem dL_isTold_434 : decode cL_isTold 434 = .ok (.iload 12, 2) := by decide +kernel
theorem dL_isTold_436 : decode cL_isTold 436 = .ok (.bipush 25, 2) := by decide +kernel
theorem dL_isTold_438 : decode cL_isTold 438 = .ok (.if_icmp .ge 7, 3) := by decide +kernel
theorem dL_isTold_441 : decode cL_isTold 441 = .ok (.iconst 1, 1) := by decide +kernel
theorem dL_isTold_442 : decode cL_isTold 442 = .ok (.goto 4, 3) := by decide +kernel
theorem dL_isTold_445 : decode cL_isTold 445 = .ok (.iconst 0, 1) := by decide +kernel
theorem dL_isTold_446 : decode cL_isTold 446 = .ok (.istore 13, 2) := by decide +kernel
theorem dL_isTold_448 : decode cL_isTold 448 = .ok (.iload 10, 2) := by decide +kernel
theorem dL_isTold_450 : decode cL_isTold 450 = .ok (.iconst 2, 1) := by decide +kernel
theorem dL_isTold_451 : decode cL_isTold 451 = .ok (.if_icmp .gt 15, 3) := by decide +kernel
theorem dL_isTold_454 : decode cL_isTold 454 = .ok (.aload_n 3, 1) := by decide +kernel
theorem dL_isTold_455 : decode cL_isTold 455 = .ok (.bipush 18, 2) := by decide +kernel
theorem dL_isTold_457 : decode cL_isTold 457 = .ok (.iload 10, 2) := by decide +kernel
theorem dL_isTold_459 : decode cL_isTold 459 = .ok (.iadd, 1) := by decide +kernel
theorem dL_isTold_460 : decode cL_isTold 460 = .ok (.iaload, 1) := by decide +kernel
theorem dL_isTold_461 : decode cL_isTold 461 = .ok (.bipush 6, 2) := by decide +kernel
theorem dL_isTold_463 : decode cL_isTold 463 = .ok (.if_icmp .ne 5, 3) := by decide +kernel
theorem dL_isTold_466 : decode cL_isTold 466 = .ok (.iconst 1, 1) := by decide +kernel
theorem dL_isTold_467 : decode cL_isTold 467 = .ok (.ireturn, 1) := by decide +kernel
theorem dL_isTold_468 : decode cL_isTold 468 = .ok (.iload 13, 2) := by decide +kernel
theorem dL_isTold_470 : decode cL_isTold 470 = .ok (.ifCond .eq 37, 3) := by decide +kernel
theorem dL_isTold_473 : decode cL_isTold 473 = .ok (.aload_n 3, 1) := by decide +kernel
theorem dL_isTold_474 : decode cL_isTold 474 = .ok (.bipush 6, 2) := by decide +kernel
theorem dL_isTold_476 : decode cL_isTold 476 = .ok (.iload 10, 2) := by decide +kernel
theorem dL_isTold_478 : decode cL_isTold 478 = .ok (.imul, 1) := by decide +kernel
theorem dL_isTold_479 : decode cL_isTold 479 = .ok (.aload_n 3, 1) := by decide +kernel
theorem dL_isTold_480 : decode cL_isTold 480 = .ok (.bipush 18, 2) := by decide +kernel
theorem dL_isTold_482 : decode cL_isTold 482 = .ok (.iload 10, 2) := by decide +kernel
theorem dL_isTold_484 : decode cL_isTold 484 = .ok (.iadd, 1) := by decide +kernel
theorem dL_isTold_485 : decode cL_isTold 485 = .ok (.iaload, 1) := by decide +kernel
theorem dL_isTold_486 : decode cL_isTold 486 = .ok (.iadd, 1) := by decide +kernel
theorem dL_isTold_487 : decode cL_isTold 487 = .ok (.iload 11, 2) := by decide +kernel
theorem dL_isTold_489 : decode cL_isTold 489 = .ok (.bipush 16, 2) := by decide +kernel
theorem dL_isTold_491 : decode cL_isTold 491 = .ok (.iload 12, 2) := by decide +kernel
theorem dL_isTold_493 : decode cL_isTold 493 = .ok (.imul, 1) := by decide +kernel
theorem dL_isTold_494 : decode cL_isTold 494 = .ok (.iadd, 1) := by decide +kernel
theorem dL_isTold_495 : decode cL_isTold 495 = .ok (.iastore, 1) := by decide +kernel
theorem dL_isTold_496 : decode cL_isTold 496 = .ok (.aload_n 3, 1) := by decide +kernel
theorem dL_isTold_497 : decode cL_isTold 497 = .ok (.bipush 18, 2) := by decide +kernel
theorem dL_isTold_499 : decode cL_isTold 499 = .ok (.iload 10, 2) := by decide +kernel
theorem dL_isTold_501 : decode cL_isTold 501 = .ok (.iadd, 1) := by decide +kernel
theorem dL_isTold_502 : decode cL_isTold 502 = .ok (.dup2, 1) := by decide +kernel
theorem dL_isTold_503 : decode cL_isTold 503 = .ok (.iaload, 1) := by decide +kernel
theorem dL_isTold_504 : decode cL_isTold 504 = .ok (.iconst 1, 1) := by decide +kernel
theorem dL_isTold_505 : decode cL_isTold 505 = .ok (.iadd, 1) := by decide +kernel
theorem dL_isTold_506 : decode cL_isTold 506 = .ok (.iastore, 1) := by decide +kernel
theorem dL_isTold_507 : decode cL_isTold 507 = .ok (.aload_n 0, 1) := by decide +kernel
theorem dL_isTold_508 : decode cL_isTold 508 = .ok (.iconst 2, 1) := by decide +kernel
theorem dL_isTold_509 : decode cL_isTold 509 = .ok (.iload 11, 2) := by decide +kernel
theorem dL_isTold_511 : decode cL_isTold 511 = .ok (.iload 12, 2) := by decide +kernel
theorem dL_isTold_513 : decode cL_isTold 513 = .ok (.iconst 0, 1) := by decide +kernel
theorem dL_isTold_514 : decode cL_isTold 514 = .ok (.iconst 0, 1) := by decide +kernel
theorem dL_isTold_515 : decode cL_isTold 515 = .ok (.invokestatic 161, 3) := by decide +kernel
theorem dL_isTold_518 : decode cL_isTold 518 = .ok (.iload 13, 2) := by decide +kernel
theorem dL_isTold_520 : decode cL_isTold 520 = .ok (.ifCond .eq 13, 3) := by decide +kernel
theorem dL_isTold_523 : decode cL_isTold 523 = .ok (.aload_n 3, 1) := by decide +kernel
theorem dL_isTold_524 : decode cL_isTold 524 = .ok (.bipush 18, 2) := by decide +kernel
theorem dL_isTold_526 : decode cL_isTold 526 = .ok (.iload 10, 2) := by decide +kernel
theorem dL_isTold_528 : decode cL_isTold 528 = .ok (.iadd, 1) := by decide +kernel
theorem dL_isTold_529 : decode cL_isTold 529 = .ok (.iaload, 1) := by decide +kernel
theorem dL_isTold_530 : decode cL_isTold 530 = .ok (.goto 5, 3) := by decide +kernel
theorem dL_isTold_533 : decode cL_isTold 533 = .ok (.ldc 87, 2) := by decide +kernel
theorem dL_isTold_535 : decode cL_isTold 535 = .ok (.if_icmp .ne 7, 3) := by decide +kernel
theorem dL_isTold_538 : decode cL_isTold 538 = .ok (.iconst 1, 1) := by decide +kernel
theorem dL_isTold_539 : decode cL_isTold 539 = .ok (.goto 4, 3) := by decide +kernel
theorem dL_isTold_542 : decode cL_isTold 542 = .ok (.iconst 0, 1) := by decide +kernel
theorem dL_isTold_543 : decode cL_isTold 543 = .ok (.ireturn, 1) := by decide +kernel
theorem dL_isTold_544 : decode cL_isTold 544 = .ok (.iload 6, 2) := by decide +kernel
theorem dL_isTold_546 : decode cL_isTold 546 = .ok (.iconst 3, 1) := by decide +kernel
theorem dL_isTold_547 : decode cL_isTold 547 = .ok (.if_icmp .ne 83, 3) := by decide +kernel
theorem dL_isTold_550 : decode cL_isTold 550 = .ok (.aload 5, 2) := by decide +kernel
theorem dL_isTold_552 : decode cL_isTold 552 = .ok (.iconst 1, 1) := by decide +kernel
theorem dL_isTold_553 : decode cL_isTold 553 = .ok (.iaload, 1) := by decide +kernel
theorem dL_isTold_554 : decode cL_isTold 554 = .ok (.iconst 2, 1) := by decide +kernel
theorem dL_isTold_555 : decode cL_isTold 555 = .ok (.if_icmp .le 5, 3) := by decide +kernel
theorem dL_isTold_558 : decode cL_isTold 558 = .ok (.iconst 1, 1) := by decide +kernel
theorem dL_isTold_559 : decode cL_isTold 559 = .ok (.ireturn, 1) := by decide +kernel
theorem dL_isTold_560 : decode cL_isTold 560 = .ok (.aload_n 3, 1) := by decide +kernel
theorem dL_isTold_561 : decode cL_isTold 561 = .ok (.bipush 18, 2) := by decide +kernel
theorem dL_isTold_563 : decode cL_isTold 563 = .ok (.aload 5, 2) := by decide +kernel
theorem dL_isTold_565 : decode cL_isTold 565 = .ok (.iconst 1, 1) := by decide +kernel
theorem dL_isTold_566 : decode cL_isTold 566 = .ok (.iaload, 1) := by decide +kernel
theorem dL_isTold_567 : decode cL_isTold 567 = .ok (.iadd, 1) := by decide +kernel
theorem dL_isTold_568 : decode cL_isTold 568 = .ok (.iaload, 1) := by decide +kernel
theorem dL_isTold_569 : decode cL_isTold 569 = .ok (.ifCond .le 7, 3) := by decide +kernel
theorem dL_isTold_572 : decode cL_isTold 572 = .ok (.iconst 1, 1) := by decide +kernel
theorem dL_isTold_573 : decode cL_isTold 573 = .ok (.goto 4, 3) := by decide +kernel
theorem dL_isTold_576 : decode cL_isTold 576 = .ok (.iconst 0, 1) := by decide +kernel
theorem dL_isTold_577 : decode cL_isTold 577 = .ok (.istore 10, 2) := by decide +kernel
theorem dL_isTold_579 : decode cL_isTold 579 = .ok (.aload 5, 2) := by decide +kernel
theorem dL_isTold_581 : decode cL_isTold 581 = .ok (.iconst 1, 1) := by decide +kernel
theorem dL_isTold_582 : decode cL_isTold 582 = .ok (.dup2, 1) := by decide +kernel
theorem dL_isTold_583 : decode cL_isTold 583 = .ok (.iaload, 1) := by decide +kernel
theorem dL_isTold_584 : decode cL_isTold 584 = .ok (.iload 10, 2) := by decide +kernel
theorem dL_isTold_586 : decode cL_isTold 586 = .ok (.ifCond .eq 7, 3) := by decide +kernel
theorem dL_isTold_589 : decode cL_isTold 589 = .ok (.iconst 1, 1) := by decide +kernel
theorem dL_isTold_590 : decode cL_isTold 590 = .ok (.goto 4, 3) := by decide +kernel
theorem dL_isTold_593 : decode cL_isTold 593 = .ok (.iconst 0, 1) := by decide +kernel
theorem dL_isTold_594 : decode cL_isTold 594 = .ok (.iadd, 1) := by decide +kernel
theorem dL_isTold_595 : decode cL_isTold 595 = .ok (.iastore, 1) := by decide +kernel
theorem dL_isTold_596 : decode cL_isTold 596 = .ok (.aload_n 0, 1) := by decide +kernel
theorem dL_isTold_597 : decode cL_isTold 597 = .ok (.iconst 3, 1) := by decide +kernel
theorem dL_isTold_598 : decode cL_isTold 598 = .ok (.iconst 0, 1) := by decide +kernel
theorem dL_isTold_599 : decode cL_isTold 599 = .ok (.iconst 0, 1) := by decide +kernel
theorem dL_isTold_600 : decode cL_isTold 600 = .ok (.iconst 0, 1) := by decide +kernel
theorem dL_isTold_601 : decode cL_isTold 601 = .ok (.iconst 0, 1) := by decide +kernel
theorem dL_isTold_602 : decode cL_isTold 602 = .ok (.invokestatic 161, 3) := by decide +kernel
theorem dL_isTold_605 : decode cL_isTold 605 = .ok (.iload 10, 2) := by decide +kernel
theorem dL_isTold_607 : decode cL_isTold 607 = .ok (.ifCond .eq 12, 3) := by decide +kernel
theorem dL_isTold_610 : decode cL_isTold 610 = .ok (.aload 5, 2) := by decide +kernel
theorem dL_isTold_612 : decode cL_isTold 612 = .ok (.iconst 1, 1) := by decide +kernel
theorem dL_isTold_613 : decode cL_isTold 613 = .ok (.iaload, 1) := by decide +kernel
theorem dL_isTold_614 : decode cL_isTold 614 = .ok (.iconst 1, 1) := by decide +kernel
theorem dL_isTold_615 : decode cL_isTold 615 = .ok (.isub, 1) := by decide +kernel
theorem dL_isTold_616 : decode cL_isTold 616 = .ok (.goto 5, 3) := by decide +kernel
theorem dL_isTold_619 : decode cL_isTold 619 = .ok (.ldc 90, 2) := by decide +kernel
theorem dL_isTold_621 : decode cL_isTold 621 = .ok (.if_icmp .ne 7, 3) := by decide +kernel
theorem dL_isTold_624 : decode cL_isTold 624 = .ok (.iconst 1, 1) := by decide +kernel
theorem dL_isTold_625 : decode cL_isTold 625 = .ok (.goto 4, 3) := by decide +kernel
theorem dL_isTold_628 : decode cL_isTold 628 = .ok (.iconst 0, 1) := by decide +kernel
theorem dL_isTold_629 : decode cL_isTold 629 = .ok (.ireturn, 1) := by decide +kernel
theorem dL_isTold_630 : decode cL_isTold 630 = .ok (.iload 6, 2) := by decide +kernel
theorem dL_isTold_632 : decode cL_isTold 632 = .ok (.iconst 4, 1) := by decide +kernel
theorem dL_isTold_633 : decode cL_isTold 633 = .ok (.if_icmp .ne 271, 3) := by decide +kernel
theorem dL_isTold_636 : decode cL_isTold 636 = .ok (.aload 5, 2) := by decide +kernel
theorem dL_isTold_638 : decode cL_isTold 638 = .ok (.iconst 2, 1) := by decide +kernel
theorem dL_isTold_639 : decode cL_isTold 639 = .ok (.iaload, 1) := by decide +kernel
theorem dL_isTold_640 : decode cL_isTold 640 = .ok (.iconst 3, 1) := by decide +kernel
theorem dL_isTold_641 : decode cL_isTold 641 = .ok (.if_icmp .ne 5, 3) := by decide +kernel
theorem dL_isTold_644 : decode cL_isTold 644 = .ok (.iconst 1, 1) := by decide +kernel
theorem dL_isTold_645 : decode cL_isTold 645 = .ok (.ireturn, 1) := by decide +kernel
theorem dL_isTold_646 : decode cL_isTold 646 = .ok (.iload 8, 2) := by decide +kernel
theorem dL_isTold_648 : decode cL_isTold 648 = .ok (.bipush 9, 2) := by decide +kernel
theorem dL_isTold_650 : decode cL_isTold 650 = .ok (.irem, 1) := by decide +kernel
theorem dL_isTold_651 : decode cL_isTold 651 = .ok (.ifCond .ne 16, 3) := by decide +kernel
theorem dL_isTold_654 : decode cL_isTold 654 = .ok (.iload 8, 2) := by decide +kernel
theorem dL_isTold_656 : decode cL_isTold 656 = .ok (.bipush 9, 2) := by decide +kernel
theorem dL_isTold_658 : decode cL_isTold 658 = .ok (.idiv, 1) := by decide +kernel
theorem dL_isTold_659 : decode cL_isTold 659 = .ok (.iconst 2, 1) := by decide +kernel
theorem dL_isTold_660 : decode cL_isTold 660 = .ok (.irem, 1) := by decide +kernel
theorem dL_isTold_661 : decode cL_isTold 661 = .ok (.bipush 49, 2) := by decide +kernel
theorem dL_isTold_663 : decode cL_isTold 663 = .ok (.imul, 1) := by decide +kernel
theorem dL_isTold_664 : decode cL_isTold 664 = .ok (.goto 10, 3) := by decide +kernel
theorem dL_isTold_667 : decode cL_isTold 667 = .ok (.iconst 1, 1) := by decide +kernel
theorem dL_isTold_668 : decode cL_isTold 668 = .ok (.iload 8, 2) := by decide +kernel
theorem dL_isTold_670 : decode cL_isTold 670 = .ok (.bipush 6, 2) := by decide +kernel
theorem dL_isTold_672 : decode cL_isTold 672 = .ok (.irem, 1) := by decide +kernel
theorem dL_isTold_673 : decode cL_isTold 673 = .ok (.iadd, 1) := by decide +kernel
theorem dL_isTold_674 : decode cL_isTold 674 = .ok (.istore 10, 2) := by decide +kernel
theorem dL_isTold_676 : decode cL_isTold 676 = .ok (.iload 8, 2) := by decide +kernel
theorem dL_isTold_678 : decode cL_isTold 678 = .ok (.bipush 9, 2) := by decide +kernel
theorem dL_isTold_680 : decode cL_isTold 680 = .ok (.idiv, 1) := by decide +kernel
theorem dL_isTold_681 : decode cL_isTold 681 = .ok (.bipush 9, 2) := by decide +kernel
theorem dL_isTold_683 : decode cL_isTold 683 = .ok (.irem, 1) := by decide +kernel
theorem dL_isTold_684 : decode cL_isTold 684 = .ok (.ifCond .ne 15, 3) := by decide +kernel
theorem dL_isTold_687 : decode cL_isTold 687 = .ok (.iload 8, 2) := by decide +kernel
theorem dL_isTold_689 : decode cL_isTold 689 = .ok (.bipush 81, 2) := by decide +kernel
theorem dL_isTold_691 : decode cL_isTold 691 = .ok (.idiv, 1) := by decide +kernel
theorem dL_isTold_692 : decode cL_isTold 692 = .ok (.iconst 2, 1) := by decide +kernel
theorem dL_isTold_693 : decode cL_isTold 693 = .ok (.irem, 1) := by decide +kernel
theorem dL_isTold_694 : decode cL_isTold 694 = .ok (.iconst 3, 1) := by decide +kernel
theorem dL_isTold_695 : decode cL_isTold 695 = .ok (.imul, 1) := by decide +kernel
theorem dL_isTold_696 : decode cL_isTold 696 = .ok (.goto 12, 3) := by decide +kernel
theorem dL_isTold_699 : decode cL_isTold 699 = .ok (.iconst 1, 1) := by decide +kernel
theorem dL_isTold_700 : decode cL_isTold 700 = .ok (.iload 8, 2) := by decide +kernel
theorem dL_isTold_702 : decode cL_isTold 702 = .ok (.bipush 9, 2) := by decide +kernel
theorem dL_isTold_704 : decode cL_isTold 704 = .ok (.idiv, 1) := by decide +kernel
theorem dL_isTold_705 : decode cL_isTold 705 = .ok (.iconst 2, 1) := by decide +kernel
theorem dL_isTold_706 : decode cL_isTold 706 = .ok (.irem, 1) := by decide +kernel
theorem dL_isTold_707 : decode cL_isTold 707 = .ok (.iadd, 1) := by decide +kernel
theorem dL_isTold_708 : decode cL_isTold 708 = .ok (.istore 11, 2) := by decide +kernel
theorem dL_isTold_710 : decode cL_isTold 710 = .ok (.iload 7, 2) := by decide +kernel
theorem dL_isTold_712 : decode cL_isTold 712 = .ok (.iconst 3, 1) := by decide +kernel
theorem dL_isTold_713 : decode cL_isTold 713 = .ok (.idiv, 1) := by decide +kernel
theorem dL_isTold_714 : decode cL_isTold 714 = .ok (.iconst 5, 1) := by decide +kernel
theorem dL_isTold_715 : decode cL_isTold 715 = .ok (.irem, 1) := by decide +kernel
theorem dL_isTold_716 : decode cL_isTold 716 = .ok (.iconst 4, 1) := by decide +kernel
theorem dL_isTold_717 : decode cL_isTold 717 = .ok (.if_icmp .ne 10, 3) := by decide +kernel
theorem dL_isTold_720 : decode cL_isTold 720 = .ok (.aload 5, 2) := by decide +kernel
theorem dL_isTold_722 : decode cL_isTold 722 = .ok (.iconst 1, 1) := by decide +kernel
theorem dL_isTold_723 : decode cL_isTold 723 = .ok (.iaload, 1) := by decide +kernel
theorem dL_isTold_724 : decode cL_isTold 724 = .ok (.goto 16, 3) := by decide +kernel
theorem dL_isTold_727 : decode cL_isTold 727 = .ok (.iload 7, 2) := by decide +kernel
theorem dL_isTold_729 : decode cL_isTold 729 = .ok (.iconst 3, 1) := by decide +kernel
theorem dL_isTold_730 : decode cL_isTold 730 = .ok (.idiv, 1) := by decide +kernel
theorem dL_isTold_731 : decode cL_isTold 731 = .ok (.aload 5, 2) := by decide +kernel
theorem dL_isTold_733 : decode cL_isTold 733 = .ok (.iconst 1, 1) := by decide +kernel
theorem dL_isTold_734 : decode cL_isTold 734 = .ok (.iaload, 1) := by decide +kernel
theorem dL_isTold_735 : decode cL_isTold 735 = .ok (.iconst 1, 1) := by decide +kernel
theorem dL_isTold_736 : decode cL_isTold 736 = .ok (.iadd, 1) := by decide +kernel
theorem dL_isTold_737 : decode cL_isTold 737 = .ok (.irem, 1) := by decide +kernel
theorem dL_isTold_738 : decode cL_isTold 738 = .ok (.iconst 1, 1) := by decide +kernel
theorem dL_isTold_739 : decode cL_isTold 739 = .ok (.isub, 1) := by decide +kernel
theorem dL_isTold_740 : decode cL_isTold 740 = .ok (.istore 12, 2) := by decide +kernel
theorem dL_isTold_742 : decode cL_isTold 742 = .ok (.iload 9, 2) := by decide +kernel
theorem dL_isTold_744 : decode cL_isTold 744 = .ok (.aload 5, 2) := by decide +kernel
theorem dL_isTold_746 : decode cL_isTold 746 = .ok (.iconst 0, 1) := by decide +kernel
theorem dL_isTold_747 : decode cL_isTold 747 = .ok (.iaload, 1) := by decide +kernel
theorem dL_isTold_748 : decode cL_isTold 748 = .ok (.if_icmp .ge 16, 3) := by decide +kernel
theorem dL_isTold_751 : decode cL_isTold 751 = .ok (.iload 12, 2) := by decide +kernel
theorem dL_isTold_753 : decode cL_isTold 753 = .ok (.aload 5, 2) := by decide +kernel
theorem dL_isTold_755 : decode cL_isTold 755 = .ok (.iconst 1, 1) := by decide +kernel
theorem dL_isTold_756 : decode cL_isTold 756 = .ok (.iaload, 1) := by decide +kernel
theorem dL_isTold_757 : decode cL_isTold 757 = .ok (.if_icmp .ge 7, 3) := by decide +kernel
theorem dL_isTold_760 : decode cL_isTold 760 = .ok (.iconst 1, 1) := by decide +kernel
theorem dL_isTold_761 : decode cL_isTold 761 = .ok (.goto 4, 3) := by decide +kernel
theorem dL_isTold_764 : decode cL_isTold 764 = .ok (.iconst 0, 1) := by decide +kernel
theorem dL_isTold_765 : decode cL_isTold 765 = .ok (.istore 13, 2) := by decide +kernel
theorem dL_isTold_767 : decode cL_isTold 767 = .ok (.iload 10, 2) := by decide +kernel
theorem dL_isTold_769 : decode cL_isTold 769 = .ok (.ifCond .le 25, 3) := by decide +kernel
theorem dL_isTold_772 : decode cL_isTold 772 = .ok (.iload 10, 2) := by decide +kernel
theorem dL_isTold_774 : decode cL_isTold 774 = .ok (.bipush 49, 2) := by decide +kernel
theorem dL_isTold_776 : decode cL_isTold 776 = .ok (.if_icmp .ge 18, 3) := by decide +kernel
theorem dL_isTold_779 : decode cL_isTold 779 = .ok (.iload 11, 2) := by decide +kernel
theorem dL_isTold_781 : decode cL_isTold 781 = .ok (.ifCond .le 13, 3) := by decide +kernel
theorem dL_isTold_784 : decode cL_isTold 784 = .ok (.iload 11, 2) := by decide +kernel
theorem dL_isTold_786 : decode cL_isTold 786 = .ok (.iconst 3, 1) := by decide +kernel
theorem dL_isTold_787 : decode cL_isTold 787 = .ok (.if_icmp .ge 7, 3) := by decide +kernel
theorem dL_isTold_790 : decode cL_isTold 790 = .ok (.iconst 1, 1) := by decide +kernel
theorem dL_isTold_791 : decode cL_isTold 791 = .ok (.goto 4, 3) := by decide +kernel
theorem dL_isTold_794 : decode cL_isTold 794 = .ok (.iconst 0, 1) := by decide +kernel
theorem dL_isTold_795 : decode cL_isTold 795 = .ok (.istore 14, 2) := by decide +kernel
theorem dL_isTold_797 : decode cL_isTold 797 = .ok (.iload 13, 2) := by decide +kernel
theorem dL_isTold_799 : decode cL_isTold 799 = .ok (.ifCond .eq 12, 3) := by decide +kernel
theorem dL_isTold_802 : decode cL_isTold 802 = .ok (.iload 14, 2) := by decide +kernel
theorem dL_isTold_804 : decode cL_isTold 804 = .ok (.ifCond .eq 7, 3) := by decide +kernel
theorem dL_isTold_807 : decode cL_isTold 807 = .ok (.iconst 1, 1) := by decide +kernel
theorem dL_isTold_808 : decode cL_isTold 808 = .ok (.goto 4, 3) := by decide +kernel
theorem dL_isTold_811 : decode cL_isTold 811 = .ok (.iconst 0, 1) := by decide +kernel
theorem dL_isTold_812 : decode cL_isTold 812 = .ok (.istore 15, 2) := by decide +kernel
theorem dL_isTold_814 : decode cL_isTold 814 = .ok (.iload 15, 2) := by decide +kernel
theorem dL_isTold_816 : decode cL_isTold 816 = .ok (.ifCond .eq 40, 3) := by decide +kernel
theorem dL_isTold_819 : decode cL_isTold 819 = .ok (.aload 4, 2) := by decide +kernel
theorem dL_isTold_821 : decode cL_isTold 821 = .ok (.aload 5, 2) := by decide +kernel
theorem dL_isTold_823 : decode cL_isTold 823 = .ok (.iconst 2, 1) := by decide +kernel
theorem dL_isTold_824 : decode cL_isTold 824 = .ok (.iaload, 1) := by decide +kernel
theorem dL_isTold_825 : decode cL_isTold 825 = .ok (.iload 9, 2) := by decide +kernel
theorem dL_isTold_827 : decode cL_isTold 827 = .ok (.iconst 4, 1) := by decide +kernel
theorem dL_isTold_828 : decode cL_isTold 828 = .ok (.iload 10, 2) := by decide +kernel
theorem dL_isTold_830 : decode cL_isTold 830 = .ok (.imul, 1) := by decide +kernel
theorem dL_isTold_831 : decode cL_isTold 831 = .ok (.iadd, 1) := by decide +kernel
theorem dL_isTold_832 : decode cL_isTold 832 = .ok (.bipush 32, 2) := by decide +kernel
theorem dL_isTold_834 : decode cL_isTold 834 = .ok (.iload 11, 2) := by decide +kernel
theorem dL_isTold_836 : decode cL_isTold 836 = .ok (.imul, 1) := by decide +kernel
theorem dL_isTold_837 : decode cL_isTold 837 = .ok (.iadd, 1) := by decide +kernel
theorem dL_isTold_838 : decode cL_isTold 838 = .ok (.sipush 128, 3) := by decide +kernel
theorem dL_isTold_841 : decode cL_isTold 841 = .ok (.iload 12, 2) := by decide +kernel
theorem dL_isTold_843 : decode cL_isTold 843 = .ok (.iconst 1, 1) := by decide +kernel
theorem dL_isTold_844 : decode cL_isTold 844 = .ok (.iadd, 1) := by decide +kernel
theorem dL_isTold_845 : decode cL_isTold 845 = .ok (.imul, 1) := by decide +kernel
theorem dL_isTold_846 : decode cL_isTold 846 = .ok (.iadd, 1) := by decide +kernel
theorem dL_isTold_847 : decode cL_isTold 847 = .ok (.iastore, 1) := by decide +kernel
theorem dL_isTold_848 : decode cL_isTold 848 = .ok (.aload 5, 2) := by decide +kernel
theorem dL_isTold_850 : decode cL_isTold 850 = .ok (.iconst 2, 1) := by decide +kernel
theorem dL_isTold_851 : decode cL_isTold 851 = .ok (.dup2, 1) := by decide +kernel
theorem dL_isTold_852 : decode cL_isTold 852 = .ok (.iaload, 1) := by decide +kernel
theorem dL_isTold_853 : decode cL_isTold 853 = .ok (.iconst 1, 1) := by decide +kernel
theorem dL_isTold_854 : decode cL_isTold 854 = .ok (.iadd, 1) := by decide +kernel
theorem dL_isTold_855 : decode cL_isTold 855 = .ok (.iastore, 1) := by decide +kernel
theorem dL_isTold_856 : decode cL_isTold 856 = .ok (.aload_n 0, 1) := by decide +kernel
theorem dL_isTold_857 : decode cL_isTold 857 = .ok (.iconst 4, 1) := by decide +kernel
theorem dL_isTold_858 : decode cL_isTold 858 = .ok (.iload 9, 2) := by decide +kernel
theorem dL_isTold_860 : decode cL_isTold 860 = .ok (.iload 10, 2) := by decide +kernel
theorem dL_isTold_862 : decode cL_isTold 862 = .ok (.iload 11, 2) := by decide +kernel
theorem dL_isTold_864 : decode cL_isTold 864 = .ok (.iload 12, 2) := by decide +kernel
theorem dL_isTold_866 : decode cL_isTold 866 = .ok (.invokestatic 161, 3) := by decide +kernel
theorem dL_isTold_869 : decode cL_isTold 869 = .ok (.iload 13, 2) := by decide +kernel
theorem dL_isTold_871 : decode cL_isTold 871 = .ok (.ifCond .ne 8, 3) := by decide +kernel
theorem dL_isTold_874 : decode cL_isTold 874 = .ok (.ldc 84, 2) := by decide +kernel
theorem dL_isTold_876 : decode cL_isTold 876 = .ok (.goto 19, 3) := by decide +kernel
theorem dL_isTold_879 : decode cL_isTold 879 = .ok (.iload 15, 2) := by decide +kernel
theorem dL_isTold_881 : decode cL_isTold 881 = .ok (.ifCond .eq 12, 3) := by decide +kernel
theorem dL_isTold_884 : decode cL_isTold 884 = .ok (.aload 5, 2) := by decide +kernel
theorem dL_isTold_886 : decode cL_isTold 886 = .ok (.iconst 2, 1) := by decide +kernel
theorem dL_isTold_887 : decode cL_isTold 887 = .ok (.iaload, 1) := by decide +kernel
theorem dL_isTold_888 : decode cL_isTold 888 = .ok (.iconst 1, 1) := by decide +kernel
theorem dL_isTold_889 : decode cL_isTold 889 = .ok (.isub, 1) := by decide +kernel
theorem dL_isTold_890 : decode cL_isTold 890 = .ok (.goto 5, 3) := by decide +kernel
theorem dL_isTold_893 : decode cL_isTold 893 = .ok (.ldc 87, 2) := by decide +kernel
theorem dL_isTold_895 : decode cL_isTold 895 = .ok (.if_icmp .ne 7, 3) := by decide +kernel
theorem dL_isTold_898 : decode cL_isTold 898 = .ok (.iconst 1, 1) := by decide +kernel
theorem dL_isTold_899 : decode cL_isTold 899 = .ok (.goto 4, 3) := by decide +kernel
theorem dL_isTold_902 : decode cL_isTold 902 = .ok (.iconst 0, 1) := by decide +kernel
theorem dL_isTold_903 : decode cL_isTold 903 = .ok (.ireturn, 1) := by decide +kernel
theorem dL_isTold_904 : decode cL_isTold 904 = .ok (.iload 7, 2) := by decide +kernel
theorem dL_isTold_906 : decode cL_isTold 906 = .ok (.aload 5, 2) := by decide +kernel
theorem dL_isTold_908 : decode cL_isTold 908 = .ok (.iconst 2, 1) := by decide +kernel
theorem dL_isTold_909 : decode cL_isTold 909 = .ok (.iaload, 1) := by decide +kernel
theorem dL_isTold_910 : decode cL_isTold 910 = .ok (.iconst 1, 1) := by decide +kernel
theorem dL_isTold_911 : decode cL_isTold 911 = .ok (.iadd, 1) := by decide +kernel
theorem dL_isTold_912 : decode cL_isTold 912 = .ok (.irem, 1) := by decide +kernel
theorem dL_isTold_913 : decode cL_isTold 913 = .ok (.istore 10, 2) := by decide +kernel
theorem dL_isTold_915 : decode cL_isTold 915 = .ok (.iload 10, 2) := by decide +kernel
theorem dL_isTold_917 : decode cL_isTold 917 = .ok (.aload 5, 2) := by decide +kernel
theorem dL_isTold_919 : decode cL_isTold 919 = .ok (.iconst 2, 1) := by decide +kernel
theorem dL_isTold_920 : decode cL_isTold 920 = .ok (.iaload, 1) := by decide +kernel
theorem dL_isTold_921 : decode cL_isTold 921 = .ok (.if_icmp .ge 7, 3) := by decide +kernel
theorem dL_isTold_924 : decode cL_isTold 924 = .ok (.iconst 1, 1) := by decide +kernel
theorem dL_isTold_925 : decode cL_isTold 925 = .ok (.goto 4, 3) := by decide +kernel
theorem dL_isTold_928 : decode cL_isTold 928 = .ok (.iconst 0, 1) := by decide +kernel
theorem dL_isTold_929 : decode cL_isTold 929 = .ok (.istore 11, 2) := by decide +kernel
theorem dL_isTold_931 : decode cL_isTold 931 = .ok (.iload 6, 2) := by decide +kernel
theorem dL_isTold_933 : decode cL_isTold 933 = .ok (.iconst 5, 1) := by decide +kernel
theorem dL_isTold_934 : decode cL_isTold 934 = .ok (.if_icmp .ne 195, 3) := by decide +kernel
theorem dL_isTold_937 : decode cL_isTold 937 = .ok (.iload 8, 2) := by decide +kernel
theorem dL_isTold_939 : decode cL_isTold 939 = .ok (.bipush 13, 2) := by decide +kernel
theorem dL_isTold_941 : decode cL_isTold 941 = .ok (.irem, 1) := by decide +kernel
theorem dL_isTold_942 : decode cL_isTold 942 = .ok (.bipush 12, 2) := by decide +kernel
theorem dL_isTold_944 : decode cL_isTold 944 = .ok (.if_icmp .ne 7, 3) := by decide +kernel
theorem dL_isTold_947 : decode cL_isTold 947 = .ok (.iconst 5, 1) := by decide +kernel
theorem dL_isTold_948 : decode cL_isTold 948 = .ok (.goto 7, 3) := by decide +kernel
theorem dL_isTold_951 : decode cL_isTold 951 = .ok (.iload 8, 2) := by decide +kernel
theorem dL_isTold_953 : decode cL_isTold 953 = .ok (.iconst 2, 1) := by decide +kernel
theorem dL_isTold_954 : decode cL_isTold 954 = .ok (.irem, 1) := by decide +kernel
theorem dL_isTold_955 : decode cL_isTold 955 = .ok (.istore 12, 2) := by decide +kernel
theorem dL_isTold_957 : decode cL_isTold 957 = .ok (.iload 11, 2) := by decide +kernel
theorem dL_isTold_959 : decode cL_isTold 959 = .ok (.ifCond .eq 13, 3) := by decide +kernel
theorem dL_isTold_962 : decode cL_isTold 962 = .ok (.iload 12, 2) := by decide +kernel
theorem dL_isTold_964 : decode cL_isTold 964 = .ok (.iconst 5, 1) := by decide +kernel
theorem dL_isTold_965 : decode cL_isTold 965 = .ok (.if_icmp .ge 7, 3) := by decide +kernel
theorem dL_isTold_968 : decode cL_isTold 968 = .ok (.iconst 1, 1) := by decide +kernel
theorem dL_isTold_969 : decode cL_isTold 969 = .ok (.goto 4, 3) := by decide +kernel
theorem dL_isTold_972 : decode cL_isTold 972 = .ok (.iconst 0, 1) := by decide +kernel
theorem dL_isTold_973 : decode cL_isTold 973 = .ok (.istore 13, 2) := by decide +kernel
theorem dL_isTold_975 : decode cL_isTold 975 = .ok (.iload 11, 2) := by decide +kernel
theorem dL_isTold_977 : decode cL_isTold 977 = .ok (.ifCond .eq 20, 3) := by decide +kernel
theorem dL_isTold_980 : decode cL_isTold 980 = .ok (.aload 4, 2) := by decide +kernel
theorem dL_isTold_982 : decode cL_isTold 982 = .ok (.iload 10, 2) := by decide +kernel
theorem dL_isTold_984 : decode cL_isTold 984 = .ok (.iaload, 1) := by decide +kernel
theorem dL_isTold_985 : decode cL_isTold 985 = .ok (.sipush 1024, 3) := by decide +kernel
theorem dL_isTold_988 : decode cL_isTold 988 = .ok (.idiv, 1) := by decide +kernel
theorem dL_isTold_989 : decode cL_isTold 989 = .ok (.bipush 8, 2) := by decide +kernel
theorem dL_isTold_991 : decode cL_isTold 991 = .ok (.irem, 1) := by decide +kernel
theorem dL_isTold_992 : decode cL_isTold 992 = .ok (.iconst 1, 1) := by decide +kernel
theorem dL_isTold_993 : decode cL_isTold 993 = .ok (.isub, 1) := by decide +kernel
theorem dL_isTold_994 : decode cL_isTold 994 = .ok (.goto 4, 3) := by decide +kernel
theorem dL_isTold_997 : decode cL_isTold 997 = .ok (.iconst (-1), 1) := by decide +kernel
theorem dL_isTold_998 : decode cL_isTold 998 = .ok (.istore 14, 2) := by decide +kernel
theorem dL_isTold_1000 : decode cL_isTold 1000 = .ok (.iload 13, 2) := by decide +kernel
theorem dL_isTold_1002 : decode cL_isTold 1002 = .ok (.ifCond .eq 47, 3) := by decide +kernel
theorem dL_isTold_1005 : decode cL_isTold 1005 = .ok (.aload 4, 2) := by decide +kernel
theorem dL_isTold_1007 : decode cL_isTold 1007 = .ok (.iload 10, 2) := by decide +kernel
theorem dL_isTold_1009 : decode cL_isTold 1009 = .ok (.invokestatic 101, 3) := by decide +kernel
theorem dL_isTold_1012 : decode cL_isTold 1012 = .ok (.aload 4, 2) := by decide +kernel
theorem dL_isTold_1014 : decode cL_isTold 1014 = .ok (.iload 10, 2) := by decide +kernel
theorem dL_isTold_1016 : decode cL_isTold 1016 = .ok (.invokestatic 105, 3) := by decide +kernel
theorem dL_isTold_1019 : decode cL_isTold 1019 = .ok (.if_icmp .ge 30, 3) := by decide +kernel
theorem dL_isTold_1022 : decode cL_isTold 1022 = .ok (.aload 4, 2) := by decide +kernel
theorem dL_isTold_1024 : decode cL_isTold 1024 = .ok (.iload 10, 2) := by decide +kernel
theorem dL_isTold_1026 : decode cL_isTold 1026 = .ok (.invokestatic 101, 3) := by decide +kernel
theorem dL_isTold_1029 : decode cL_isTold 1029 = .ok (.ifCond .eq 16, 3) := by decide +kernel
theorem dL_isTold_1032 : decode cL_isTold 1032 = .ok (.aload 5, 2) := by decide +kernel
theorem dL_isTold_1034 : decode cL_isTold 1034 = .ok (.iconst 5, 1) := by decide +kernel
theorem dL_isTold_1035 : decode cL_isTold 1035 = .ok (.iaload, 1) := by decide +kernel
theorem dL_isTold_1036 : decode cL_isTold 1036 = .ok (.iload 14, 2) := by decide +kernel
theorem dL_isTold_1038 : decode cL_isTold 1038 = .ok (.ishr, 1) := by decide +kernel
theorem dL_isTold_1039 : decode cL_isTold 1039 = .ok (.iconst 1, 1) := by decide +kernel
theorem dL_isTold_1040 : decode cL_isTold 1040 = .ok (.iand, 1) := by decide +kernel
theorem dL_isTold_1041 : decode cL_isTold 1041 = .ok (.iconst 1, 1) := by decide +kernel
theorem dL_isTold_1042 : decode cL_isTold 1042 = .ok (.if_icmp .ne 7, 3) := by decide +kernel
theorem dL_isTold_1045 : decode cL_isTold 1045 = .ok (.iconst 1, 1) := by decide +kernel
theorem dL_isTold_1046 : decode cL_isTold 1046 = .ok (.goto 4, 3) := by decide +kernel
theorem dL_isTold_1049 : decode cL_isTold 1049 = .ok (.iconst 0, 1) := by decide +kernel
theorem dL_isTold_1050 : decode cL_isTold 1050 = .ok (.istore 15, 2) := by decide +kernel
theorem dL_isTold_1052 : decode cL_isTold 1052 = .ok (.aload 4, 2) := by decide +kernel
theorem dL_isTold_1054 : decode cL_isTold 1054 = .ok (.iload 15, 2) := by decide +kernel
theorem dL_isTold_1056 : decode cL_isTold 1056 = .ok (.ifCond .eq 8, 3) := by decide +kernel
theorem dL_isTold_1059 : decode cL_isTold 1059 = .ok (.iload 10, 2) := by decide +kernel
theorem dL_isTold_1061 : decode cL_isTold 1061 = .ok (.goto 4, 3) := by decide +kernel
theorem dL_isTold_1064 : decode cL_isTold 1064 = .ok (.iconst 3, 1) := by decide +kernel
theorem dL_isTold_1065 : decode cL_isTold 1065 = .ok (.dup2, 1) := by decide +kernel
theorem dL_isTold_1066 : decode cL_isTold 1066 = .ok (.iaload, 1) := by decide +kernel
theorem dL_isTold_1067 : decode cL_isTold 1067 = .ok (.iload 15, 2) := by decide +kernel
theorem dL_isTold_1069 : decode cL_isTold 1069 = .ok (.ifCond .eq 15, 3) := by decide +kernel
theorem dL_isTold_1072 : decode cL_isTold 1072 = .ok (.sipush 1024, 3) := by decide +kernel
theorem dL_isTold_1075 : decode cL_isTold 1075 = .ok (.iload 12, 2) := by decide +kernel
theorem dL_isTold_1077 : decode cL_isTold 1077 = .ok (.iload 14, 2) := by decide +kernel
theorem dL_isTold_1079 : decode cL_isTold 1079 = .ok (.isub, 1) := by decide +kernel
theorem dL_isTold_1080 : decode cL_isTold 1080 = .ok (.imul, 1) := by decide +kernel
theorem dL_isTold_1081 : decode cL_isTold 1081 = .ok (.goto 4, 3) := by decide +kernel
theorem dL_isTold_1084 : decode cL_isTold 1084 = .ok (.iconst 0, 1) := by decide +kernel
theorem dL_isTold_1085 : decode cL_isTold 1085 = .ok (.iadd, 1) := by decide +kernel
theorem dL_isTold_1086 : decode cL_isTold 1086 = .ok (.iastore, 1) := by decide +kernel
theorem dL_isTold_1087 : decode cL_isTold 1087 = .ok (.aload_n 0, 1) := by decide +kernel
theorem dL_isTold_1088 : decode cL_isTold 1088 = .ok (.iconst 5, 1) := by decide +kernel
theorem dL_isTold_1089 : decode cL_isTold 1089 = .ok (.iload 10, 2) := by decide +kernel
theorem dL_isTold_1091 : decode cL_isTold 1091 = .ok (.iload 12, 2) := by decide +kernel
theorem dL_isTold_1093 : decode cL_isTold 1093 = .ok (.iconst 0, 1) := by decide +kernel
theorem dL_isTold_1094 : decode cL_isTold 1094 = .ok (.iconst 0, 1) := by decide +kernel
theorem dL_isTold_1095 : decode cL_isTold 1095 = .ok (.invokestatic 161, 3) := by decide +kernel
theorem dL_isTold_1098 : decode cL_isTold 1098 = .ok (.iload 13, 2) := by decide +kernel
theorem dL_isTold_1100 : decode cL_isTold 1100 = .ok (.ifCond .ne 8, 3) := by decide +kernel
theorem dL_isTold_1103 : decode cL_isTold 1103 = .ok (.ldc 84, 2) := by decide +kernel
theorem dL_isTold_1105 : decode cL_isTold 1105 = .ok (.goto 15, 3) := by decide +kernel
theorem dL_isTold_1108 : decode cL_isTold 1108 = .ok (.iload 15, 2) := by decide +kernel
theorem dL_isTold_1110 : decode cL_isTold 1110 = .ok (.ifCond .eq 8, 3) := by decide +kernel
theorem dL_isTold_1113 : decode cL_isTold 1113 = .ok (.iload 14, 2) := by decide +kernel
theorem dL_isTold_1115 : decode cL_isTold 1115 = .ok (.goto 5, 3) := by decide +kernel
theorem dL_isTold_1118 : decode cL_isTold 1118 = .ok (.ldc 90, 2) := by decide +kernel
theorem dL_isTold_1120 : decode cL_isTold 1120 = .ok (.if_icmp .ne 7, 3) := by decide +kernel
theorem dL_isTold_1123 : decode cL_isTold 1123 = .ok (.iconst 1, 1) := by decide +kernel
theorem dL_isTold_1124 : decode cL_isTold 1124 = .ok (.goto 4, 3) := by decide +kernel
theorem dL_isTold_1127 : decode cL_isTold 1127 = .ok (.iconst 0, 1) := by decide +kernel
theorem dL_isTold_1128 : decode cL_isTold 1128 = .ok (.ireturn, 1) := by decide +kernel
theorem dL_isTold_1129 : decode cL_isTold 1129 = .ok (.iload 6, 2) := by decide +kernel
theorem dL_isTold_1131 : decode cL_isTold 1131 = .ok (.bipush 6, 2) := by decide +kernel
theorem dL_isTold_1133 : decode cL_isTold 1133 = .ok (.if_icmp .ne 135, 3) := by decide +kernel
theorem dL_isTold_1136 : decode cL_isTold 1136 = .ok (.iload 7, 2) := by decide +kernel
theorem dL_isTold_1138 : decode cL_isTold 1138 = .ok (.bipush 13, 2) := by decide +kernel
theorem dL_isTold_1140 : decode cL_isTold 1140 = .ok (.irem, 1) := by decide +kernel
theorem dL_isTold_1141 : decode cL_isTold 1141 = .ok (.bipush 12, 2) := by decide +kernel
theorem dL_isTold_1143 : decode cL_isTold 1143 = .ok (.if_icmp .ne 7, 3) := by decide +kernel
theorem dL_isTold_1146 : decode cL_isTold 1146 = .ok (.iconst 5, 1) := by decide +kernel
theorem dL_isTold_1147 : decode cL_isTold 1147 = .ok (.goto 7, 3) := by decide +kernel
theorem dL_isTold_1150 : decode cL_isTold 1150 = .ok (.iload 7, 2) := by decide +kernel
theorem dL_isTold_1152 : decode cL_isTold 1152 = .ok (.iconst 2, 1) := by decide +kernel
theorem dL_isTold_1153 : decode cL_isTold 1153 = .ok (.irem, 1) := by decide +kernel
theorem dL_isTold_1154 : decode cL_isTold 1154 = .ok (.istore 12, 2) := by decide +kernel
theorem dL_isTold_1156 : decode cL_isTold 1156 = .ok (.iload 8, 2) := by decide +kernel
theorem dL_isTold_1158 : decode cL_isTold 1158 = .ok (.iconst 3, 1) := by decide +kernel
theorem dL_isTold_1159 : decode cL_isTold 1159 = .ok (.irem, 1) := by decide +kernel
theorem dL_isTold_1160 : decode cL_isTold 1160 = .ok (.ifCond .ne 7, 3) := by decide +kernel
theorem dL_isTold_1163 : decode cL_isTold 1163 = .ok (.iconst 1, 1) := by decide +kernel
theorem dL_isTold_1164 : decode cL_isTold 1164 = .ok (.goto 4, 3) := by decide +kernel
theorem dL_isTold_1167 : decode cL_isTold 1167 = .ok (.iconst 0, 1) := by decide +kernel
theorem dL_isTold_1168 : decode cL_isTold 1168 = .ok (.istore 13, 2) := by decide +kernel
theorem dL_isTold_1170 : decode cL_isTold 1170 = .ok (.aload 5, 2) := by decide +kernel
theorem dL_isTold_1172 : decode cL_isTold 1172 = .ok (.iconst 5, 1) := by decide +kernel
theorem dL_isTold_1173 : decode cL_isTold 1173 = .ok (.iaload, 1) := by decide +kernel
theorem dL_isTold_1174 : decode cL_isTold 1174 = .ok (.iload 12, 2) := by decide +kernel
theorem dL_isTold_1176 : decode cL_isTold 1176 = .ok (.ishr, 1) := by decide +kernel
theorem dL_isTold_1177 : decode cL_isTold 1177 = .ok (.iconst 1, 1) := by decide +kernel
theorem dL_isTold_1178 : decode cL_isTold 1178 = .ok (.iand, 1) := by decide +kernel
theorem dL_isTold_1179 : decode cL_isTold 1179 = .ok (.istore 14, 2) := by decide +kernel
theorem dL_isTold_1181 : decode cL_isTold 1181 = .ok (.aload 5, 2) := by decide +kernel
theorem dL_isTold_1183 : decode cL_isTold 1183 = .ok (.iconst 5, 1) := by decide +kernel
theorem dL_isTold_1184 : decode cL_isTold 1184 = .ok (.iload 12, 2) := by decide +kernel
theorem dL_isTold_1186 : decode cL_isTold 1186 = .ok (.iconst 5, 1) := by decide +kernel
theorem dL_isTold_1187 : decode cL_isTold 1187 = .ok (.if_icmp .ne 10, 3) := by decide +kernel
theorem dL_isTold_1190 : decode cL_isTold 1190 = .ok (.aload 5, 2) := by decide +kernel
theorem dL_isTold_1192 : decode cL_isTold 1192 = .ok (.iconst 5, 1) := by decide +kernel
theorem dL_isTold_1193 : decode cL_isTold 1193 = .ok (.iaload, 1) := by decide +kernel
theorem dL_isTold_1194 : decode cL_isTold 1194 = .ok (.goto 31, 3) := by decide +kernel
theorem dL_isTold_1197 : decode cL_isTold 1197 = .ok (.iload 13, 2) := by decide +kernel
theorem dL_isTold_1199 : decode cL_isTold 1199 = .ok (.ifCond .eq 15, 3) := by decide +kernel
theorem dL_isTold_1202 : decode cL_isTold 1202 = .ok (.aload 5, 2) := by decide +kernel
theorem dL_isTold_1204 : decode cL_isTold 1204 = .ok (.iconst 5, 1) := by decide +kernel
theorem dL_isTold_1205 : decode cL_isTold 1205 = .ok (.iaload, 1) := by decide +kernel
theorem dL_isTold_1206 : decode cL_isTold 1206 = .ok (.iconst 1, 1) := by decide +kernel
theorem dL_isTold_1207 : decode cL_isTold 1207 = .ok (.iload 12, 2) := by decide +kernel
theorem dL_isTold_1209 : decode cL_isTold 1209 = .ok (.ishl, 1) := by decide +kernel
theorem dL_isTold_1210 : decode cL_isTold 1210 = .ok (.ior, 1) := by decide +kernel
theorem dL_isTold_1211 : decode cL_isTold 1211 = .ok (.goto 14, 3) := by decide +kernel
theorem dL_isTold_1214 : decode cL_isTold 1214 = .ok (.aload 5, 2) := by decide +kernel
theorem dL_isTold_1216 : decode cL_isTold 1216 = .ok (.iconst 5, 1) := by decide +kernel
theorem dL_isTold_1217 : decode cL_isTold 1217 = .ok (.iaload, 1) := by decide +kernel
theorem dL_isTold_1218 : decode cL_isTold 1218 = .ok (.iconst 1, 1) := by decide +kernel
theorem dL_isTold_1219 : decode cL_isTold 1219 = .ok (.iload 12, 2) := by decide +kernel
theorem dL_isTold_1221 : decode cL_isTold 1221 = .ok (.ishl, 1) := by decide +kernel
theorem dL_isTold_1222 : decode cL_isTold 1222 = .ok (.iconst (-1), 1) := by decide +kernel
theorem dL_isTold_1223 : decode cL_isTold 1223 = .ok (.ixor, 1) := by decide +kernel
theorem dL_isTold_1224 : decode cL_isTold 1224 = .ok (.iand, 1) := by decide +kernel
theorem dL_isTold_1225 : decode cL_isTold 1225 = .ok (.iastore, 1) := by decide +kernel
theorem dL_isTold_1226 : decode cL_isTold 1226 = .ok (.aload_n 0, 1) := by decide +kernel
theorem dL_isTold_1227 : decode cL_isTold 1227 = .ok (.bipush 6, 2) := by decide +kernel
theorem dL_isTold_1229 : decode cL_isTold 1229 = .ok (.iload 12, 2) := by decide +kernel
theorem dL_isTold_1231 : decode cL_isTold 1231 = .ok (.iload 13, 2) := by decide +kernel
theorem dL_isTold_1233 : decode cL_isTold 1233 = .ok (.ifCond .eq 7, 3) := by decide +kernel
theorem dL_isTold_1236 : decode cL_isTold 1236 = .ok (.iconst 1, 1) := by decide +kernel
theorem dL_isTold_1237 : decode cL_isTold 1237 = .ok (.goto 4, 3) := by decide +kernel
theorem dL_isTold_1240 : decode cL_isTold 1240 = .ok (.iconst 0, 1) := by decide +kernel
theorem dL_isTold_1241 : decode cL_isTold 1241 = .ok (.iconst 0, 1) := by decide +kernel
theorem dL_isTold_1242 : decode cL_isTold 1242 = .ok (.iconst 0, 1) := by decide +kernel
theorem dL_isTold_1243 : decode cL_isTold 1243 = .ok (.invokestatic 161, 3) := by decide +kernel
theorem dL_isTold_1246 : decode cL_isTold 1246 = .ok (.iload 12, 2) := by decide +kernel
theorem dL_isTold_1248 : decode cL_isTold 1248 = .ok (.iconst 5, 1) := by decide +kernel
theorem dL_isTold_1249 : decode cL_isTold 1249 = .ok (.if_icmp .ne 8, 3) := by decide +kernel
theorem dL_isTold_1252 : decode cL_isTold 1252 = .ok (.ldc 84, 2) := by decide +kernel
theorem dL_isTold_1254 : decode cL_isTold 1254 = .ok (.goto 5, 3) := by decide +kernel
theorem dL_isTold_1257 : decode cL_isTold 1257 = .ok (.iload 14, 2) := by decide +kernel
theorem dL_isTold_1259 : decode cL_isTold 1259 = .ok (.if_icmp .ne 7, 3) := by decide +kernel
theorem dL_isTold_1262 : decode cL_isTold 1262 = .ok (.iconst 1, 1) := by decide +kernel
theorem dL_isTold_1263 : decode cL_isTold 1263 = .ok (.goto 4, 3) := by decide +kernel
theorem dL_isTold_1266 : decode cL_isTold 1266 = .ok (.iconst 0, 1) := by decide +kernel
theorem dL_isTold_1267 : decode cL_isTold 1267 = .ok (.ireturn, 1) := by decide +kernel
theorem dL_isTold_1268 : decode cL_isTold 1268 = .ok (.iload 8, 2) := by decide +kernel
theorem dL_isTold_1270 : decode cL_isTold 1270 = .ok (.iconst 5, 1) := by decide +kernel
theorem dL_isTold_1271 : decode cL_isTold 1271 = .ok (.irem, 1) := by decide +kernel
theorem dL_isTold_1272 : decode cL_isTold 1272 = .ok (.iconst 4, 1) := by decide +kernel
theorem dL_isTold_1273 : decode cL_isTold 1273 = .ok (.if_icmp .ne 10, 3) := by decide +kernel
theorem dL_isTold_1276 : decode cL_isTold 1276 = .ok (.aload 5, 2) := by decide +kernel
theorem dL_isTold_1278 : decode cL_isTold 1278 = .ok (.iconst 1, 1) := by decide +kernel
theorem dL_isTold_1279 : decode cL_isTold 1279 = .ok (.iaload, 1) := by decide +kernel
theorem dL_isTold_1280 : decode cL_isTold 1280 = .ok (.goto 14, 3) := by decide +kernel
theorem dL_isTold_1283 : decode cL_isTold 1283 = .ok (.iload 8, 2) := by decide +kernel
theorem dL_isTold_1285 : decode cL_isTold 1285 = .ok (.aload 5, 2) := by decide +kernel
theorem dL_isTold_1287 : decode cL_isTold 1287 = .ok (.iconst 1, 1) := by decide +kernel
theorem dL_isTold_1288 : decode cL_isTold 1288 = .ok (.iaload, 1) := by decide +kernel
theorem dL_isTold_1289 : decode cL_isTold 1289 = .ok (.iconst 1, 1) := by decide +kernel
theorem dL_isTold_1290 : decode cL_isTold 1290 = .ok (.iadd, 1) := by decide +kernel
theorem dL_isTold_1291 : decode cL_isTold 1291 = .ok (.irem, 1) := by decide +kernel
theorem dL_isTold_1292 : decode cL_isTold 1292 = .ok (.iconst 1, 1) := by decide +kernel
theorem dL_isTold_1293 : decode cL_isTold 1293 = .ok (.isub, 1) := by decide +kernel
theorem dL_isTold_1294 : decode cL_isTold 1294 = .ok (.istore 12, 2) := by decide +kernel
theorem dL_isTold_1296 : decode cL_isTold 1296 = .ok (.iload 11, 2) := by decide +kernel
theorem dL_isTold_1298 : decode cL_isTold 1298 = .ok (.ifCond .eq 16, 3) := by decide +kernel
theorem dL_isTold_1301 : decode cL_isTold 1301 = .ok (.iload 12, 2) := by decide +kernel
theorem dL_isTold_1303 : decode cL_isTold 1303 = .ok (.aload 5, 2) := by decide +kernel
theorem dL_isTold_1305 : decode cL_isTold 1305 = .ok (.iconst 1, 1) := by decide +kernel
theorem dL_isTold_1306 : decode cL_isTold 1306 = .ok (.iaload, 1) := by decide +kernel
theorem dL_isTold_1307 : decode cL_isTold 1307 = .ok (.if_icmp .ge 7, 3) := by decide +kernel
theorem dL_isTold_1310 : decode cL_isTold 1310 = .ok (.iconst 1, 1) := by decide +kernel
theorem dL_isTold_1311 : decode cL_isTold 1311 = .ok (.goto 4, 3) := by decide +kernel
theorem dL_isTold_1314 : decode cL_isTold 1314 = .ok (.iconst 0, 1) := by decide +kernel
theorem dL_isTold_1315 : decode cL_isTold 1315 = .ok (.istore 13, 2) := by decide +kernel
theorem dL_isTold_1317 : decode cL_isTold 1317 = .ok (.iload 11, 2) := by decide +kernel
theorem dL_isTold_1319 : decode cL_isTold 1319 = .ok (.ifCond .eq 20, 3) := by decide +kernel
theorem dL_isTold_1322 : decode cL_isTold 1322 = .ok (.aload 4, 2) := by decide +kernel
theorem dL_isTold_1324 : decode cL_isTold 1324 = .ok (.iload 10, 2) := by decide +kernel
theorem dL_isTold_1326 : decode cL_isTold 1326 = .ok (.iaload, 1) := by decide +kernel
theorem dL_isTold_1327 : decode cL_isTold 1327 = .ok (.sipush 128, 3) := by decide +kernel
theorem dL_isTold_1330 : decode cL_isTold 1330 = .ok (.idiv, 1) := by decide +kernel
theorem dL_isTold_1331 : decode cL_isTold 1331 = .ok (.bipush 8, 2) := by decide +kernel
theorem dL_isTold_1333 : decode cL_isTold 1333 = .ok (.irem, 1) := by decide +kernel
theorem dL_isTold_1334 : decode cL_isTold 1334 = .ok (.iconst 1, 1) := by decide +kernel
theorem dL_isTold_1335 : decode cL_isTold 1335 = .ok (.isub, 1) := by decide +kernel
theorem dL_isTold_1336 : decode cL_isTold 1336 = .ok (.goto 4, 3) := by decide +kernel
theorem dL_isTold_1339 : decode cL_isTold 1339 = .ok (.iconst 0, 1) := by decide +kernel
theorem dL_isTold_1340 : decode cL_isTold 1340 = .ok (.istore 14, 2) := by decide +kernel
theorem dL_isTold_1342 : decode cL_isTold 1342 = .ok (.aload 4, 2) := by decide +kernel
theorem dL_isTold_1344 : decode cL_isTold 1344 = .ok (.iload 13, 2) := by decide +kernel
theorem dL_isTold_1346 : decode cL_isTold 1346 = .ok (.ifCond .eq 8, 3) := by decide +kernel
theorem dL_isTold_1349 : decode cL_isTold 1349 = .ok (.iload 10, 2) := by decide +kernel
theorem dL_isTold_1351 : decode cL_isTold 1351 = .ok (.goto 4, 3) := by decide +kernel
theorem dL_isTold_1354 : decode cL_isTold 1354 = .ok (.iconst 3, 1) := by decide +kernel
theorem dL_isTold_1355 : decode cL_isTold 1355 = .ok (.dup2, 1) := by decide +kernel
theorem dL_isTold_1356 : decode cL_isTold 1356 = .ok (.iaload, 1) := by decide +kernel
theorem dL_isTold_1357 : decode cL_isTold 1357 = .ok (.iload 13, 2) := by decide +kernel
theorem dL_isTold_1359 : decode cL_isTold 1359 = .ok (.ifCond .eq 15, 3) := by decide +kernel
theorem dL_isTold_1362 : decode cL_isTold 1362 = .ok (.sipush 128, 3) := by decide +kernel
theorem dL_isTold_1365 : decode cL_isTold 1365 = .ok (.iload 12, 2) := by decide +kernel
theorem dL_isTold_1367 : decode cL_isTold 1367 = .ok (.iload 14, 2) := by decide +kernel
theorem dL_isTold_1369 : decode cL_isTold 1369 = .ok (.isub, 1) := by decide +kernel
theorem dL_isTold_1370 : decode cL_isTold 1370 = .ok (.imul, 1) := by decide +kernel
theorem dL_isTold_1371 : decode cL_isTold 1371 = .ok (.goto 4, 3) := by decide +kernel
theorem dL_isTold_1374 : decode cL_isTold 1374 = .ok (.iconst 0, 1) := by decide +kernel
theorem dL_isTold_1375 : decode cL_isTold 1375 = .ok (.iadd, 1) := by decide +kernel
theorem dL_isTold_1376 : decode cL_isTold 1376 = .ok (.iastore, 1) := by decide +kernel
theorem dL_isTold_1377 : decode cL_isTold 1377 = .ok (.aload_n 0, 1) := by decide +kernel
theorem dL_isTold_1378 : decode cL_isTold 1378 = .ok (.bipush 7, 2) := by decide +kernel
theorem dL_isTold_1380 : decode cL_isTold 1380 = .ok (.iload 10, 2) := by decide +kernel
theorem dL_isTold_1382 : decode cL_isTold 1382 = .ok (.iload 12, 2) := by decide +kernel
theorem dL_isTold_1384 : decode cL_isTold 1384 = .ok (.iconst 0, 1) := by decide +kernel
theorem dL_isTold_1385 : decode cL_isTold 1385 = .ok (.iconst 0, 1) := by decide +kernel
theorem dL_isTold_1386 : decode cL_isTold 1386 = .ok (.invokestatic 161, 3) := by decide +kernel
theorem dL_isTold_1389 : decode cL_isTold 1389 = .ok (.iload 13, 2) := by decide +kernel
theorem dL_isTold_1391 : decode cL_isTold 1391 = .ok (.ifCond .eq 8, 3) := by decide +kernel
theorem dL_isTold_1394 : decode cL_isTold 1394 = .ok (.iload 14, 2) := by decide +kernel
theorem dL_isTold_1396 : decode cL_isTold 1396 = .ok (.goto 5, 3) := by decide +kernel
theorem dL_isTold_1399 : decode cL_isTold 1399 = .ok (.ldc 84, 2) := by decide +kernel
theorem dL_isTold_1401 : decode cL_isTold 1401 = .ok (.if_icmp .ne 7, 3) := by decide +kernel
theorem dL_isTold_1404 : decode cL_isTold 1404 = .ok (.iconst 1, 1) := by decide +kernel
theorem dL_isTold_1405 : decode cL_isTold 1405 = .ok (.goto 4, 3) := by decide +kernel
theorem dL_isTold_1408 : decode cL_isTold 1408 = .ok (.iconst 0, 1) := by decide +kernel
theorem dL_isTold_1409 : decode cL_isTold 1409 = .ok (.ireturn, 1) := by decide +kernel
theorem dL_isStruck_0 : decode cL_isStruck 0 = .ok (.iload 12, 2) := by decide +kernel
theorem dL_isStruck_2 : decode cL_isStruck 2 = .ok (.aload 10, 2) := by decide +kernel
theorem dL_isStruck_4 : decode cL_isStruck 4 = .ok (.iconst 2, 1) := by decide +kernel
theorem dL_isStruck_5 : decode cL_isStruck 5 = .ok (.iaload, 1) := by decide +kernel
theorem dL_isStruck_6 : decode cL_isStruck 6 = .ok (.iconst 1, 1) := by decide +kernel
theorem dL_isStruck_7 : decode cL_isStruck 7 = .ok (.iadd, 1) := by decide +kernel
theorem dL_isStruck_8 : decode cL_isStruck 8 = .ok (.irem, 1) := by decide +kernel
theorem dL_isStruck_9 : decode cL_isStruck 9 = .ok (.istore 14, 2) := by decide +kernel
theorem dL_isStruck_11 : decode cL_isStruck 11 = .ok (.iload 14, 2) := by decide +kernel
theorem dL_isStruck_13 : decode cL_isStruck 13 = .ok (.aload 10, 2) := by decide +kernel
theorem dL_isStruck_15 : decode cL_isStruck 15 = .ok (.iconst 2, 1) := by decide +kernel
theorem dL_isStruck_16 : decode cL_isStruck 16 = .ok (.iaload, 1) := by decide +kernel
theorem dL_isStruck_17 : decode cL_isStruck 17 = .ok (.if_icmp .ge 7, 3) := by decide +kernel
theorem dL_isStruck_20 : decode cL_isStruck 20 = .ok (.iconst 1, 1) := by decide +kernel
theorem dL_isStruck_21 : decode cL_isStruck 21 = .ok (.goto 4, 3) := by decide +kernel
theorem dL_isStruck_24 : decode cL_isStruck 24 = .ok (.iconst 0, 1) := by decide +kernel
theorem dL_isStruck_25 : decode cL_isStruck 25 = .ok (.istore 15, 2) := by decide +kernel
theorem dL_isStruck_27 : decode cL_isStruck 27 = .ok (.iload 15, 2) := by decide +kernel
theorem dL_isStruck_29 : decode cL_isStruck 29 = .ok (.ifCond .eq 13, 3) := by decide +kernel
theorem dL_isStruck_32 : decode cL_isStruck 32 = .ok (.aload 5, 2) := by decide +kernel
theorem dL_isStruck_34 : decode cL_isStruck 34 = .ok (.iload 14, 2) := by decide +kernel
theorem dL_isStruck_36 : decode cL_isStruck 36 = .ok (.invokestatic 105, 3) := by decide +kernel
theorem dL_isStruck_39 : decode cL_isStruck 39 = .ok (.goto 4, 3) := by decide +kernel
theorem dL_isStruck_42 : decode cL_isStruck 42 = .ok (.iconst 0, 1) := by decide +kernel
theorem dL_isStruck_43 : decode cL_isStruck 43 = .ok (.istore 16, 2) := by decide +kernel
theorem dL_isStruck_45 : decode cL_isStruck 45 = .ok (.iload 15, 2) := by decide +kernel
theorem dL_isStruck_47 : decode cL_isStruck 47 = .ok (.ifCond .eq 13, 3) := by decide +kernel
theorem dL_isStruck_50 : decode cL_isStruck 50 = .ok (.aload 5, 2) := by decide +kernel
theorem dL_isStruck_52 : decode cL_isStruck 52 = .ok (.iload 14, 2) := by decide +kernel
theorem dL_isStruck_54 : decode cL_isStruck 54 = .ok (.invokestatic 101, 3) := by decide +kernel
theorem dL_isStruck_57 : decode cL_isStruck 57 = .ok (.goto 4, 3) := by decide +kernel
theorem dL_isStruck_60 : decode cL_isStruck 60 = .ok (.iconst 0, 1) := by decide +kernel
theorem dL_isStruck_61 : decode cL_isStruck 61 = .ok (.istore 17, 2) := by decide +kernel
theorem dL_isStruck_63 : decode cL_isStruck 63 = .ok (.iload 12, 2) := by decide +kernel
theorem dL_isStruck_65 : decode cL_isStruck 65 = .ok (.iconst 4, 1) := by decide +kernel
theorem dL_isStruck_66 : decode cL_isStruck 66 = .ok (.idiv, 1) := by decide +kernel
theorem dL_isStruck_67 : decode cL_isStruck 67 = .ok (.bipush 9, 2) := by decide +kernel
theorem dL_isStruck_69 : decode cL_isStruck 69 = .ok (.irem, 1) := by decide +kernel
theorem dL_isStruck_70 : decode cL_isStruck 70 = .ok (.bipush 8, 2) := by decide +kernel
theorem dL_isStruck_72 : decode cL_isStruck 72 = .ok (.if_icmp .ne 8, 3) := by decide +kernel
theorem dL_isStruck_75 : decode cL_isStruck 75 = .ok (.iload 16, 2) := by decide +kernel
theorem dL_isStruck_77 : decode cL_isStruck 77 = .ok (.goto 19, 3) := by decide +kernel
theorem dL_isStruck_80 : decode cL_isStruck 80 = .ok (.iload 16, 2) := by decide +kernel
theorem dL_isStruck_82 : decode cL_isStruck 82 = .ok (.ifCond .ne 7, 3) := by decide +kernel
theorem dL_isStruck_85 : decode cL_isStruck 85 = .ok (.iconst 0, 1) := by decide +kernel
theorem dL_isStruck_86 : decode cL_isStruck 86 = .ok (.goto 10, 3) := by decide +kernel
theorem dL_isStruck_89 : decode cL_isStruck 89 = .ok (.iload 12, 2) := by decide +kernel
theorem dL_isStruck_91 : decode cL_isStruck 91 = .ok (.iconst 4, 1) := by decide +kernel
theorem dL_isStruck_92 : decode cL_isStruck 92 = .ok (.idiv, 1) := by decide +kernel
theorem dL_isStruck_93 : decode cL_isStruck 93 = .ok (.iload 16, 2) := by decide +kernel
theorem dL_isStruck_95 : decode cL_isStruck 95 = .ok (.irem, 1) := by decide +kernel
theorem dL_isStruck_96 : decode cL_isStruck 96 = .ok (.istore 18, 2) := by decide +kernel
theorem dL_isStruck_98 : decode cL_isStruck 98 = .ok (.iload 11, 2) := by decide +kernel
theorem dL_isStruck_100 : decode cL_isStruck 100 = .ok (.ifCond .ne 262, 3) := by decide +kernel
theorem dL_isStruck_103 : decode cL_isStruck 103 = .ok (.iload 15, 2) := by decide +kernel
theorem dL_isStruck_105 : decode cL_isStruck 105 = .ok (.ifCond .eq 34, 3) := by decide +kernel
theorem dL_isStruck_108 : decode cL_isStruck 108 = .ok (.iload 13, 2) := by decide +kernel
theorem dL_isStruck_110 : decode cL_isStruck 110 = .ok (.aload_n 1, 1) := by decide +kernel
theorem dL_isStruck_111 : decode cL_isStruck 111 = .ok (.aload 5, 2) := by decide +kernel
theorem dL_isStruck_113 : decode cL_isStruck 113 = .ok (.iload 14, 2) := by decide +kernel
theorem dL_isStruck_115 : decode cL_isStruck 115 = .ok (.iaload, 1) := by decide +kernel
theorem dL_isStruck_116 : decode cL_isStruck 116 = .ok (.iconst 4, 1) := by decide +kernel
theorem dL_isStruck_117 : decode cL_isStruck 117 = .ok (.irem, 1) := by decide +kernel
theorem dL_isStruck_118 : decode cL_isStruck 118 = .ok (.iaload, 1) := by decide +kernel
theorem dL_isStruck_119 : decode cL_isStruck 119 = .ok (.iload 13, 2) := by decide +kernel
theorem dL_isStruck_121 : decode cL_isStruck 121 = .ok (.iconst 4, 1) := by decide +kernel
theorem dL_isStruck_122 : decode cL_isStruck 122 = .ok (.idiv, 1) := by decide +kernel
theorem dL_isStruck_123 : decode cL_isStruck 123 = .ok (.bipush 9, 2) := by decide +kernel
theorem dL_isStruck_125 : decode cL_isStruck 125 = .ok (.irem, 1) := by decide +kernel
theorem dL_isStruck_126 : decode cL_isStruck 126 = .ok (.ifCond .ne 7, 3) := by decide +kernel
theorem dL_isStruck_129 : decode cL_isStruck 129 = .ok (.iconst 1, 1) := by decide +kernel
theorem dL_isStruck_130 : decode cL_isStruck 130 = .ok (.goto 4, 3) := by decide +kernel
theorem dL_isStruck_133 : decode cL_isStruck 133 = .ok (.iconst 0, 1) := by decide +kernel
theorem dL_isStruck_134 : decode cL_isStruck 134 = .ok (.iadd, 1) := by decide +kernel
theorem dL_isStruck_135 : decode cL_isStruck 135 = .ok (.irem, 1) := by decide +kernel
theorem dL_isStruck_136 : decode cL_isStruck 136 = .ok (.goto 4, 3) := by decide +kernel
theorem dL_isStruck_139 : decode cL_isStruck 139 = .ok (.iconst 0, 1) := by decide +kernel
theorem dL_isStruck_140 : decode cL_isStruck 140 = .ok (.istore 19, 2) := by decide +kernel
theorem dL_isStruck_142 : decode cL_isStruck 142 = .ok (.iload 13, 2) := by decide +kernel
theorem dL_isStruck_144 : decode cL_isStruck 144 = .ok (.bipush 36, 2) := by decide +kernel
theorem dL_isStruck_146 : decode cL_isStruck 146 = .ok (.idiv, 1) := by decide +kernel
theorem dL_isStruck_147 : decode cL_isStruck 147 = .ok (.bipush 9, 2) := by decide +kernel
theorem dL_isStruck_149 : decode cL_isStruck 149 = .ok (.irem, 1) := by decide +kernel
theorem dL_isStruck_150 : decode cL_isStruck 150 = .ok (.ifCond .ne 16, 3) := by decide +kernel
theorem dL_isStruck_153 : decode cL_isStruck 153 = .ok (.iload 13, 2) := by decide +kernel
theorem dL_isStruck_155 : decode cL_isStruck 155 = .ok (.sipush 324, 3) := by decide +kernel
theorem dL_isStruck_158 : decode cL_isStruck 158 = .ok (.idiv, 1) := by decide +kernel
theorem dL_isStruck_159 : decode cL_isStruck 159 = .ok (.sipush 361, 3) := by decide +kernel
theorem dL_isStruck_162 : decode cL_isStruck 162 = .ok (.irem, 1) := by decide +kernel
theorem dL_isStruck_163 : decode cL_isStruck 163 = .ok (.goto 12, 3) := by decide +kernel
theorem dL_isStruck_166 : decode cL_isStruck 166 = .ok (.iload 13, 2) := by decide +kernel
theorem dL_isStruck_168 : decode cL_isStruck 168 = .ok (.bipush 36, 2) := by decide +kernel
theorem dL_isStruck_170 : decode cL_isStruck 170 = .ok (.idiv, 1) := by decide +kernel
theorem dL_isStruck_171 : decode cL_isStruck 171 = .ok (.sipush 360, 3) := by decide +kernel
theorem dL_isStruck_174 : decode cL_isStruck 174 = .ok (.irem, 1) := by decide +kernel
theorem dL_isStruck_175 : decode cL_isStruck 175 = .ok (.istore 20, 2) := by decide +kernel
theorem dL_isStruck_177 : decode cL_isStruck 177 = .ok (.iload 15, 2) := by decide +kernel
theorem dL_isStruck_179 : decode cL_isStruck 179 = .ok (.ifCond .eq 28, 3) := by decide +kernel
theorem dL_isStruck_182 : decode cL_isStruck 182 = .ok (.iload 19, 2) := by decide +kernel
theorem dL_isStruck_184 : decode cL_isStruck 184 = .ok (.aload_n 1, 1) := by decide +kernel
theorem dL_isStruck_185 : decode cL_isStruck 185 = .ok (.aload 5, 2) := by decide +kernel
theorem dL_isStruck_187 : decode cL_isStruck 187 = .ok (.iload 14, 2) := by decide +kernel
theorem dL_isStruck_189 : decode cL_isStruck 189 = .ok (.iaload, 1) := by decide +kernel
theorem dL_isStruck_190 : decode cL_isStruck 190 = .ok (.iconst 4, 1) := by decide +kernel
theorem dL_isStruck_191 : decode cL_isStruck 191 = .ok (.irem, 1) := by decide +kernel
theorem dL_isStruck_192 : decode cL_isStruck 192 = .ok (.iaload, 1) := by decide +kernel
theorem dL_isStruck_193 : decode cL_isStruck 193 = .ok (.if_icmp .ge 14, 3) := by decide +kernel
theorem dL_isStruck_196 : decode cL_isStruck 196 = .ok (.iload 18, 2) := by decide +kernel
theorem dL_isStruck_198 : decode cL_isStruck 198 = .ok (.iload 16, 2) := by decide +kernel
theorem dL_isStruck_200 : decode cL_isStruck 200 = .ok (.if_icmp .ge 7, 3) := by decide +kernel
theorem dL_isStruck_203 : decode cL_isStruck 203 = .ok (.iconst 1, 1) := by decide +kernel
theorem dL_isStruck_204 : decode cL_isStruck 204 = .ok (.goto 4, 3) := by decide +kernel
theorem dL_isStruck_207 : decode cL_isStruck 207 = .ok (.iconst 0, 1) := by decide +kernel
theorem dL_isStruck_208 : decode cL_isStruck 208 = .ok (.istore 21, 2) := by decide +kernel
theorem dL_isStruck_210 : decode cL_isStruck 210 = .ok (.iload 21, 2) := by decide +kernel
theorem dL_isStruck_212 : decode cL_isStruck 212 = .ok (.ifCond .eq 34, 3) := by decide +kernel
theorem dL_isStruck_215 : decode cL_isStruck 215 = .ok (.iload 20, 2) := by decide +kernel
theorem dL_isStruck_217 : decode cL_isStruck 217 = .ok (.sipush 360, 3) := by decide +kernel
theorem dL_isStruck_220 : decode cL_isStruck 220 = .ok (.if_icmp .ge 26, 3) := by decide +kernel
theorem dL_isStruck_223 : decode cL_isStruck 223 = .ok (.iload 18, 2) := by decide +kernel
theorem dL_isStruck_225 : decode cL_isStruck 225 = .ok (.iload 17, 2) := by decide +kernel
theorem dL_isStruck_227 : decode cL_isStruck 227 = .ok (.if_icmp .lt 19, 3) := by decide +kernel
theorem dL_isStruck_230 : decode cL_isStruck 230 = .ok (.aload 5, 2) := by decide +kernel
theorem dL_isStruck_232 : decode cL_isStruck 232 = .ok (.iload 14, 2) := by decide +kernel
theorem dL_isStruck_234 : decode cL_isStruck 234 = .ok (.iload 18, 2) := by decide +kernel
theorem dL_isStruck_236 : decode cL_isStruck 236 = .ok (.invokestatic 91, 3) := by decide +kernel
theorem dL_isStruck_239 : decode cL_isStruck 239 = .ok (.ifCond .ne 7, 3) := by decide +kernel
theorem dL_isStruck_242 : decode cL_isStruck 242 = .ok (.iconst 1, 1) := by decide +kernel
theorem dL_isStruck_243 : decode cL_isStruck 243 = .ok (.goto 4, 3) := by decide +kernel
theorem dL_isStruck_246 : decode cL_isStruck 246 = .ok (.iconst 0, 1) := by decide +kernel
theorem dL_isStruck_247 : decode cL_isStruck 247 = .ok (.istore 22, 2) := by decide +kernel
theorem dL_isStruck_249 : decode cL_isStruck 249 = .ok (.iload 21, 2) := by decide +kernel
theorem dL_isStruck_251 : decode cL_isStruck 251 = .ok (.ifCond .eq 19, 3) := by decide +kernel
theorem dL_isStruck_254 : decode cL_isStruck 254 = .ok (.aload 5, 2) := by decide +kernel
theorem dL_isStruck_256 : decode cL_isStruck 256 = .ok (.aload 6, 2) := by decide +kernel
theorem dL_isStruck_258 : decode cL_isStruck 258 = .ok (.iload 14, 2) := by decide +kernel
theorem dL_isStruck_260 : decode cL_isStruck 260 = .ok (.iload 19, 2) := by decide +kernel
theorem dL_isStruck_262 : decode cL_isStruck 262 = .ok (.iload 18, 2) := by decide +kernel
theorem dL_isStruck_264 : decode cL_isStruck 264 = .ok (.invokestatic 120, 3) := by decide +kernel
theorem dL_isStruck_267 : decode cL_isStruck 267 = .ok (.goto 4, 3) := by decide +kernel
theorem dL_isStruck_270 : decode cL_isStruck 270 = .ok (.iconst 0, 1) := by decide +kernel
theorem dL_isStruck_271 : decode cL_isStruck 271 = .ok (.istore 23, 2) := by decide +kernel
theorem dL_isStruck_273 : decode cL_isStruck 273 = .ok (.aload 6, 2) := by decide +kernel
theorem dL_isStruck_275 : decode cL_isStruck 275 = .ok (.iload 22, 2) := by decide +kernel
theorem dL_isStruck_277 : decode cL_isStruck 277 = .ok (.ifCond .eq 20, 3) := by decide +kernel
theorem dL_isStruck_280 : decode cL_isStruck 280 = .ok (.bipush 18, 2) := by decide +kernel
theorem dL_isStruck_282 : decode cL_isStruck 282 = .ok (.iload 14, 2) := by decide +kernel
theorem dL_isStruck_284 : decode cL_isStruck 284 = .ok (.imul, 1) := by decide +kernel
theorem dL_isStruck_285 : decode cL_isStruck 285 = .ok (.bipush 6, 2) := by decide +kernel
theorem dL_isStruck_287 : decode cL_isStruck 287 = .ok (.iload 19, 2) := by decide +kernel
theorem dL_isStruck_289 : decode cL_isStruck 289 = .ok (.imul, 1) := by decide +kernel
theorem dL_isStruck_290 : decode cL_isStruck 290 = .ok (.iadd, 1) := by decide +kernel
theorem dL_isStruck_291 : decode cL_isStruck 291 = .ok (.iload 18, 2) := by decide +kernel
theorem dL_isStruck_293 : decode cL_isStruck 293 = .ok (.iadd, 1) := by decide +kernel
theorem dL_isStruck_294 : decode cL_isStruck 294 = .ok (.goto 5, 3) := by decide +kernel
theorem dL_isStruck_297 : decode cL_isStruck 297 = .ok (.bipush 54, 2) := by decide +kernel
theorem dL_isStruck_299 : decode cL_isStruck 299 = .ok (.iload 20, 2) := by decide +kernel
theorem dL_isStruck_301 : decode cL_isStruck 301 = .ok (.iconst 1, 1) := by decide +kernel
theorem dL_isStruck_302 : decode cL_isStruck 302 = .ok (.iadd, 1) := by decide +kernel
theorem dL_isStruck_303 : decode cL_isStruck 303 = .ok (.iastore, 1) := by decide +kernel
theorem dL_isStruck_304 : decode cL_isStruck 304 = .ok (.aload_n 0, 1) := by decide +kernel
theorem dL_isStruck_305 : decode cL_isStruck 305 = .ok (.bipush 8, 2) := by decide +kernel
theorem dL_isStruck_307 : decode cL_isStruck 307 = .ok (.iload 14, 2) := by decide +kernel
theorem dL_isStruck_309 : decode cL_isStruck 309 = .ok (.iload 19, 2) := by decide +kernel
theorem dL_isStruck_311 : decode cL_isStruck 311 = .ok (.iload 18, 2) := by decide +kernel
theorem dL_isStruck_313 : decode cL_isStruck 313 = .ok (.iload 20, 2) := by decide +kernel
theorem dL_isStruck_315 : decode cL_isStruck 315 = .ok (.invokestatic 161, 3) := by decide +kernel
theorem dL_isStruck_318 : decode cL_isStruck 318 = .ok (.iload 21, 2) := by decide +kernel
theorem dL_isStruck_320 : decode cL_isStruck 320 = .ok (.ifCond .ne 8, 3) := by decide +kernel
theorem dL_isStruck_323 : decode cL_isStruck 323 = .ok (.ldc 84, 2) := by decide +kernel
theorem dL_isStruck_325 : decode cL_isStruck 325 = .ok (.goto 28, 3) := by decide +kernel
theorem dL_isStruck_328 : decode cL_isStruck 328 = .ok (.iload 20, 2) := by decide +kernel
theorem dL_isStruck_330 : decode cL_isStruck 330 = .ok (.sipush 360, 3) := by decide +kernel
theorem dL_isStruck_333 : decode cL_isStruck 333 = .ok (.if_icmp .ne 8, 3) := by decide +kernel
theorem dL_isStruck_336 : decode cL_isStruck 336 = .ok (.ldc 87, 2) := by decide +kernel
theorem dL_isStruck_338 : decode cL_isStruck 338 = .ok (.goto 15, 3) := by decide +kernel
theorem dL_isStruck_341 : decode cL_isStruck 341 = .ok (.iload 22, 2) := by decide +kernel
theorem dL_isStruck_343 : decode cL_isStruck 343 = .ok (.ifCond .eq 8, 3) := by decide +kernel
theorem dL_isStruck_346 : decode cL_isStruck 346 = .ok (.iload 23, 2) := by decide +kernel
theorem dL_isStruck_348 : decode cL_isStruck 348 = .ok (.goto 5, 3) := by decide +kernel
theorem dL_isStruck_351 : decode cL_isStruck 351 = .ok (.ldc 90, 2) := by decide +kernel
theorem dL_isStruck_353 : decode cL_isStruck 353 = .ok (.if_icmp .ne 7, 3) := by decide +kernel
theorem dL_isStruck_356 : decode cL_isStruck 356 = .ok (.iconst 1, 1) := by decide +kernel
theorem dL_isStruck_357 : decode cL_isStruck 357 = .ok (.goto 4, 3) := by decide +kernel
theorem dL_isStruck_360 : decode cL_isStruck 360 = .ok (.iconst 0, 1) := by decide +kernel
theorem dL_isStruck_361 : decode cL_isStruck 361 = .ok (.ireturn, 1) := by decide +kernel
theorem dL_isStruck_362 : decode cL_isStruck 362 = .ok (.iload 11, 2) := by decide +kernel
theorem dL_isStruck_364 : decode cL_isStruck 364 = .ok (.iconst 1, 1) := by decide +kernel
theorem dL_isStruck_365 : decode cL_isStruck 365 = .ok (.if_icmp .ne 208, 3) := by decide +kernel
theorem dL_isStruck_368 : decode cL_isStruck 368 = .ok (.iload 13, 2) := by decide +kernel
theorem dL_isStruck_370 : decode cL_isStruck 370 = .ok (.bipush 9, 2) := by decide +kernel
theorem dL_isStruck_372 : decode cL_isStruck 372 = .ok (.irem, 1) := by decide +kernel
theorem dL_isStruck_373 : decode cL_isStruck 373 = .ok (.ifCond .ne 21, 3) := by decide +kernel
theorem dL_isStruck_376 : decode cL_isStruck 376 = .ok (.iload 13, 2) := by decide +kernel
theorem dL_isStruck_378 : decode cL_isStruck 378 = .ok (.bipush 9, 2) := by decide +kernel
theorem dL_isStruck_380 : decode cL_isStruck 380 = .ok (.idiv, 1) := by decide +kernel
theorem dL_isStruck_381 : decode cL_isStruck 381 = .ok (.iconst 2, 1) := by decide +kernel
theorem dL_isStruck_382 : decode cL_isStruck 382 = .ok (.irem, 1) := by decide +kernel
theorem dL_isStruck_383 : decode cL_isStruck 383 = .ok (.sipush 2000, 3) := by decide +kernel
theorem dL_isStruck_386 : decode cL_isStruck 386 = .ok (.imul, 1) := by decide +kernel
theorem dL_isStruck_387 : decode cL_isStruck 387 = .ok (.sipush 1000, 3) := by decide +kernel
theorem dL_isStruck_390 : decode cL_isStruck 390 = .ok (.isub, 1) := by decide +kernel
theorem dL_isStruck_391 : decode cL_isStruck 391 = .ok (.goto 13, 3) := by decide +kernel
theorem dL_isStruck_394 : decode cL_isStruck 394 = .ok (.iload 13, 2) := by decide +kernel
theorem dL_isStruck_396 : decode cL_isStruck 396 = .ok (.sipush 1999, 3) := by decide +kernel
theorem dL_isStruck_399 : decode cL_isStruck 399 = .ok (.irem, 1) := by decide +kernel
theorem dL_isStruck_400 : decode cL_isStruck 400 = .ok (.sipush 999, 3) := by decide +kernel
theorem dL_isStruck_403 : decode cL_isStruck 403 = .ok (.isub, 1) := by decide +kernel
theorem dL_isStruck_404 : decode cL_isStruck 404 = .ok (.istore 19, 2) := by decide +kernel
theorem dL_isStruck_406 : decode cL_isStruck 406 = .ok (.iload 15, 2) := by decide +kernel
theorem dL_isStruck_408 : decode cL_isStruck 408 = .ok (.ifCond .eq 14, 3) := by decide +kernel
theorem dL_isStruck_411 : decode cL_isStruck 411 = .ok (.iload 18, 2) := by decide +kernel
theorem dL_isStruck_413 : decode cL_isStruck 413 = .ok (.iload 16, 2) := by decide +kernel
theorem dL_isStruck_415 : decode cL_isStruck 415 = .ok (.if_icmp .ge 7, 3) := by decide +kernel
theorem dL_isStruck_418 : decode cL_isStruck 418 = .ok (.iconst 1, 1) := by decide +kernel
theorem dL_isStruck_419 : decode cL_isStruck 419 = .ok (.goto 4, 3) := by decide +kernel
theorem dL_isStruck_422 : decode cL_isStruck 422 = .ok (.iconst 0, 1) := by decide +kernel
theorem dL_isStruck_423 : decode cL_isStruck 423 = .ok (.istore 20, 2) := by decide +kernel
theorem dL_isStruck_425 : decode cL_isStruck 425 = .ok (.iload 19, 2) := by decide +kernel
theorem dL_isStruck_427 : decode cL_isStruck 427 = .ok (.sipush (-1000), 3) := by decide +kernel
theorem dL_isStruck_430 : decode cL_isStruck 430 = .ok (.if_icmp .le 15, 3) := by decide +kernel
theorem dL_isStruck_433 : decode cL_isStruck 433 = .ok (.iload 19, 2) := by decide +kernel
theorem dL_isStruck_435 : decode cL_isStruck 435 = .ok (.sipush 1000, 3) := by decide +kernel
theorem dL_isStruck_438 : decode cL_isStruck 438 = .ok (.if_icmp .ge 7, 3) := by decide +kernel
theorem dL_isStruck_441 : decode cL_isStruck 441 = .ok (.iconst 1, 1) := by decide +kernel
theorem dL_isStruck_442 : decode cL_isStruck 442 = .ok (.goto 4, 3) := by decide +kernel
theorem dL_isStruck_445 : decode cL_isStruck 445 = .ok (.iconst 0, 1) := by decide +kernel
theorem dL_isStruck_446 : decode cL_isStruck 446 = .ok (.istore 21, 2) := by decide +kernel
theorem dL_isStruck_448 : decode cL_isStruck 448 = .ok (.iload 20, 2) := by decide +kernel
theorem dL_isStruck_450 : decode cL_isStruck 450 = .ok (.ifCond .eq 19, 3) := by decide +kernel
theorem dL_isStruck_453 : decode cL_isStruck 453 = .ok (.iload 21, 2) := by decide +kernel
theorem dL_isStruck_455 : decode cL_isStruck 455 = .ok (.ifCond .eq 14, 3) := by decide +kernel
theorem dL_isStruck_458 : decode cL_isStruck 458 = .ok (.iload 18, 2) := by decide +kernel
theorem dL_isStruck_460 : decode cL_isStruck 460 = .ok (.iload 17, 2) := by decide +kernel
theorem dL_isStruck_462 : decode cL_isStruck 462 = .ok (.if_icmp .lt 7, 3) := by decide +kernel
theorem dL_isStruck_465 : decode cL_isStruck 465 = .ok (.iconst 1, 1) := by decide +kernel
theorem dL_isStruck_466 : decode cL_isStruck 466 = .ok (.goto 4, 3) := by decide +kernel
theorem dL_isStruck_469 : decode cL_isStruck 469 = .ok (.iconst 0, 1) := by decide +kernel
theorem dL_isStruck_470 : decode cL_isStruck 470 = .ok (.istore 22, 2) := by decide +kernel
theorem dL_isStruck_472 : decode cL_isStruck 472 = .ok (.iload 20, 2) := by decide +kernel
theorem dL_isStruck_474 : decode cL_isStruck 474 = .ok (.ifCond .eq 15, 3) := by decide +kernel
theorem dL_isStruck_477 : decode cL_isStruck 477 = .ok (.aload 7, 2) := by decide +kernel
theorem dL_isStruck_479 : decode cL_isStruck 479 = .ok (.iload 14, 2) := by decide +kernel
theorem dL_isStruck_481 : decode cL_isStruck 481 = .ok (.iload 18, 2) := by decide +kernel
theorem dL_isStruck_483 : decode cL_isStruck 483 = .ok (.invokestatic 127, 3) := by decide +kernel
theorem dL_isStruck_486 : decode cL_isStruck 486 = .ok (.goto 4, 3) := by decide +kernel
theorem dL_isStruck_489 : decode cL_isStruck 489 = .ok (.iconst 0, 1) := by decide +kernel
theorem dL_isStruck_490 : decode cL_isStruck 490 = .ok (.istore 23, 2) := by decide +kernel
theorem dL_isStruck_492 : decode cL_isStruck 492 = .ok (.aload 7, 2) := by decide +kernel
theorem dL_isStruck_494 : decode cL_isStruck 494 = .ok (.iload 22, 2) := by decide +kernel
theorem dL_isStruck_496 : decode cL_isStruck 496 = .ok (.ifCond .eq 14, 3) := by decide +kernel
theorem dL_isStruck_499 : decode cL_isStruck 499 = .ok (.bipush 6, 2) := by decide +kernel
theorem dL_isStruck_501 : decode cL_isStruck 501 = .ok (.iload 14, 2) := by decide +kernel
theorem dL_isStruck_503 : decode cL_isStruck 503 = .ok (.imul, 1) := by decide +kernel
theorem dL_isStruck_504 : decode cL_isStruck 504 = .ok (.iload 18, 2) := by decide +kernel
theorem dL_isStruck_506 : decode cL_isStruck 506 = .ok (.iadd, 1) := by decide +kernel
theorem dL_isStruck_507 : decode cL_isStruck 507 = .ok (.goto 5, 3) := by decide +kernel
theorem dL_isStruck_510 : decode cL_isStruck 510 = .ok (.bipush 18, 2) := by decide +kernel
theorem dL_isStruck_512 : decode cL_isStruck 512 = .ok (.iload 19, 2) := by decide +kernel
theorem dL_isStruck_514 : decode cL_isStruck 514 = .ok (.sipush 1000, 3) := by decide +kernel
theorem dL_isStruck_517 : decode cL_isStruck 517 = .ok (.iadd, 1) := by decide +kernel
theorem dL_isStruck_518 : decode cL_isStruck 518 = .ok (.iastore, 1) := by decide +kernel
theorem dL_isStruck_519 : decode cL_isStruck 519 = .ok (.aload_n 0, 1) := by decide +kernel
theorem dL_isStruck_520 : decode cL_isStruck 520 = .ok (.bipush 9, 2) := by decide +kernel
theorem dL_isStruck_522 : decode cL_isStruck 522 = .ok (.iload 14, 2) := by decide +kernel
theorem dL_isStruck_524 : decode cL_isStruck 524 = .ok (.iload 18, 2) := by decide +kernel
theorem dL_isStruck_526 : decode cL_isStruck 526 = .ok (.iload 19, 2) := by decide +kernel
theorem dL_isStruck_528 : decode cL_isStruck 528 = .ok (.iconst 0, 1) := by decide +kernel
theorem dL_isStruck_529 : decode cL_isStruck 529 = .ok (.invokestatic 161, 3) := by decide +kernel
theorem dL_isStruck_532 : decode cL_isStruck 532 = .ok (.iload 20, 2) := by decide +kernel
theorem dL_isStruck_534 : decode cL_isStruck 534 = .ok (.ifCond .ne 8, 3) := by decide +kernel
theorem dL_isStruck_537 : decode cL_isStruck 537 = .ok (.ldc 84, 2) := by decide +kernel
theorem dL_isStruck_539 : decode cL_isStruck 539 = .ok (.goto 25, 3) := by decide +kernel
theorem dL_isStruck_542 : decode cL_isStruck 542 = .ok (.iload 21, 2) := by decide +kernel
theorem dL_isStruck_544 : decode cL_isStruck 544 = .ok (.ifCond .ne 8, 3) := by decide +kernel
theorem dL_isStruck_547 : decode cL_isStruck 547 = .ok (.ldc 87, 2) := by decide +kernel
theorem dL_isStruck_549 : decode cL_isStruck 549 = .ok (.goto 15, 3) := by decide +kernel
theorem dL_isStruck_552 : decode cL_isStruck 552 = .ok (.iload 22, 2) := by decide +kernel
theorem dL_isStruck_554 : decode cL_isStruck 554 = .ok (.ifCond .eq 8, 3) := by decide +kernel

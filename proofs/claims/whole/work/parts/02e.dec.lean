theorem dX6_strike_83 : decode cX6_strike 83 = .ok (.iastore, 1) := by decide +kernel
theorem dX6_strike_84 : decode cX6_strike 84 = .ok (.aload_n 0, 1) := by decide +kernel
theorem dX6_strike_85 : decode cX6_strike 85 = .ok (.getfield 71, 3) := by decide +kernel
theorem dX6_strike_88 : decode cX6_strike 88 = .ok (.iload_n 3, 1) := by decide +kernel
theorem dX6_strike_89 : decode cX6_strike 89 = .ok (.aload_n 0, 1) := by decide +kernel
theorem dX6_strike_90 : decode cX6_strike 90 = .ok (.iload_n 1, 1) := by decide +kernel
theorem dX6_strike_91 : decode cX6_strike 91 = .ok (.iload_n 2, 1) := by decide +kernel
theorem dX6_strike_92 : decode cX6_strike 92 = .ok (.invokevirtual 183, 3) := by decide +kernel
theorem dX6_strike_95 : decode cX6_strike 95 = .ok (.iastore, 1) := by decide +kernel
theorem dX6_strike_96 : decode cX6_strike 96 = .ok (.aload_n 0, 1) := by decide +kernel
theorem dX6_strike_97 : decode cX6_strike 97 = .ok (.getfield 74, 3) := by decide +kernel
theorem dX6_strike_100 : decode cX6_strike 100 = .ok (.iload_n 3, 1) := by decide +kernel
theorem dX6_strike_101 : decode cX6_strike 101 = .ok (.aload_n 0, 1) := by decide +kernel
theorem dX6_strike_102 : decode cX6_strike 102 = .ok (.invokevirtual 186, 3) := by decide +kernel
theorem dX6_strike_105 : decode cX6_strike 105 = .ok (.iastore, 1) := by decide +kernel
theorem dX6_strike_106 : decode cX6_strike 106 = .ok (.aload_n 0, 1) := by decide +kernel
theorem dX6_strike_107 : decode cX6_strike 107 = .ok (.getfield 77, 3) := by decide +kernel
theorem dX6_strike_110 : decode cX6_strike 110 = .ok (.iload_n 3, 1) := by decide +kernel
theorem dX6_strike_111 : decode cX6_strike 111 = .ok (.aload_n 0, 1) := by decide +kernel
theorem dX6_strike_112 : decode cX6_strike 112 = .ok (.getfield 49, 3) := by decide +kernel
theorem dX6_strike_115 : decode cX6_strike 115 = .ok (.iload_n 1, 1) := by decide +kernel
theorem dX6_strike_116 : decode cX6_strike 116 = .ok (.iaload, 1) := by decide +kernel
theorem dX6_strike_117 : decode cX6_strike 117 = .ok (.iastore, 1) := by decide +kernel
theorem dX6_strike_118 : decode cX6_strike 118 = .ok (.aload_n 0, 1) := by decide +kernel
theorem dX6_strike_119 : decode cX6_strike 119 = .ok (.dup, 1) := by decide +kernel
theorem dX6_strike_120 : decode cX6_strike 120 = .ok (.getfield 154, 3) := by decide +kernel
theorem dX6_strike_123 : decode cX6_strike 123 = .ok (.iconst 1, 1) := by decide +kernel
theorem dX6_strike_124 : decode cX6_strike 124 = .ok (.iadd, 1) := by decide +kernel
theorem dX6_strike_125 : decode cX6_strike 125 = .ok (.putfield 154, 3) := by decide +kernel
theorem dX6_strike_128 : decode cX6_strike 128 = .ok (.aload_n 0, 1) := by decide +kernel
theorem dX6_strike_129 : decode cX6_strike 129 = .ok (.getfield 46, 3) := by decide +kernel
theorem dX6_strike_132 : decode cX6_strike 132 = .ok (.iload_n 1, 1) := by decide +kernel
theorem dX6_strike_133 : decode cX6_strike 133 = .ok (.dup2, 1) := by decide +kernel
theorem dX6_strike_134 : decode cX6_strike 134 = .ok (.iaload, 1) := by decide +kernel
theorem dX6_strike_135 : decode cX6_strike 135 = .ok (.iconst 1, 1) := by decide +kernel
theorem dX6_strike_136 : decode cX6_strike 136 = .ok (.iadd, 1) := by decide +kernel
theorem dX6_strike_137 : decode cX6_strike 137 = .ok (.iastore, 1) := by decide +kernel
theorem dX6_strike_138 : decode cX6_strike 138 = .ok (.iload_n 2, 1) := by decide +kernel
theorem dX6_strike_139 : decode cX6_strike 139 = .ok (.ireturn, 1) := by decide +kernel
theorem dX6_bump_0 : decode cX6_bump 0 = .ok (.aload_n 0, 1) := by decide +kernel
theorem dX6_bump_1 : decode cX6_bump 1 = .ok (.aload_n 0, 1) := by decide +kernel
theorem dX6_bump_2 : decode cX6_bump 2 = .ok (.iload_n 1, 1) := by decide +kernel
theorem dX6_bump_3 : decode cX6_bump 3 = .ok (.invokevirtual 105, 3) := by decide +kernel
theorem dX6_bump_6 : decode cX6_bump 6 = .ok (.ifCond .ne 7, 3) := by decide +kernel
theorem dX6_bump_9 : decode cX6_bump 9 = .ok (.iconst 1, 1) := by decide +kernel
theorem dX6_bump_10 : decode cX6_bump 10 = .ok (.goto 32, 3) := by decide +kernel
theorem dX6_bump_13 : decode cX6_bump 13 = .ok (.iload_n 2, 1) := by decide +kernel
theorem dX6_bump_14 : decode cX6_bump 14 = .ok (.bipush (-99), 2) := by decide +kernel
theorem dX6_bump_16 : decode cX6_bump 16 = .ok (.bipush 99, 2) := by decide +kernel
theorem dX6_bump_18 : decode cX6_bump 18 = .ok (.invokestatic 91, 3) := by decide +kernel
theorem dX6_bump_21 : decode cX6_bump 21 = .ok (.ifCond .ne 7, 3) := by decide +kernel
theorem dX6_bump_24 : decode cX6_bump 24 = .ok (.iconst 2, 1) := by decide +kernel
theorem dX6_bump_25 : decode cX6_bump 25 = .ok (.goto 17, 3) := by decide +kernel
theorem dX6_bump_28 : decode cX6_bump 28 = .ok (.aload_n 0, 1) := by decide +kernel
theorem dX6_bump_29 : decode cX6_bump 29 = .ok (.getfield 46, 3) := by decide +kernel
theorem dX6_bump_32 : decode cX6_bump 32 = .ok (.iload_n 1, 1) := by decide +kernel
theorem dX6_bump_33 : decode cX6_bump 33 = .ok (.iaload, 1) := by decide +kernel
theorem dX6_bump_34 : decode cX6_bump 34 = .ok (.ifCond .ne 7, 3) := by decide +kernel
theorem dX6_bump_37 : decode cX6_bump 37 = .ok (.iconst 3, 1) := by decide +kernel
theorem dX6_bump_38 : decode cX6_bump 38 = .ok (.goto 4, 3) := by decide +kernel
theorem dX6_bump_41 : decode cX6_bump 41 = .ok (.iconst 0, 1) := by decide +kernel
theorem dX6_bump_42 : decode cX6_bump 42 = .ok (.invokevirtual 108, 3) := by decide +kernel
theorem dX6_bump_45 : decode cX6_bump 45 = .ok (.ifCond .eq 5, 3) := by decide +kernel
theorem dX6_bump_48 : decode cX6_bump 48 = .ok (.iconst 0, 1) := by decide +kernel
theorem dX6_bump_49 : decode cX6_bump 49 = .ok (.ireturn, 1) := by decide +kernel
theorem dX6_bump_50 : decode cX6_bump 50 = .ok (.aload_n 0, 1) := by decide +kernel
theorem dX6_bump_51 : decode cX6_bump 51 = .ok (.getfield 49, 3) := by decide +kernel
theorem dX6_bump_54 : decode cX6_bump 54 = .ok (.iload_n 1, 1) := by decide +kernel
theorem dX6_bump_55 : decode cX6_bump 55 = .ok (.dup2, 1) := by decide +kernel
theorem dX6_bump_56 : decode cX6_bump 56 = .ok (.iaload, 1) := by decide +kernel
theorem dX6_bump_57 : decode cX6_bump 57 = .ok (.iload_n 2, 1) := by decide +kernel
theorem dX6_bump_58 : decode cX6_bump 58 = .ok (.iadd, 1) := by decide +kernel
theorem dX6_bump_59 : decode cX6_bump 59 = .ok (.iastore, 1) := by decide +kernel
theorem dX6_bump_60 : decode cX6_bump 60 = .ok (.aload_n 0, 1) := by decide +kernel
theorem dX6_bump_61 : decode cX6_bump 61 = .ok (.getfield 49, 3) := by decide +kernel
theorem dX6_bump_64 : decode cX6_bump 64 = .ok (.iload_n 1, 1) := by decide +kernel
theorem dX6_bump_65 : decode cX6_bump 65 = .ok (.iaload, 1) := by decide +kernel
theorem dX6_bump_66 : decode cX6_bump 66 = .ok (.ireturn, 1) := by decide +kernel
theorem dX6_level_0 : decode cX6_level 0 = .ok (.aload_n 0, 1) := by decide +kernel
theorem dX6_level_1 : decode cX6_level 1 = .ok (.aload_n 0, 1) := by decide +kernel
theorem dX6_level_2 : decode cX6_level 2 = .ok (.iload_n 1, 1) := by decide +kernel
theorem dX6_level_3 : decode cX6_level 3 = .ok (.invokevirtual 105, 3) := by decide +kernel
theorem dX6_level_6 : decode cX6_level 6 = .ok (.ifCond .eq 7, 3) := by decide +kernel
theorem dX6_level_9 : decode cX6_level 9 = .ok (.iconst 0, 1) := by decide +kernel
theorem dX6_level_10 : decode cX6_level 10 = .ok (.goto 4, 3) := by decide +kernel
theorem dX6_level_13 : decode cX6_level 13 = .ok (.iconst 1, 1) := by decide +kernel
theorem dX6_level_14 : decode cX6_level 14 = .ok (.invokevirtual 108, 3) := by decide +kernel
theorem dX6_level_17 : decode cX6_level 17 = .ok (.ifCond .eq 5, 3) := by decide +kernel
theorem dX6_level_20 : decode cX6_level 20 = .ok (.iconst 0, 1) := by decide +kernel
theorem dX6_level_21 : decode cX6_level 21 = .ok (.ireturn, 1) := by decide +kernel
theorem dX6_level_22 : decode cX6_level 22 = .ok (.aload_n 0, 1) := by decide +kernel
theorem dX6_level_23 : decode cX6_level 23 = .ok (.getfield 49, 3) := by decide +kernel
theorem dX6_level_26 : decode cX6_level 26 = .ok (.iload_n 1, 1) := by decide +kernel
theorem dX6_level_27 : decode cX6_level 27 = .ok (.iaload, 1) := by decide +kernel
theorem dX6_level_28 : decode cX6_level 28 = .ok (.istore_n 2, 1) := by decide +kernel
theorem dX6_level_29 : decode cX6_level 29 = .ok (.aload_n 0, 1) := by decide +kernel
theorem dX6_level_30 : decode cX6_level 30 = .ok (.getfield 49, 3) := by decide +kernel
theorem dX6_level_33 : decode cX6_level 33 = .ok (.iload_n 1, 1) := by decide +kernel
theorem dX6_level_34 : decode cX6_level 34 = .ok (.iconst 0, 1) := by decide +kernel
theorem dX6_level_35 : decode cX6_level 35 = .ok (.iastore, 1) := by decide +kernel
theorem dX6_level_36 : decode cX6_level 36 = .ok (.iload_n 2, 1) := by decide +kernel
theorem dX6_level_37 : decode cX6_level 37 = .ok (.ireturn, 1) := by decide +kernel
theorem dX6_inFilm_0 : decode cX6_inFilm 0 = .ok (.iconst (-1), 1) := by decide +kernel
theorem dX6_inFilm_1 : decode cX6_inFilm 1 = .ok (.istore_n 2, 1) := by decide +kernel
theorem dX6_inFilm_2 : decode cX6_inFilm 2 = .ok (.iconst 0, 1) := by decide +kernel
theorem dX6_inFilm_3 : decode cX6_inFilm 3 = .ok (.istore_n 3, 1) := by decide +kernel
theorem dX6_inFilm_4 : decode cX6_inFilm 4 = .ok (.iload_n 3, 1) := by decide +kernel
theorem dX6_inFilm_5 : decode cX6_inFilm 5 = .ok (.aload_n 0, 1) := by decide +kernel
theorem dX6_inFilm_6 : decode cX6_inFilm 6 = .ok (.getfield 190, 3) := by decide +kernel
theorem dX6_inFilm_9 : decode cX6_inFilm 9 = .ok (.if_icmp .ge 25, 3) := by decide +kernel
theorem dX6_inFilm_12 : decode cX6_inFilm 12 = .ok (.aload_n 0, 1) := by decide +kernel
theorem dX6_inFilm_13 : decode cX6_inFilm 13 = .ok (.getfield 80, 3) := by decide +kernel
theorem dX6_inFilm_16 : decode cX6_inFilm 16 = .ok (.iload_n 3, 1) := by decide +kernel
theorem dX6_inFilm_17 : decode cX6_inFilm 17 = .ok (.iaload, 1) := by decide +kernel
theorem dX6_inFilm_18 : decode cX6_inFilm 18 = .ok (.iload_n 1, 1) := by decide +kernel
theorem dX6_inFilm_19 : decode cX6_inFilm 19 = .ok (.if_icmp .ne 7, 3) := by decide +kernel
theorem dX6_inFilm_22 : decode cX6_inFilm 22 = .ok (.iload_n 3, 1) := by decide +kernel
theorem dX6_inFilm_23 : decode cX6_inFilm 23 = .ok (.goto 4, 3) := by decide +kernel
theorem dX6_inFilm_26 : decode cX6_inFilm 26 = .ok (.iload_n 2, 1) := by decide +kernel
theorem dX6_inFilm_27 : decode cX6_inFilm 27 = .ok (.istore_n 2, 1) := by decide +kernel
theorem dX6_inFilm_28 : decode cX6_inFilm 28 = .ok (.iinc 3 1, 3) := by decide +kernel
theorem dX6_inFilm_31 : decode cX6_inFilm 31 = .ok (.goto (-27), 3) := by decide +kernel
theorem dX6_inFilm_34 : decode cX6_inFilm 34 = .ok (.iload_n 2, 1) := by decide +kernel
theorem dX6_inFilm_35 : decode cX6_inFilm 35 = .ok (.ireturn, 1) := by decide +kernel
theorem dX6_anew_0 : decode cX6_anew 0 = .ok (.aload_n 0, 1) := by decide +kernel
theorem dX6_anew_1 : decode cX6_anew 1 = .ok (.iload_n 1, 1) := by decide +kernel
theorem dX6_anew_2 : decode cX6_anew 2 = .ok (.iload_n 2, 1) := by decide +kernel
theorem dX6_anew_3 : decode cX6_anew 3 = .ok (.invokevirtual 141, 3) := by decide +kernel
theorem dX6_anew_6 : decode cX6_anew 6 = .ok (.ifCond .eq 25, 3) := by decide +kernel
theorem dX6_anew_9 : decode cX6_anew 9 = .ok (.aload_n 0, 1) := by decide +kernel
theorem dX6_anew_10 : decode cX6_anew 10 = .ok (.iload_n 1, 1) := by decide +kernel
theorem dX6_anew_11 : decode cX6_anew 11 = .ok (.iload_n 2, 1) := by decide +kernel
theorem dX6_anew_12 : decode cX6_anew 12 = .ok (.invokevirtual 193, 3) := by decide +kernel
theorem dX6_anew_15 : decode cX6_anew 15 = .ok (.ifCond .eq 16, 3) := by decide +kernel
theorem dX6_anew_18 : decode cX6_anew 18 = .ok (.aload_n 0, 1) := by decide +kernel
theorem dX6_anew_19 : decode cX6_anew 19 = .ok (.iload_n 1, 1) := by decide +kernel
theorem dX6_anew_20 : decode cX6_anew 20 = .ok (.invokevirtual 196, 3) := by decide +kernel
theorem dX6_anew_23 : decode cX6_anew 23 = .ok (.iconst (-1), 1) := by decide +kernel
theorem dX6_anew_24 : decode cX6_anew 24 = .ok (.if_icmp .ne 7, 3) := by decide +kernel
theorem dX6_anew_27 : decode cX6_anew 27 = .ok (.iconst 1, 1) := by decide +kernel
theorem dX6_anew_28 : decode cX6_anew 28 = .ok (.goto 4, 3) := by decide +kernel
theorem dX6_anew_31 : decode cX6_anew 31 = .ok (.iconst 0, 1) := by decide +kernel
theorem dX6_anew_32 : decode cX6_anew 32 = .ok (.istore_n 3, 1) := by decide +kernel
theorem dX6_anew_33 : decode cX6_anew 33 = .ok (.aload_n 0, 1) := by decide +kernel
theorem dX6_anew_34 : decode cX6_anew 34 = .ok (.aload_n 0, 1) := by decide +kernel
theorem dX6_anew_35 : decode cX6_anew 35 = .ok (.iload_n 1, 1) := by decide +kernel
theorem dX6_anew_36 : decode cX6_anew 36 = .ok (.iload_n 2, 1) := by decide +kernel
theorem dX6_anew_37 : decode cX6_anew 37 = .ok (.invokevirtual 141, 3) := by decide +kernel
theorem dX6_anew_40 : decode cX6_anew 40 = .ok (.ifCond .ne 7, 3) := by decide +kernel
theorem dX6_anew_43 : decode cX6_anew 43 = .ok (.iconst 1, 1) := by decide +kernel
theorem dX6_anew_44 : decode cX6_anew 44 = .ok (.goto 12, 3) := by decide +kernel
theorem dX6_anew_47 : decode cX6_anew 47 = .ok (.iload_n 3, 1) := by decide +kernel
theorem dX6_anew_48 : decode cX6_anew 48 = .ok (.ifCond .eq 7, 3) := by decide +kernel
theorem dX6_anew_51 : decode cX6_anew 51 = .ok (.iconst 0, 1) := by decide +kernel
theorem dX6_anew_52 : decode cX6_anew 52 = .ok (.goto 4, 3) := by decide +kernel
theorem dX6_anew_55 : decode cX6_anew 55 = .ok (.iconst 2, 1) := by decide +kernel
theorem dX6_anew_56 : decode cX6_anew 56 = .ok (.invokevirtual 108, 3) := by decide +kernel
theorem dX6_anew_59 : decode cX6_anew 59 = .ok (.ifCond .eq 5, 3) := by decide +kernel
theorem dX6_anew_62 : decode cX6_anew 62 = .ok (.iconst 0, 1) := by decide +kernel
theorem dX6_anew_63 : decode cX6_anew 63 = .ok (.ireturn, 1) := by decide +kernel
theorem dX6_anew_64 : decode cX6_anew 64 = .ok (.aload_n 0, 1) := by decide +kernel
theorem dX6_anew_65 : decode cX6_anew 65 = .ok (.getfield 46, 3) := by decide +kernel
theorem dX6_anew_68 : decode cX6_anew 68 = .ok (.iload_n 1, 1) := by decide +kernel
theorem dX6_anew_69 : decode cX6_anew 69 = .ok (.iaload, 1) := by decide +kernel
theorem dX6_anew_70 : decode cX6_anew 70 = .ok (.iload_n 2, 1) := by decide +kernel
theorem dX6_anew_71 : decode cX6_anew 71 = .ok (.isub, 1) := by decide +kernel
theorem dX6_anew_72 : decode cX6_anew 72 = .ok (.istore 4, 2) := by decide +kernel
theorem dX6_anew_74 : decode cX6_anew 74 = .ok (.aload_n 0, 1) := by decide +kernel
theorem dX6_anew_75 : decode cX6_anew 75 = .ok (.getfield 46, 3) := by decide +kernel
theorem dX6_anew_78 : decode cX6_anew 78 = .ok (.iload_n 1, 1) := by decide +kernel
theorem dX6_anew_79 : decode cX6_anew 79 = .ok (.iload_n 2, 1) := by decide +kernel
theorem dX6_anew_80 : decode cX6_anew 80 = .ok (.iastore, 1) := by decide +kernel
theorem dX6_anew_81 : decode cX6_anew 81 = .ok (.iload 4, 2) := by decide +kernel
theorem dX6_anew_83 : decode cX6_anew 83 = .ok (.ireturn, 1) := by decide +kernel
theorem dX6_mend_0 : decode cX6_mend 0 = .ok (.aload_n 0, 1) := by decide +kernel
theorem dX6_mend_1 : decode cX6_mend 1 = .ok (.aload_n 0, 1) := by decide +kernel
theorem dX6_mend_2 : decode cX6_mend 2 = .ok (.iload_n 1, 1) := by decide +kernel
theorem dX6_mend_3 : decode cX6_mend 3 = .ok (.iload_n 2, 1) := by decide +kernel
theorem dX6_mend_4 : decode cX6_mend 4 = .ok (.invokevirtual 135, 3) := by decide +kernel
theorem dX6_mend_7 : decode cX6_mend 7 = .ok (.ifCond .eq 7, 3) := by decide +kernel
theorem dX6_mend_10 : decode cX6_mend 10 = .ok (.iconst 0, 1) := by decide +kernel
theorem dX6_mend_11 : decode cX6_mend 11 = .ok (.goto 4, 3) := by decide +kernel
theorem dX6_mend_14 : decode cX6_mend 14 = .ok (.iconst 1, 1) := by decide +kernel
theorem dX6_mend_15 : decode cX6_mend 15 = .ok (.invokevirtual 108, 3) := by decide +kernel
theorem dX6_mend_18 : decode cX6_mend 18 = .ok (.ifCond .eq 5, 3) := by decide +kernel
theorem dX6_mend_21 : decode cX6_mend 21 = .ok (.iconst 0, 1) := by decide +kernel
theorem dX6_mend_22 : decode cX6_mend 22 = .ok (.ireturn, 1) := by decide +kernel
theorem dX6_mend_23 : decode cX6_mend 23 = .ok (.aload_n 0, 1) := by decide +kernel
theorem dX6_mend_24 : decode cX6_mend 24 = .ok (.getfield 16, 3) := by decide +kernel
theorem dX6_mend_27 : decode cX6_mend 27 = .ok (.bipush 6, 2) := by decide +kernel
theorem dX6_mend_29 : decode cX6_mend 29 = .ok (.iload_n 1, 1) := by decide +kernel
theorem dX6_mend_30 : decode cX6_mend 30 = .ok (.imul, 1) := by decide +kernel
theorem dX6_mend_31 : decode cX6_mend 31 = .ok (.iload_n 2, 1) := by decide +kernel
theorem dX6_mend_32 : decode cX6_mend 32 = .ok (.iadd, 1) := by decide +kernel
theorem dX6_mend_33 : decode cX6_mend 33 = .ok (.iaload, 1) := by decide +kernel
theorem dX6_mend_34 : decode cX6_mend 34 = .ok (.istore_n 3, 1) := by decide +kernel
theorem dX6_mend_35 : decode cX6_mend 35 = .ok (.aload_n 0, 1) := by decide +kernel
theorem dX6_mend_36 : decode cX6_mend 36 = .ok (.getfield 16, 3) := by decide +kernel
theorem dX6_mend_39 : decode cX6_mend 39 = .ok (.bipush 6, 2) := by decide +kernel
theorem dX6_mend_41 : decode cX6_mend 41 = .ok (.iload_n 1, 1) := by decide +kernel
theorem dX6_mend_42 : decode cX6_mend 42 = .ok (.imul, 1) := by decide +kernel
theorem dX6_mend_43 : decode cX6_mend 43 = .ok (.iload_n 2, 1) := by decide +kernel
theorem dX6_mend_44 : decode cX6_mend 44 = .ok (.iadd, 1) := by decide +kernel
theorem dX6_mend_45 : decode cX6_mend 45 = .ok (.iconst 0, 1) := by decide +kernel
theorem dX6_mend_46 : decode cX6_mend 46 = .ok (.iastore, 1) := by decide +kernel
theorem dX6_mend_47 : decode cX6_mend 47 = .ok (.iload_n 3, 1) := by decide +kernel
theorem dX6_mend_48 : decode cX6_mend 48 = .ok (.ireturn, 1) := by decide +kernel
theorem dX6_lamp_0 : decode cX6_lamp 0 = .ok (.aload_n 0, 1) := by decide +kernel
theorem dX6_lamp_1 : decode cX6_lamp 1 = .ok (.iconst 0, 1) := by decide +kernel
theorem dX6_lamp_2 : decode cX6_lamp 2 = .ok (.putfield 84, 3) := by decide +kernel
theorem dX6_lamp_5 : decode cX6_lamp 5 = .ok (.aload_n 0, 1) := by decide +kernel
theorem dX6_lamp_6 : decode cX6_lamp 6 = .ok (.invokevirtual 186, 3) := by decide +kernel
theorem dX6_lamp_9 : decode cX6_lamp 9 = .ok (.istore_n 1, 1) := by decide +kernel
theorem dX6_lamp_10 : decode cX6_lamp 10 = .ok (.aload_n 0, 1) := by decide +kernel
theorem dX6_lamp_11 : decode cX6_lamp 11 = .ok (.iconst 0, 1) := by decide +kernel
theorem dX6_lamp_12 : decode cX6_lamp 12 = .ok (.putfield 154, 3) := by decide +kernel
theorem dX6_lamp_15 : decode cX6_lamp 15 = .ok (.iload_n 1, 1) := by decide +kernel
theorem dX6_lamp_16 : decode cX6_lamp 16 = .ok (.ireturn, 1) := by decide +kernel
theorem dX6_framesInFilm_0 : decode cX6_framesInFilm 0 = .ok (.iconst 0, 1) := by decide +kernel
theorem dX6_framesInFilm_1 : decode cX6_framesInFilm 1 = .ok (.istore_n 1, 1) := by decide +kernel
theorem dX6_framesInFilm_2 : decode cX6_framesInFilm 2 = .ok (.iconst 0, 1) := by decide +kernel
theorem dX6_framesInFilm_3 : decode cX6_framesInFilm 3 = .ok (.istore_n 2, 1) := by decide +kernel
theorem dX6_framesInFilm_4 : decode cX6_framesInFilm 4 = .ok (.iload_n 2, 1) := by decide +kernel
theorem dX6_framesInFilm_5 : decode cX6_framesInFilm 5 = .ok (.aload_n 0, 1) := by decide +kernel
theorem dX6_framesInFilm_6 : decode cX6_framesInFilm 6 = .ok (.getfield 190, 3) := by decide +kernel
theorem dX6_framesInFilm_9 : decode cX6_framesInFilm 9 = .ok (.if_icmp .ge 23, 3) := by decide +kernel
theorem dX6_framesInFilm_12 : decode cX6_framesInFilm 12 = .ok (.iload_n 1, 1) := by decide +kernel
theorem dX6_framesInFilm_13 : decode cX6_framesInFilm 13 = .ok (.aload_n 0, 1) := by decide +kernel
theorem dX6_framesInFilm_14 : decode cX6_framesInFilm 14 = .ok (.getfield 34, 3) := by decide +kernel
theorem dX6_framesInFilm_17 : decode cX6_framesInFilm 17 = .ok (.aload_n 0, 1) := by decide +kernel
theorem dX6_framesInFilm_18 : decode cX6_framesInFilm 18 = .ok (.getfield 80, 3) := by decide +kernel
theorem dX6_framesInFilm_21 : decode cX6_framesInFilm 21 = .ok (.iload_n 2, 1) := by decide +kernel
theorem dX6_framesInFilm_22 : decode cX6_framesInFilm 22 = .ok (.iaload, 1) := by decide +kernel
theorem dX6_framesInFilm_23 : decode cX6_framesInFilm 23 = .ok (.iaload, 1) := by decide +kernel
theorem dX6_framesInFilm_24 : decode cX6_framesInFilm 24 = .ok (.iadd, 1) := by decide +kernel
theorem dX6_framesInFilm_25 : decode cX6_framesInFilm 25 = .ok (.istore_n 1, 1) := by decide +kernel
theorem dX6_framesInFilm_26 : decode cX6_framesInFilm 26 = .ok (.iinc 2 1, 3) := by decide +kernel
theorem dX6_framesInFilm_29 : decode cX6_framesInFilm 29 = .ok (.goto (-25), 3) := by decide +kernel
theorem dX6_framesInFilm_32 : decode cX6_framesInFilm 32 = .ok (.iload_n 1, 1) := by decide +kernel
theorem dX6_framesInFilm_33 : decode cX6_framesInFilm 33 = .ok (.ireturn, 1) := by decide +kernel
theorem dX6_cut_0 : decode cX6_cut 0 = .ok (.aload_n 0, 1) := by decide +kernel
theorem dX6_cut_1 : decode cX6_cut 1 = .ok (.aload_n 0, 1) := by decide +kernel
theorem dX6_cut_2 : decode cX6_cut 2 = .ok (.iload_n 1, 1) := by decide +kernel
theorem dX6_cut_3 : decode cX6_cut 3 = .ok (.invokevirtual 105, 3) := by decide +kernel
theorem dX6_cut_6 : decode cX6_cut 6 = .ok (.ifCond .ne 7, 3) := by decide +kernel
theorem dX6_cut_9 : decode cX6_cut 9 = .ok (.iconst 1, 1) := by decide +kernel
theorem dX6_cut_10 : decode cX6_cut 10 = .ok (.goto 25, 3) := by decide +kernel
theorem dX6_cut_13 : decode cX6_cut 13 = .ok (.aload_n 0, 1) := by decide +kernel
theorem dX6_cut_14 : decode cX6_cut 14 = .ok (.iload_n 1, 1) := by decide +kernel
theorem dX6_cut_15 : decode cX6_cut 15 = .ok (.invokevirtual 117, 3) := by decide +kernel
theorem dX6_cut_18 : decode cX6_cut 18 = .ok (.ifCond .eq 12, 3) := by decide +kernel
theorem dX6_cut_21 : decode cX6_cut 21 = .ok (.aload_n 0, 1) := by decide +kernel
theorem dX6_cut_22 : decode cX6_cut 22 = .ok (.iload_n 1, 1) := by decide +kernel
theorem dX6_cut_23 : decode cX6_cut 23 = .ok (.invokevirtual 196, 3) := by decide +kernel
theorem dX6_cut_26 : decode cX6_cut 26 = .ok (.iconst (-1), 1) := by decide +kernel
theorem dX6_cut_27 : decode cX6_cut 27 = .ok (.if_icmp .eq 7, 3) := by decide +kernel
theorem dX6_cut_30 : decode cX6_cut 30 = .ok (.iconst 2, 1) := by decide +kernel
theorem dX6_cut_31 : decode cX6_cut 31 = .ok (.goto 4, 3) := by decide +kernel
theorem dX6_cut_34 : decode cX6_cut 34 = .ok (.iconst 0, 1) := by decide +kernel
theorem dX6_cut_35 : decode cX6_cut 35 = .ok (.invokevirtual 108, 3) := by decide +kernel
theorem dX6_cut_38 : decode cX6_cut 38 = .ok (.ifCond .eq 5, 3) := by decide +kernel
theorem dX6_cut_41 : decode cX6_cut 41 = .ok (.iconst 0, 1) := by decide +kernel
theorem dX6_cut_42 : decode cX6_cut 42 = .ok (.ireturn, 1) := by decide +kernel
theorem dX6_cut_43 : decode cX6_cut 43 = .ok (.aload_n 0, 1) := by decide +kernel
theorem dX6_cut_44 : decode cX6_cut 44 = .ok (.getfield 80, 3) := by decide +kernel
theorem dX6_cut_47 : decode cX6_cut 47 = .ok (.aload_n 0, 1) := by decide +kernel
theorem dX6_cut_48 : decode cX6_cut 48 = .ok (.getfield 190, 3) := by decide +kernel
theorem dX6_cut_51 : decode cX6_cut 51 = .ok (.iload_n 1, 1) := by decide +kernel
theorem dX6_cut_52 : decode cX6_cut 52 = .ok (.iastore, 1) := by decide +kernel
theorem dX6_cut_53 : decode cX6_cut 53 = .ok (.aload_n 0, 1) := by decide +kernel
theorem dX6_cut_54 : decode cX6_cut 54 = .ok (.dup, 1) := by decide +kernel
theorem dX6_cut_55 : decode cX6_cut 55 = .ok (.getfield 190, 3) := by decide +kernel
theorem dX6_cut_58 : decode cX6_cut 58 = .ok (.iconst 1, 1) := by decide +kernel
theorem dX6_cut_59 : decode cX6_cut 59 = .ok (.iadd, 1) := by decide +kernel
theorem dX6_cut_60 : decode cX6_cut 60 = .ok (.putfield 190, 3) := by decide +kernel
theorem dX6_cut_63 : decode cX6_cut 63 = .ok (.aload_n 0, 1) := by decide +kernel
theorem dX6_cut_64 : decode cX6_cut 64 = .ok (.invokevirtual 198, 3) := by decide +kernel
theorem dX6_cut_67 : decode cX6_cut 67 = .ok (.ireturn, 1) := by decide +kernel
theorem dX6_cutOut_0 : decode cX6_cutOut 0 = .ok (.aload_n 0, 1) := by decide +kernel
theorem dX6_cutOut_1 : decode cX6_cutOut 1 = .ok (.iload_n 1, 1) := by decide +kernel
theorem dX6_cutOut_2 : decode cX6_cutOut 2 = .ok (.invokevirtual 105, 3) := by decide +kernel
theorem dX6_cutOut_5 : decode cX6_cutOut 5 = .ok (.ifCond .eq 11, 3) := by decide +kernel
theorem dX6_cutOut_8 : decode cX6_cutOut 8 = .ok (.aload_n 0, 1) := by decide +kernel
theorem dX6_cutOut_9 : decode cX6_cutOut 9 = .ok (.iload_n 1, 1) := by decide +kernel
theorem dX6_cutOut_10 : decode cX6_cutOut 10 = .ok (.invokevirtual 196, 3) := by decide +kernel
theorem dX6_cutOut_13 : decode cX6_cutOut 13 = .ok (.goto 4, 3) := by decide +kernel
theorem dX6_cutOut_16 : decode cX6_cutOut 16 = .ok (.iconst (-1), 1) := by decide +kernel
theorem dX6_cutOut_17 : decode cX6_cutOut 17 = .ok (.istore_n 2, 1) := by decide +kernel
theorem dX6_cutOut_18 : decode cX6_cutOut 18 = .ok (.aload_n 0, 1) := by decide +kernel
theorem dX6_cutOut_19 : decode cX6_cutOut 19 = .ok (.aload_n 0, 1) := by decide +kernel
theorem dX6_cutOut_20 : decode cX6_cutOut 20 = .ok (.iload_n 1, 1) := by decide +kernel
theorem dX6_cutOut_21 : decode cX6_cutOut 21 = .ok (.invokevirtual 105, 3) := by decide +kernel
theorem dX6_cutOut_24 : decode cX6_cutOut 24 = .ok (.ifCond .ne 7, 3) := by decide +kernel
theorem dX6_cutOut_27 : decode cX6_cutOut 27 = .ok (.iconst 1, 1) := by decide +kernel
theorem dX6_cutOut_28 : decode cX6_cutOut 28 = .ok (.goto 13, 3) := by decide +kernel
theorem dX6_cutOut_31 : decode cX6_cutOut 31 = .ok (.iload_n 2, 1) := by decide +kernel
theorem dX6_cutOut_32 : decode cX6_cutOut 32 = .ok (.iconst (-1), 1) := by decide +kernel
theorem dX6_cutOut_33 : decode cX6_cutOut 33 = .ok (.if_icmp .ne 7, 3) := by decide +kernel
theorem dX6_cutOut_36 : decode cX6_cutOut 36 = .ok (.iconst 2, 1) := by decide +kernel
theorem dX6_cutOut_37 : decode cX6_cutOut 37 = .ok (.goto 4, 3) := by decide +kernel
theorem dX6_cutOut_40 : decode cX6_cutOut 40 = .ok (.iconst 0, 1) := by decide +kernel
theorem dX6_cutOut_41 : decode cX6_cutOut 41 = .ok (.invokevirtual 108, 3) := by decide +kernel
theorem dX6_cutOut_44 : decode cX6_cutOut 44 = .ok (.ifCond .eq 5, 3) := by decide +kernel
theorem dX6_cutOut_47 : decode cX6_cutOut 47 = .ok (.iconst 0, 1) := by decide +kernel
theorem dX6_cutOut_48 : decode cX6_cutOut 48 = .ok (.ireturn, 1) := by decide +kernel
theorem dX6_cutOut_49 : decode cX6_cutOut 49 = .ok (.aload_n 0, 1) := by decide +kernel
theorem dX6_cutOut_50 : decode cX6_cutOut 50 = .ok (.dup, 1) := by decide +kernel
theorem dX6_cutOut_51 : decode cX6_cutOut 51 = .ok (.getfield 190, 3) := by decide +kernel
theorem dX6_cutOut_54 : decode cX6_cutOut 54 = .ok (.iconst 1, 1) := by decide +kernel
theorem dX6_cutOut_55 : decode cX6_cutOut 55 = .ok (.isub, 1) := by decide +kernel
theorem dX6_cutOut_56 : decode cX6_cutOut 56 = .ok (.putfield 190, 3) := by decide +kernel
theorem dX6_cutOut_59 : decode cX6_cutOut 59 = .ok (.iload_n 2, 1) := by decide +kernel
theorem dX6_cutOut_60 : decode cX6_cutOut 60 = .ok (.istore_n 3, 1) := by decide +kernel
theorem dX6_cutOut_61 : decode cX6_cutOut 61 = .ok (.iload_n 3, 1) := by decide +kernel
theorem dX6_cutOut_62 : decode cX6_cutOut 62 = .ok (.aload_n 0, 1) := by decide +kernel
theorem dX6_cutOut_63 : decode cX6_cutOut 63 = .ok (.getfield 190, 3) := by decide +kernel
theorem dX6_cutOut_66 : decode cX6_cutOut 66 = .ok (.if_icmp .ge 23, 3) := by decide +kernel
theorem dX6_cutOut_69 : decode cX6_cutOut 69 = .ok (.aload_n 0, 1) := by decide +kernel
theorem dX6_cutOut_70 : decode cX6_cutOut 70 = .ok (.getfield 80, 3) := by decide +kernel
theorem dX6_cutOut_73 : decode cX6_cutOut 73 = .ok (.iload_n 3, 1) := by decide +kernel
theorem dX6_cutOut_74 : decode cX6_cutOut 74 = .ok (.aload_n 0, 1) := by decide +kernel
theorem dX6_cutOut_75 : decode cX6_cutOut 75 = .ok (.getfield 80, 3) := by decide +kernel
theorem dX6_cutOut_78 : decode cX6_cutOut 78 = .ok (.iload_n 3, 1) := by decide +kernel
theorem dX6_cutOut_79 : decode cX6_cutOut 79 = .ok (.iconst 1, 1) := by decide +kernel
theorem dX6_cutOut_80 : decode cX6_cutOut 80 = .ok (.iadd, 1) := by decide +kernel
theorem dX6_cutOut_81 : decode cX6_cutOut 81 = .ok (.iaload, 1) := by decide +kernel
theorem dX6_cutOut_82 : decode cX6_cutOut 82 = .ok (.iastore, 1) := by decide +kernel
theorem dX6_cutOut_83 : decode cX6_cutOut 83 = .ok (.iinc 3 1, 3) := by decide +kernel
theorem dX6_cutOut_86 : decode cX6_cutOut 86 = .ok (.goto (-25), 3) := by decide +kernel
theorem dX6_cutOut_89 : decode cX6_cutOut 89 = .ok (.aload_n 0, 1) := by decide +kernel
theorem dX6_cutOut_90 : decode cX6_cutOut 90 = .ok (.invokevirtual 198, 3) := by decide +kernel
theorem dX6_cutOut_93 : decode cX6_cutOut 93 = .ok (.ireturn, 1) := by decide +kernel
theorem dX6_degree_0 : decode cX6_degree 0 = .ok (.aload_n 0, 1) := by decide +kernel
theorem dX6_degree_1 : decode cX6_degree 1 = .ok (.aload_n 0, 1) := by decide +kernel
theorem dX6_degree_2 : decode cX6_degree 2 = .ok (.iload_n 1, 1) := by decide +kernel
theorem dX6_degree_3 : decode cX6_degree 3 = .ok (.iload_n 2, 1) := by decide +kernel
theorem dX6_degree_4 : decode cX6_degree 4 = .ok (.invokevirtual 138, 3) := by decide +kernel
theorem dX6_degree_7 : decode cX6_degree 7 = .ok (.ifCond .eq 16, 3) := by decide +kernel
theorem dX6_degree_10 : decode cX6_degree 10 = .ok (.aload_n 0, 1) := by decide +kernel
theorem dX6_degree_11 : decode cX6_degree 11 = .ok (.iload_n 1, 1) := by decide +kernel
theorem dX6_degree_12 : decode cX6_degree 12 = .ok (.iload_n 3, 1) := by decide +kernel
theorem dX6_degree_13 : decode cX6_degree 13 = .ok (.invokevirtual 141, 3) := by decide +kernel
theorem dX6_degree_16 : decode cX6_degree 16 = .ok (.ifCond .eq 7, 3) := by decide +kernel
theorem dX6_degree_19 : decode cX6_degree 19 = .ok (.iconst 0, 1) := by decide +kernel
theorem dX6_degree_20 : decode cX6_degree 20 = .ok (.goto 4, 3) := by decide +kernel
theorem dX6_degree_23 : decode cX6_degree 23 = .ok (.iconst 1, 1) := by decide +kernel
theorem dX6_degree_24 : decode cX6_degree 24 = .ok (.invokevirtual 108, 3) := by decide +kernel
theorem dX6_degree_27 : decode cX6_degree 27 = .ok (.ifCond .eq 7, 3) := by decide +kernel
theorem dX6_degree_30 : decode cX6_degree 30 = .ok (.iconst 0, 1) := by decide +kernel
theorem dX6_degree_31 : decode cX6_degree 31 = .ok (.goto 10, 3) := by decide +kernel
theorem dX6_degree_34 : decode cX6_degree 34 = .ok (.aload_n 0, 1) := by decide +kernel
theorem dX6_degree_35 : decode cX6_degree 35 = .ok (.iload_n 1, 1) := by decide +kernel
theorem dX6_degree_36 : decode cX6_degree 36 = .ok (.iload_n 2, 1) := by decide +kernel
theorem dX6_degree_37 : decode cX6_degree 37 = .ok (.iload_n 3, 1) := by decide +kernel
theorem dX6_degree_38 : decode cX6_degree 38 = .ok (.invokevirtual 144, 3) := by decide +kernel
theorem dX6_degree_41 : decode cX6_degree 41 = .ok (.ireturn, 1) := by decide +kernel
theorem dX6_mouth_0 : decode cX6_mouth 0 = .ok (.aload_n 0, 1) := by decide +kernel
theorem dX6_mouth_1 : decode cX6_mouth 1 = .ok (.aload_n 0, 1) := by decide +kernel
theorem dX6_mouth_2 : decode cX6_mouth 2 = .ok (.iload_n 1, 1) := by decide +kernel
theorem dX6_mouth_3 : decode cX6_mouth 3 = .ok (.iload_n 2, 1) := by decide +kernel
theorem dX6_mouth_4 : decode cX6_mouth 4 = .ok (.invokevirtual 141, 3) := by decide +kernel
theorem dX6_mouth_7 : decode cX6_mouth 7 = .ok (.ifCond .eq 7, 3) := by decide +kernel
theorem dX6_mouth_10 : decode cX6_mouth 10 = .ok (.iconst 0, 1) := by decide +kernel
theorem dX6_mouth_11 : decode cX6_mouth 11 = .ok (.goto 4, 3) := by decide +kernel
theorem dX6_mouth_14 : decode cX6_mouth 14 = .ok (.iconst 1, 1) := by decide +kernel
theorem dX6_mouth_15 : decode cX6_mouth 15 = .ok (.invokevirtual 108, 3) := by decide +kernel
theorem dX6_mouth_18 : decode cX6_mouth 18 = .ok (.ifCond .eq 7, 3) := by decide +kernel
theorem dX6_mouth_21 : decode cX6_mouth 21 = .ok (.iconst 0, 1) := by decide +kernel
theorem dX6_mouth_22 : decode cX6_mouth 22 = .ok (.goto 9, 3) := by decide +kernel
theorem dX6_mouth_25 : decode cX6_mouth 25 = .ok (.aload_n 0, 1) := by decide +kernel
theorem dX6_mouth_26 : decode cX6_mouth 26 = .ok (.iload_n 1, 1) := by decide +kernel
theorem dX6_mouth_27 : decode cX6_mouth 27 = .ok (.iload_n 2, 1) := by decide +kernel
theorem dX6_mouth_28 : decode cX6_mouth 28 = .ok (.invokevirtual 157, 3) := by decide +kernel
theorem dX6_mouth_31 : decode cX6_mouth 31 = .ok (.ireturn, 1) := by decide +kernel
theorem dX6_place_0 : decode cX6_place 0 = .ok (.aload_n 0, 1) := by decide +kernel
theorem dX6_place_1 : decode cX6_place 1 = .ok (.aload_n 0, 1) := by decide +kernel
theorem dX6_place_2 : decode cX6_place 2 = .ok (.iload_n 1, 1) := by decide +kernel
theorem dX6_place_3 : decode cX6_place 3 = .ok (.iload_n 2, 1) := by decide +kernel
theorem dX6_place_4 : decode cX6_place 4 = .ok (.invokevirtual 141, 3) := by decide +kernel
theorem dX6_place_7 : decode cX6_place 7 = .ok (.ifCond .eq 7, 3) := by decide +kernel
theorem dX6_place_10 : decode cX6_place 10 = .ok (.iconst 0, 1) := by decide +kernel
theorem dX6_place_11 : decode cX6_place 11 = .ok (.goto 4, 3) := by decide +kernel
theorem dX6_place_14 : decode cX6_place 14 = .ok (.iconst 1, 1) := by decide +kernel
theorem dX6_place_15 : decode cX6_place 15 = .ok (.invokevirtual 108, 3) := by decide +kernel
theorem dX6_place_18 : decode cX6_place 18 = .ok (.ifCond .eq 7, 3) := by decide +kernel
theorem dX6_place_21 : decode cX6_place 21 = .ok (.iconst 0, 1) := by decide +kernel
theorem dX6_place_22 : decode cX6_place 22 = .ok (.goto 9, 3) := by decide +kernel
theorem dX6_place_25 : decode cX6_place 25 = .ok (.aload_n 0, 1) := by decide +kernel
theorem dX6_place_26 : decode cX6_place 26 = .ok (.iload_n 1, 1) := by decide +kernel
theorem dX6_place_27 : decode cX6_place 27 = .ok (.iload_n 2, 1) := by decide +kernel
theorem dX6_place_28 : decode cX6_place 28 = .ok (.invokevirtual 148, 3) := by decide +kernel
theorem dX6_place_31 : decode cX6_place 31 = .ok (.ireturn, 1) := by decide +kernel
theorem dX6_wants_0 : decode cX6_wants 0 = .ok (.aload_n 0, 1) := by decide +kernel
theorem dX6_wants_1 : decode cX6_wants 1 = .ok (.aload_n 0, 1) := by decide +kernel
theorem dX6_wants_2 : decode cX6_wants 2 = .ok (.iload_n 1, 1) := by decide +kernel
theorem dX6_wants_3 : decode cX6_wants 3 = .ok (.invokevirtual 105, 3) := by decide +kernel
theorem dX6_wants_6 : decode cX6_wants 6 = .ok (.ifCond .ne 7, 3) := by decide +kernel
theorem dX6_wants_9 : decode cX6_wants 9 = .ok (.iconst 1, 1) := by decide +kernel
theorem dX6_wants_10 : decode cX6_wants 10 = .ok (.goto 15, 3) := by decide +kernel
theorem dX6_wants_13 : decode cX6_wants 13 = .ok (.iload_n 2, 1) := by decide +kernel
theorem dX6_wants_14 : decode cX6_wants 14 = .ok (.invokestatic 111, 3) := by decide +kernel
theorem dX6_wants_17 : decode cX6_wants 17 = .ok (.ifCond .eq 7, 3) := by decide +kernel
theorem dX6_wants_20 : decode cX6_wants 20 = .ok (.iconst 0, 1) := by decide +kernel
theorem dX6_wants_21 : decode cX6_wants 21 = .ok (.goto 4, 3) := by decide +kernel
theorem dX6_wants_24 : decode cX6_wants 24 = .ok (.iconst 2, 1) := by decide +kernel
theorem dX6_wants_25 : decode cX6_wants 25 = .ok (.invokevirtual 108, 3) := by decide +kernel
theorem dX6_wants_28 : decode cX6_wants 28 = .ok (.ifCond .eq 5, 3) := by decide +kernel
theorem dX6_wants_31 : decode cX6_wants 31 = .ok (.iconst 0, 1) := by decide +kernel
theorem dX6_wants_32 : decode cX6_wants 32 = .ok (.ireturn, 1) := by decide +kernel
theorem dX6_wants_33 : decode cX6_wants 33 = .ok (.iconst 0, 1) := by decide +kernel
theorem dX6_wants_34 : decode cX6_wants 34 = .ok (.istore_n 3, 1) := by decide +kernel
theorem dX6_wants_35 : decode cX6_wants 35 = .ok (.iconst 0, 1) := by decide +kernel
theorem dX6_wants_36 : decode cX6_wants 36 = .ok (.istore 4, 2) := by decide +kernel
theorem dX6_wants_38 : decode cX6_wants 38 = .ok (.iload 4, 2) := by decide +kernel
theorem dX6_wants_40 : decode cX6_wants 40 = .ok (.aload_n 0, 1) := by decide +kernel
theorem dX6_wants_41 : decode cX6_wants 41 = .ok (.getfield 34, 3) := by decide +kernel
theorem dX6_wants_44 : decode cX6_wants 44 = .ok (.iload_n 1, 1) := by decide +kernel
theorem dX6_wants_45 : decode cX6_wants 45 = .ok (.iaload, 1) := by decide +kernel
theorem dX6_wants_46 : decode cX6_wants 46 = .ok (.if_icmp .ge 46, 3) := by decide +kernel
theorem dX6_wants_49 : decode cX6_wants 49 = .ok (.iload_n 3, 1) := by decide +kernel
theorem dX6_wants_50 : decode cX6_wants 50 = .ok (.aload_n 0, 1) := by decide +kernel
theorem dX6_wants_51 : decode cX6_wants 51 = .ok (.iload_n 1, 1) := by decide +kernel
theorem dX6_wants_52 : decode cX6_wants 52 = .ok (.iload 4, 2) := by decide +kernel
theorem dX6_wants_54 : decode cX6_wants 54 = .ok (.invokevirtual 157, 3) := by decide +kernel
theorem dX6_wants_57 : decode cX6_wants 57 = .ok (.iload_n 2, 1) := by decide +kernel
theorem dX6_wants_58 : decode cX6_wants 58 = .ok (.if_icmp .ne 25, 3) := by decide +kernel
theorem dX6_wants_61 : decode cX6_wants 61 = .ok (.iload 4, 2) := by decide +kernel
theorem dX6_wants_63 : decode cX6_wants 63 = .ok (.ifCond .eq 16, 3) := by decide +kernel
theorem dX6_wants_66 : decode cX6_wants 66 = .ok (.aload_n 0, 1) := by decide +kernel
theorem dX6_wants_67 : decode cX6_wants 67 = .ok (.iload_n 1, 1) := by decide +kernel
theorem dX6_wants_68 : decode cX6_wants 68 = .ok (.iload 4, 2) := by decide +kernel
theorem dX6_wants_70 : decode cX6_wants 70 = .ok (.iconst 1, 1) := by decide +kernel
theorem dX6_wants_71 : decode cX6_wants 71 = .ok (.isub, 1) := by decide +kernel
theorem dX6_wants_72 : decode cX6_wants 72 = .ok (.invokevirtual 157, 3) := by decide +kernel
theorem dX6_wants_75 : decode cX6_wants 75 = .ok (.iload_n 2, 1) := by decide +kernel
theorem dX6_wants_76 : decode cX6_wants 76 = .ok (.if_icmp .eq 7, 3) := by decide +kernel
theorem dX6_wants_79 : decode cX6_wants 79 = .ok (.iconst 1, 1) := by decide +kernel
theorem dX6_wants_80 : decode cX6_wants 80 = .ok (.goto 4, 3) := by decide +kernel
theorem dX6_wants_83 : decode cX6_wants 83 = .ok (.iconst 0, 1) := by decide +kernel
theorem dX6_wants_84 : decode cX6_wants 84 = .ok (.iadd, 1) := by decide +kernel
theorem dX6_wants_85 : decode cX6_wants 85 = .ok (.istore_n 3, 1) := by decide +kernel
theorem dX6_wants_86 : decode cX6_wants 86 = .ok (.iinc 4 1, 3) := by decide +kernel
theorem dX6_wants_89 : decode cX6_wants 89 = .ok (.goto (-51), 3) := by decide +kernel
theorem dX6_wants_92 : decode cX6_wants 92 = .ok (.iload_n 3, 1) := by decide +kernel
theorem dX6_wants_93 : decode cX6_wants 93 = .ok (.ireturn, 1) := by decide +kernel
theorem dX6_bars_0 : decode cX6_bars 0 = .ok (.aload_n 0, 1) := by decide +kernel
theorem dX6_bars_1 : decode cX6_bars 1 = .ok (.aload_n 0, 1) := by decide +kernel
theorem dX6_bars_2 : decode cX6_bars 2 = .ok (.iload_n 1, 1) := by decide +kernel
theorem dX6_bars_3 : decode cX6_bars 3 = .ok (.invokevirtual 105, 3) := by decide +kernel
theorem dX6_bars_6 : decode cX6_bars 6 = .ok (.ifCond .eq 7, 3) := by decide +kernel
theorem dX6_bars_9 : decode cX6_bars 9 = .ok (.iconst 0, 1) := by decide +kernel
theorem dX6_bars_10 : decode cX6_bars 10 = .ok (.goto 4, 3) := by decide +kernel
theorem dX6_bars_13 : decode cX6_bars 13 = .ok (.iconst 1, 1) := by decide +kernel
theorem dX6_bars_14 : decode cX6_bars 14 = .ok (.invokevirtual 108, 3) := by decide +kernel
theorem dX6_bars_17 : decode cX6_bars 17 = .ok (.ifCond .eq 7, 3) := by decide +kernel
theorem dX6_bars_20 : decode cX6_bars 20 = .ok (.iconst 0, 1) := by decide +kernel
theorem dX6_bars_21 : decode cX6_bars 21 = .ok (.goto 8, 3) := by decide +kernel
theorem dX6_bars_24 : decode cX6_bars 24 = .ok (.aload_n 0, 1) := by decide +kernel
theorem dX6_bars_25 : decode cX6_bars 25 = .ok (.iload_n 1, 1) := by decide +kernel
theorem dX6_bars_26 : decode cX6_bars 26 = .ok (.invokevirtual 173, 3) := by decide +kernel
theorem dX6_bars_29 : decode cX6_bars 29 = .ok (.ireturn, 1) := by decide +kernel
theorem dX6_wears_0 : decode cX6_wears 0 = .ok (.aload_n 0, 1) := by decide +kernel
theorem dX6_wears_1 : decode cX6_wears 1 = .ok (.aload_n 0, 1) := by decide +kernel
theorem dX6_wears_2 : decode cX6_wears 2 = .ok (.iload_n 1, 1) := by decide +kernel
theorem dX6_wears_3 : decode cX6_wears 3 = .ok (.iload_n 2, 1) := by decide +kernel
theorem dX6_wears_4 : decode cX6_wears 4 = .ok (.invokevirtual 138, 3) := by decide +kernel
theorem dX6_wears_7 : decode cX6_wears 7 = .ok (.ifCond .eq 7, 3) := by decide +kernel
theorem dX6_wears_10 : decode cX6_wears 10 = .ok (.iconst 0, 1) := by decide +kernel
theorem dX6_wears_11 : decode cX6_wears 11 = .ok (.goto 4, 3) := by decide +kernel
theorem dX6_wears_14 : decode cX6_wears 14 = .ok (.iconst 1, 1) := by decide +kernel
theorem dX6_wears_15 : decode cX6_wears 15 = .ok (.invokevirtual 108, 3) := by decide +kernel
theorem dX6_wears_18 : decode cX6_wears 18 = .ok (.ifCond .eq 5, 3) := by decide +kernel
theorem dX6_wears_21 : decode cX6_wears 21 = .ok (.iconst 0, 1) := by decide +kernel
theorem dX6_wears_22 : decode cX6_wears 22 = .ok (.ireturn, 1) := by decide +kernel
theorem dX6_wears_23 : decode cX6_wears 23 = .ok (.aload_n 0, 1) := by decide +kernel
theorem dX6_wears_24 : decode cX6_wears 24 = .ok (.getfield 13, 3) := by decide +kernel
theorem dX6_wears_27 : decode cX6_wears 27 = .ok (.bipush 6, 2) := by decide +kernel
theorem dX6_wears_29 : decode cX6_wears 29 = .ok (.aload_n 0, 1) := by decide +kernel
theorem dX6_wears_30 : decode cX6_wears 30 = .ok (.getfield 31, 3) := by decide +kernel
theorem dX6_wears_33 : decode cX6_wears 33 = .ok (.iload_n 1, 1) := by decide +kernel
theorem dX6_wears_34 : decode cX6_wears 34 = .ok (.iaload, 1) := by decide +kernel
theorem dX6_wears_35 : decode cX6_wears 35 = .ok (.imul, 1) := by decide +kernel
theorem dX6_wears_36 : decode cX6_wears 36 = .ok (.iload_n 2, 1) := by decide +kernel
theorem dX6_wears_37 : decode cX6_wears 37 = .ok (.iadd, 1) := by decide +kernel
theorem dX6_wears_38 : decode cX6_wears 38 = .ok (.iaload, 1) := by decide +kernel
theorem dX6_wears_39 : decode cX6_wears 39 = .ok (.istore_n 3, 1) := by decide +kernel
theorem dX6_wears_40 : decode cX6_wears 40 = .ok (.iconst 0, 1) := by decide +kernel
theorem dX6_wears_41 : decode cX6_wears 41 = .ok (.istore 4, 2) := by decide +kernel
theorem dX6_wears_43 : decode cX6_wears 43 = .ok (.aload_n 0, 1) := by decide +kernel
theorem dX6_wears_44 : decode cX6_wears 44 = .ok (.getfield 46, 3) := by decide +kernel
theorem dX6_wears_47 : decode cX6_wears 47 = .ok (.iload_n 1, 1) := by decide +kernel
theorem dX6_wears_48 : decode cX6_wears 48 = .ok (.iaload, 1) := by decide +kernel
theorem dX6_wears_49 : decode cX6_wears 49 = .ok (.istore 5, 2) := by decide +kernel
theorem dX6_wears_51 : decode cX6_wears 51 = .ok (.iload 5, 2) := by decide +kernel
theorem dX6_wears_53 : decode cX6_wears 53 = .ok (.aload_n 0, 1) := by decide +kernel
theorem dX6_wears_54 : decode cX6_wears 54 = .ok (.getfield 34, 3) := by decide +kernel
theorem dX6_wears_57 : decode cX6_wears 57 = .ok (.iload_n 1, 1) := by decide +kernel
theorem dX6_wears_58 : decode cX6_wears 58 = .ok (.iaload, 1) := by decide +kernel
theorem dX6_wears_59 : decode cX6_wears 59 = .ok (.if_icmp .ge 45, 3) := by decide +kernel
theorem dX6_wears_62 : decode cX6_wears 62 = .ok (.aload_n 0, 1) := by decide +kernel
theorem dX6_wears_63 : decode cX6_wears 63 = .ok (.iload_n 1, 1) := by decide +kernel
theorem dX6_wears_64 : decode cX6_wears 64 = .ok (.iload 5, 2) := by decide +kernel
theorem dX6_wears_66 : decode cX6_wears 66 = .ok (.invokevirtual 123, 3) := by decide +kernel
theorem dX6_wears_69 : decode cX6_wears 69 = .ok (.ifCond .ne 29, 3) := by decide +kernel
theorem dX6_wears_72 : decode cX6_wears 72 = .ok (.iload 4, 2) := by decide +kernel
theorem dX6_wears_74 : decode cX6_wears 74 = .ok (.iload_n 3, 1) := by decide +kernel
theorem dX6_wears_75 : decode cX6_wears 75 = .ok (.aload_n 0, 1) := by decide +kernel
theorem dX6_wears_76 : decode cX6_wears 76 = .ok (.iload_n 1, 1) := by decide +kernel
theorem dX6_wears_77 : decode cX6_wears 77 = .ok (.iload_n 2, 1) := by decide +kernel
theorem dX6_wears_78 : decode cX6_wears 78 = .ok (.iload 5, 2) := by decide +kernel
theorem dX6_wears_80 : decode cX6_wears 80 = .ok (.invokevirtual 144, 3) := by decide +kernel
theorem dX6_wears_83 : decode cX6_wears 83 = .ok (.invokestatic 170, 3) := by decide +kernel
theorem dX6_wears_86 : decode cX6_wears 86 = .ok (.iadd, 1) := by decide +kernel
theorem dX6_wears_87 : decode cX6_wears 87 = .ok (.istore 4, 2) := by decide +kernel
theorem dX6_wears_89 : decode cX6_wears 89 = .ok (.aload_n 0, 1) := by decide +kernel
theorem dX6_wears_90 : decode cX6_wears 90 = .ok (.iload_n 1, 1) := by decide +kernel
theorem dX6_wears_91 : decode cX6_wears 91 = .ok (.iload_n 2, 1) := by decide +kernel
theorem dX6_wears_92 : decode cX6_wears 92 = .ok (.iload 5, 2) := by decide +kernel
theorem dX6_wears_94 : decode cX6_wears 94 = .ok (.invokevirtual 144, 3) := by decide +kernel
theorem dX6_wears_97 : decode cX6_wears 97 = .ok (.istore_n 3, 1) := by decide +kernel
theorem dX6_wears_98 : decode cX6_wears 98 = .ok (.iinc 5 1, 3) := by decide +kernel
theorem dX6_wears_101 : decode cX6_wears 101 = .ok (.goto (-50), 3) := by decide +kernel
theorem dX6_wears_104 : decode cX6_wears 104 = .ok (.iload 4, 2) := by decide +kernel
theorem dX6_wears_106 : decode cX6_wears 106 = .ok (.ireturn, 1) := by decide +kernel
theorem dX6_struck_0 : decode cX6_struck 0 = .ok (.aload_n 0, 1) := by decide +kernel
theorem dX6_struck_1 : decode cX6_struck 1 = .ok (.aload_n 0, 1) := by decide +kernel
theorem dX6_struck_2 : decode cX6_struck 2 = .ok (.iload_n 1, 1) := by decide +kernel
theorem dX6_struck_3 : decode cX6_struck 3 = .ok (.invokevirtual 105, 3) := by decide +kernel
theorem dX6_struck_6 : decode cX6_struck 6 = .ok (.ifCond .eq 7, 3) := by decide +kernel
theorem dX6_struck_9 : decode cX6_struck 9 = .ok (.iconst 0, 1) := by decide +kernel
theorem dX6_struck_10 : decode cX6_struck 10 = .ok (.goto 4, 3) := by decide +kernel
theorem dX6_struck_13 : decode cX6_struck 13 = .ok (.iconst 1, 1) := by decide +kernel
theorem dX6_struck_14 : decode cX6_struck 14 = .ok (.invokevirtual 108, 3) := by decide +kernel
theorem dX6_struck_17 : decode cX6_struck 17 = .ok (.ifCond .eq 7, 3) := by decide +kernel
theorem dX6_struck_20 : decode cX6_struck 20 = .ok (.iconst 0, 1) := by decide +kernel
theorem dX6_struck_21 : decode cX6_struck 21 = .ok (.goto 9, 3) := by decide +kernel
theorem dX6_struck_24 : decode cX6_struck 24 = .ok (.aload_n 0, 1) := by decide +kernel
theorem dX6_struck_25 : decode cX6_struck 25 = .ok (.getfield 46, 3) := by decide +kernel
theorem dX6_struck_28 : decode cX6_struck 28 = .ok (.iload_n 1, 1) := by decide +kernel
theorem dX6_struck_29 : decode cX6_struck 29 = .ok (.iaload, 1) := by decide +kernel
theorem dX6_struck_30 : decode cX6_struck 30 = .ok (.ireturn, 1) := by decide +kernel
theorem dX6_pose_0 : decode cX6_pose 0 = .ok (.aload_n 0, 1) := by decide +kernel
theorem dX6_pose_1 : decode cX6_pose 1 = .ok (.aload_n 0, 1) := by decide +kernel
theorem dX6_pose_2 : decode cX6_pose 2 = .ok (.iload_n 1, 1) := by decide +kernel
theorem dX6_pose_3 : decode cX6_pose 3 = .ok (.iload_n 2, 1) := by decide +kernel
theorem dX6_pose_4 : decode cX6_pose 4 = .ok (.invokevirtual 138, 3) := by decide +kernel
theorem dX6_pose_7 : decode cX6_pose 7 = .ok (.ifCond .eq 16, 3) := by decide +kernel
theorem dX6_pose_10 : decode cX6_pose 10 = .ok (.aload_n 0, 1) := by decide +kernel
theorem dX6_pose_11 : decode cX6_pose 11 = .ok (.iload_n 1, 1) := by decide +kernel
theorem dX6_pose_12 : decode cX6_pose 12 = .ok (.iload_n 3, 1) := by decide +kernel
theorem dX6_pose_13 : decode cX6_pose 13 = .ok (.invokevirtual 193, 3) := by decide +kernel
theorem dX6_pose_16 : decode cX6_pose 16 = .ok (.ifCond .eq 7, 3) := by decide +kernel
theorem dX6_pose_19 : decode cX6_pose 19 = .ok (.iconst 0, 1) := by decide +kernel
theorem dX6_pose_20 : decode cX6_pose 20 = .ok (.goto 4, 3) := by decide +kernel
theorem dX6_pose_23 : decode cX6_pose 23 = .ok (.iconst 1, 1) := by decide +kernel
theorem dX6_pose_24 : decode cX6_pose 24 = .ok (.invokevirtual 108, 3) := by decide +kernel
theorem dX6_pose_27 : decode cX6_pose 27 = .ok (.ifCond .eq 7, 3) := by decide +kernel
theorem dX6_pose_30 : decode cX6_pose 30 = .ok (.iconst 0, 1) := by decide +kernel
theorem dX6_pose_31 : decode cX6_pose 31 = .ok (.goto 16, 3) := by decide +kernel
theorem dX6_pose_34 : decode cX6_pose 34 = .ok (.aload_n 0, 1) := by decide +kernel
theorem dX6_pose_35 : decode cX6_pose 35 = .ok (.getfield 62, 3) := by decide +kernel
theorem dX6_pose_38 : decode cX6_pose 38 = .ok (.aload_n 0, 1) := by decide +kernel
theorem dX6_pose_39 : decode cX6_pose 39 = .ok (.iload_n 1, 1) := by decide +kernel
theorem dX6_pose_40 : decode cX6_pose 40 = .ok (.iload_n 2, 1) := by decide +kernel
theorem dX6_pose_41 : decode cX6_pose 41 = .ok (.invokevirtual 127, 3) := by decide +kernel
theorem dX6_pose_44 : decode cX6_pose 44 = .ok (.iload_n 3, 1) := by decide +kernel
theorem dX6_pose_45 : decode cX6_pose 45 = .ok (.iadd, 1) := by decide +kernel
theorem dX6_pose_46 : decode cX6_pose 46 = .ok (.iaload, 1) := by decide +kernel
theorem dX6_pose_47 : decode cX6_pose 47 = .ok (.ireturn, 1) := by decide +kernel
theorem dX6_ofFrame_0 : decode cX6_ofFrame 0 = .ok (.aload_n 0, 1) := by decide +kernel
theorem dX6_ofFrame_1 : decode cX6_ofFrame 1 = .ok (.aload_n 0, 1) := by decide +kernel
theorem dX6_ofFrame_2 : decode cX6_ofFrame 2 = .ok (.iload_n 1, 1) := by decide +kernel
theorem dX6_ofFrame_3 : decode cX6_ofFrame 3 = .ok (.iload_n 2, 1) := by decide +kernel
theorem dX6_ofFrame_4 : decode cX6_ofFrame 4 = .ok (.invokevirtual 193, 3) := by decide +kernel
theorem dX6_ofFrame_7 : decode cX6_ofFrame 7 = .ok (.ifCond .ne 7, 3) := by decide +kernel
theorem dX6_ofFrame_10 : decode cX6_ofFrame 10 = .ok (.iconst 1, 1) := by decide +kernel
theorem dX6_ofFrame_11 : decode cX6_ofFrame 11 = .ok (.goto 17, 3) := by decide +kernel
theorem dX6_ofFrame_14 : decode cX6_ofFrame 14 = .ok (.iload_n 3, 1) := by decide +kernel
theorem dX6_ofFrame_15 : decode cX6_ofFrame 15 = .ok (.iconst 0, 1) := by decide +kernel
theorem dX6_ofFrame_16 : decode cX6_ofFrame 16 = .ok (.iconst 3, 1) := by decide +kernel
theorem dX6_ofFrame_17 : decode cX6_ofFrame 17 = .ok (.invokestatic 91, 3) := by decide +kernel
theorem dX6_ofFrame_20 : decode cX6_ofFrame 20 = .ok (.ifCond .eq 7, 3) := by decide +kernel
theorem dX6_ofFrame_23 : decode cX6_ofFrame 23 = .ok (.iconst 0, 1) := by decide +kernel
theorem dX6_ofFrame_24 : decode cX6_ofFrame 24 = .ok (.goto 4, 3) := by decide +kernel
theorem dX6_ofFrame_27 : decode cX6_ofFrame 27 = .ok (.iconst 2, 1) := by decide +kernel
theorem dX6_ofFrame_28 : decode cX6_ofFrame 28 = .ok (.invokevirtual 108, 3) := by decide +kernel
theorem dX6_ofFrame_31 : decode cX6_ofFrame 31 = .ok (.ifCond .eq 5, 3) := by decide +kernel
theorem dX6_ofFrame_34 : decode cX6_ofFrame 34 = .ok (.iconst 0, 1) := by decide +kernel
theorem dX6_ofFrame_35 : decode cX6_ofFrame 35 = .ok (.ireturn, 1) := by decide +kernel
theorem dX6_ofFrame_36 : decode cX6_ofFrame 36 = .ok (.bipush 48, 2) := by decide +kernel
theorem dX6_ofFrame_38 : decode cX6_ofFrame 38 = .ok (.iload_n 1, 1) := by decide +kernel
theorem dX6_ofFrame_39 : decode cX6_ofFrame 39 = .ok (.imul, 1) := by decide +kernel
theorem dX6_ofFrame_40 : decode cX6_ofFrame 40 = .ok (.iload_n 2, 1) := by decide +kernel
theorem dX6_ofFrame_41 : decode cX6_ofFrame 41 = .ok (.iadd, 1) := by decide +kernel
theorem dX6_ofFrame_42 : decode cX6_ofFrame 42 = .ok (.istore 4, 2) := by decide +kernel
theorem dX6_ofFrame_44 : decode cX6_ofFrame 44 = .ok (.iload_n 3, 1) := by decide +kernel
theorem dX6_ofFrame_45 : decode cX6_ofFrame 45 = .ok (.ifCond .ne 13, 3) := by decide +kernel
theorem dX6_ofFrame_48 : decode cX6_ofFrame 48 = .ok (.aload_n 0, 1) := by decide +kernel
theorem dX6_ofFrame_49 : decode cX6_ofFrame 49 = .ok (.getfield 65, 3) := by decide +kernel
theorem dX6_ofFrame_52 : decode cX6_ofFrame 52 = .ok (.iload 4, 2) := by decide +kernel
theorem dX6_ofFrame_54 : decode cX6_ofFrame 54 = .ok (.iaload, 1) := by decide +kernel
theorem dX6_ofFrame_55 : decode cX6_ofFrame 55 = .ok (.goto 40, 3) := by decide +kernel
theorem dX6_ofFrame_58 : decode cX6_ofFrame 58 = .ok (.iload_n 3, 1) := by decide +kernel
theorem dX6_ofFrame_59 : decode cX6_ofFrame 59 = .ok (.iconst 1, 1) := by decide +kernel
theorem dX6_ofFrame_60 : decode cX6_ofFrame 60 = .ok (.if_icmp .ne 13, 3) := by decide +kernel
theorem dX6_ofFrame_63 : decode cX6_ofFrame 63 = .ok (.aload_n 0, 1) := by decide +kernel
theorem dX6_ofFrame_64 : decode cX6_ofFrame 64 = .ok (.getfield 71, 3) := by decide +kernel
theorem dX6_ofFrame_67 : decode cX6_ofFrame 67 = .ok (.iload 4, 2) := by decide +kernel
theorem dX6_ofFrame_69 : decode cX6_ofFrame 69 = .ok (.iaload, 1) := by decide +kernel
theorem dX6_ofFrame_70 : decode cX6_ofFrame 70 = .ok (.goto 25, 3) := by decide +kernel
theorem dX6_ofFrame_73 : decode cX6_ofFrame 73 = .ok (.iload_n 3, 1) := by decide +kernel
theorem dX6_ofFrame_74 : decode cX6_ofFrame 74 = .ok (.iconst 2, 1) := by decide +kernel
theorem dX6_ofFrame_75 : decode cX6_ofFrame 75 = .ok (.if_icmp .ne 13, 3) := by decide +kernel
theorem dX6_ofFrame_78 : decode cX6_ofFrame 78 = .ok (.aload_n 0, 1) := by decide +kernel
theorem dX6_ofFrame_79 : decode cX6_ofFrame 79 = .ok (.getfield 74, 3) := by decide +kernel
theorem dX6_ofFrame_82 : decode cX6_ofFrame 82 = .ok (.iload 4, 2) := by decide +kernel
theorem dX6_ofFrame_84 : decode cX6_ofFrame 84 = .ok (.iaload, 1) := by decide +kernel
theorem dX6_ofFrame_85 : decode cX6_ofFrame 85 = .ok (.goto 10, 3) := by decide +kernel
theorem dX6_ofFrame_88 : decode cX6_ofFrame 88 = .ok (.aload_n 0, 1) := by decide +kernel
theorem dX6_ofFrame_89 : decode cX6_ofFrame 89 = .ok (.getfield 77, 3) := by decide +kernel
theorem dX6_ofFrame_92 : decode cX6_ofFrame 92 = .ok (.iload 4, 2) := by decide +kernel
theorem dX6_ofFrame_94 : decode cX6_ofFrame 94 = .ok (.iaload, 1) := by decide +kernel
theorem dX6_ofFrame_95 : decode cX6_ofFrame 95 = .ok (.ireturn, 1) := by decide +kernel
theorem dX6_faults_0 : decode cX6_faults 0 = .ok (.aload_n 0, 1) := by decide +kernel
theorem dX6_faults_1 : decode cX6_faults 1 = .ok (.aload_n 0, 1) := by decide +kernel
theorem dX6_faults_2 : decode cX6_faults 2 = .ok (.iload_n 1, 1) := by decide +kernel
theorem dX6_faults_3 : decode cX6_faults 3 = .ok (.iload_n 2, 1) := by decide +kernel
theorem dX6_faults_4 : decode cX6_faults 4 = .ok (.invokevirtual 193, 3) := by decide +kernel
theorem dX6_faults_7 : decode cX6_faults 7 = .ok (.ifCond .eq 7, 3) := by decide +kernel
theorem dX6_faults_10 : decode cX6_faults 10 = .ok (.iconst 0, 1) := by decide +kernel
theorem dX6_faults_11 : decode cX6_faults 11 = .ok (.goto 4, 3) := by decide +kernel
theorem dX6_faults_14 : decode cX6_faults 14 = .ok (.iconst 1, 1) := by decide +kernel
theorem dX6_faults_15 : decode cX6_faults 15 = .ok (.invokevirtual 108, 3) := by decide +kernel
theorem dX6_faults_18 : decode cX6_faults 18 = .ok (.ifCond .eq 5, 3) := by decide +kernel
theorem dX6_faults_21 : decode cX6_faults 21 = .ok (.iconst 0, 1) := by decide +kernel
theorem dX6_faults_22 : decode cX6_faults 22 = .ok (.ireturn, 1) := by decide +kernel
theorem dX6_faults_23 : decode cX6_faults 23 = .ok (.bipush 48, 2) := by decide +kernel
theorem dX6_faults_25 : decode cX6_faults 25 = .ok (.iload_n 1, 1) := by decide +kernel
theorem dX6_faults_26 : decode cX6_faults 26 = .ok (.imul, 1) := by decide +kernel
theorem dX6_faults_27 : decode cX6_faults 27 = .ok (.iload_n 2, 1) := by decide +kernel
theorem dX6_faults_28 : decode cX6_faults 28 = .ok (.iadd, 1) := by decide +kernel
theorem dX6_faults_29 : decode cX6_faults 29 = .ok (.istore_n 3, 1) := by decide +kernel
theorem dX6_faults_30 : decode cX6_faults 30 = .ok (.iconst 0, 1) := by decide +kernel
theorem dX6_faults_31 : decode cX6_faults 31 = .ok (.istore 4, 2) := by decide +kernel
theorem dX6_faults_33 : decode cX6_faults 33 = .ok (.iconst 0, 1) := by decide +kernel
theorem dX6_faults_34 : decode cX6_faults 34 = .ok (.istore 5, 2) := by decide +kernel
theorem dX6_faults_36 : decode cX6_faults 36 = .ok (.iload 5, 2) := by decide +kernel
theorem dX6_faults_38 : decode cX6_faults 38 = .ok (.aload_n 0, 1) := by decide +kernel
theorem dX6_faults_39 : decode cX6_faults 39 = .ok (.getfield 7, 3) := by decide +kernel
theorem dX6_faults_42 : decode cX6_faults 42 = .ok (.aload_n 0, 1) := by decide +kernel
theorem dX6_faults_43 : decode cX6_faults 43 = .ok (.getfield 31, 3) := by decide +kernel
theorem dX6_faults_46 : decode cX6_faults 46 = .ok (.iload_n 1, 1) := by decide +kernel
theorem dX6_faults_47 : decode cX6_faults 47 = .ok (.iaload, 1) := by decide +kernel
theorem dX6_faults_48 : decode cX6_faults 48 = .ok (.iaload, 1) := by decide +kernel
theorem dX6_faults_49 : decode cX6_faults 49 = .ok (.if_icmp .ge 46, 3) := by decide +kernel
theorem dX6_faults_52 : decode cX6_faults 52 = .ok (.iload 4, 2) := by decide +kernel
theorem dX6_faults_54 : decode cX6_faults 54 = .ok (.ifCond .ne 28, 3) := by decide +kernel
theorem dX6_faults_57 : decode cX6_faults 57 = .ok (.aload_n 0, 1) := by decide +kernel
theorem dX6_faults_58 : decode cX6_faults 58 = .ok (.getfield 62, 3) := by decide +kernel
theorem dX6_faults_61 : decode cX6_faults 61 = .ok (.aload_n 0, 1) := by decide +kernel
theorem dX6_faults_62 : decode cX6_faults 62 = .ok (.iload_n 1, 1) := by decide +kernel
theorem dX6_faults_63 : decode cX6_faults 63 = .ok (.iload 5, 2) := by decide +kernel
theorem dX6_faults_65 : decode cX6_faults 65 = .ok (.invokevirtual 127, 3) := by decide +kernel
theorem dX6_faults_68 : decode cX6_faults 68 = .ok (.iload_n 2, 1) := by decide +kernel
theorem dX6_faults_69 : decode cX6_faults 69 = .ok (.iadd, 1) := by decide +kernel
theorem dX6_faults_70 : decode cX6_faults 70 = .ok (.iaload, 1) := by decide +kernel
theorem dX6_faults_71 : decode cX6_faults 71 = .ok (.aload_n 0, 1) := by decide +kernel
theorem dX6_faults_72 : decode cX6_faults 72 = .ok (.iload_n 1, 1) := by decide +kernel
theorem dX6_faults_73 : decode cX6_faults 73 = .ok (.iload 5, 2) := by decide +kernel
theorem dX6_faults_75 : decode cX6_faults 75 = .ok (.iload_n 2, 1) := by decide +kernel
theorem dX6_faults_76 : decode cX6_faults 76 = .ok (.invokevirtual 144, 3) := by decide +kernel
theorem dX6_faults_79 : decode cX6_faults 79 = .ok (.if_icmp .eq 7, 3) := by decide +kernel
theorem dX6_faults_82 : decode cX6_faults 82 = .ok (.iconst 1, 1) := by decide +kernel
theorem dX6_faults_83 : decode cX6_faults 83 = .ok (.goto 4, 3) := by decide +kernel
theorem dX6_faults_86 : decode cX6_faults 86 = .ok (.iconst 0, 1) := by decide +kernel
theorem dX6_faults_87 : decode cX6_faults 87 = .ok (.istore 4, 2) := by decide +kernel
theorem dX6_faults_89 : decode cX6_faults 89 = .ok (.iinc 5 1, 3) := by decide +kernel
theorem dX6_faults_92 : decode cX6_faults 92 = .ok (.goto (-56), 3) := by decide +kernel
theorem dX6_faults_95 : decode cX6_faults 95 = .ok (.iload_n 2, 1) := by decide +kernel
theorem dX6_faults_96 : decode cX6_faults 96 = .ok (.ifCond .ne 7, 3) := by decide +kernel
theorem dX6_faults_99 : decode cX6_faults 99 = .ok (.iconst 0, 1) := by decide +kernel
theorem dX6_faults_100 : decode cX6_faults 100 = .ok (.goto 18, 3) := by decide +kernel
theorem dX6_faults_103 : decode cX6_faults 103 = .ok (.aload_n 0, 1) := by decide +kernel
theorem dX6_faults_104 : decode cX6_faults 104 = .ok (.getfield 74, 3) := by decide +kernel
theorem dX6_faults_107 : decode cX6_faults 107 = .ok (.iload_n 3, 1) := by decide +kernel
theorem dX6_faults_108 : decode cX6_faults 108 = .ok (.iaload, 1) := by decide +kernel
theorem dX6_faults_109 : decode cX6_faults 109 = .ok (.aload_n 0, 1) := by decide +kernel
theorem dX6_faults_110 : decode cX6_faults 110 = .ok (.getfield 74, 3) := by decide +kernel
theorem dX6_faults_113 : decode cX6_faults 113 = .ok (.iload_n 3, 1) := by decide +kernel
theorem dX6_faults_114 : decode cX6_faults 114 = .ok (.iconst 1, 1) := by decide +kernel
theorem dX6_faults_115 : decode cX6_faults 115 = .ok (.isub, 1) := by decide +kernel
theorem dX6_faults_116 : decode cX6_faults 116 = .ok (.iaload, 1) := by decide +kernel
theorem dX6_faults_117 : decode cX6_faults 117 = .ok (.isub, 1) := by decide +kernel
theorem dX6_faults_118 : decode cX6_faults 118 = .ok (.istore 5, 2) := by decide +kernel
theorem dX6_faults_120 : decode cX6_faults 120 = .ok (.iload 4, 2) := by decide +kernel
theorem dX6_faults_122 : decode cX6_faults 122 = .ok (.ifCond .eq 7, 3) := by decide +kernel
theorem dX6_faults_125 : decode cX6_faults 125 = .ok (.iconst 1, 1) := by decide +kernel
theorem dX6_faults_126 : decode cX6_faults 126 = .ok (.goto 4, 3) := by decide +kernel
theorem dX6_faults_129 : decode cX6_faults 129 = .ok (.iconst 0, 1) := by decide +kernel
theorem dX6_faults_130 : decode cX6_faults 130 = .ok (.aload_n 0, 1) := by decide +kernel
theorem dX6_faults_131 : decode cX6_faults 131 = .ok (.getfield 65, 3) := by decide +kernel
theorem dX6_faults_134 : decode cX6_faults 134 = .ok (.iload_n 3, 1) := by decide +kernel
theorem dX6_faults_135 : decode cX6_faults 135 = .ok (.iaload, 1) := by decide +kernel
theorem dX6_faults_136 : decode cX6_faults 136 = .ok (.aload_n 0, 1) := by decide +kernel
theorem dX6_faults_137 : decode cX6_faults 137 = .ok (.iload_n 1, 1) := by decide +kernel
theorem dX6_faults_138 : decode cX6_faults 138 = .ok (.iload_n 2, 1) := by decide +kernel
theorem dX6_faults_139 : decode cX6_faults 139 = .ok (.invokevirtual 157, 3) := by decide +kernel
theorem dX6_faults_142 : decode cX6_faults 142 = .ok (.if_icmp .eq 7, 3) := by decide +kernel
theorem dX6_faults_145 : decode cX6_faults 145 = .ok (.iconst 2, 1) := by decide +kernel
theorem dX6_faults_146 : decode cX6_faults 146 = .ok (.goto 4, 3) := by decide +kernel
theorem dX6_faults_149 : decode cX6_faults 149 = .ok (.iconst 0, 1) := by decide +kernel
theorem dX6_faults_150 : decode cX6_faults 150 = .ok (.iadd, 1) := by decide +kernel
theorem dX6_faults_151 : decode cX6_faults 151 = .ok (.aload_n 0, 1) := by decide +kernel
theorem dX6_faults_152 : decode cX6_faults 152 = .ok (.getfield 77, 3) := by decide +kernel
theorem dX6_faults_155 : decode cX6_faults 155 = .ok (.iload_n 3, 1) := by decide +kernel
theorem dX6_faults_156 : decode cX6_faults 156 = .ok (.iaload, 1) := by decide +kernel
theorem dX6_faults_157 : decode cX6_faults 157 = .ok (.ifCond .eq 7, 3) := by decide +kernel
theorem dX6_faults_160 : decode cX6_faults 160 = .ok (.iconst 4, 1) := by decide +kernel
theorem dX6_faults_161 : decode cX6_faults 161 = .ok (.goto 4, 3) := by decide +kernel
theorem dX6_faults_164 : decode cX6_faults 164 = .ok (.iconst 0, 1) := by decide +kernel
theorem dX6_faults_165 : decode cX6_faults 165 = .ok (.iadd, 1) := by decide +kernel
theorem dX6_faults_166 : decode cX6_faults 166 = .ok (.istore 6, 2) := by decide +kernel
theorem dX6_faults_168 : decode cX6_faults 168 = .ok (.iload 6, 2) := by decide +kernel
theorem dX6_faults_170 : decode cX6_faults 170 = .ok (.iload 5, 2) := by decide +kernel
theorem dX6_faults_172 : decode cX6_faults 172 = .ok (.bipush 20, 2) := by decide +kernel
theorem dX6_faults_174 : decode cX6_faults 174 = .ok (.if_icmp .gt 10, 3) := by decide +kernel
theorem dX6_faults_177 : decode cX6_faults 177 = .ok (.iload 5, 2) := by decide +kernel
theorem dX6_faults_179 : decode cX6_faults 179 = .ok (.bipush (-20), 2) := by decide +kernel
theorem dX6_faults_181 : decode cX6_faults 181 = .ok (.if_icmp .ge 8, 3) := by decide +kernel
theorem dX6_faults_184 : decode cX6_faults 184 = .ok (.bipush 8, 2) := by decide +kernel
theorem dX6_faults_186 : decode cX6_faults 186 = .ok (.goto 4, 3) := by decide +kernel
theorem dX6_faults_189 : decode cX6_faults 189 = .ok (.iconst 0, 1) := by decide +kernel
theorem dX6_faults_190 : decode cX6_faults 190 = .ok (.iadd, 1) := by decide +kernel
theorem dX6_faults_191 : decode cX6_faults 191 = .ok (.aload_n 0, 1) := by decide +kernel
theorem dX6_faults_192 : decode cX6_faults 192 = .ok (.getfield 71, 3) := by decide +kernel
theorem dX6_faults_195 : decode cX6_faults 195 = .ok (.iload_n 3, 1) := by decide +kernel
theorem dX6_faults_196 : decode cX6_faults 196 = .ok (.iaload, 1) := by decide +kernel
theorem dX6_faults_197 : decode cX6_faults 197 = .ok (.aload_n 0, 1) := by decide +kernel
theorem dX6_faults_198 : decode cX6_faults 198 = .ok (.iload_n 1, 1) := by decide +kernel
theorem dX6_faults_199 : decode cX6_faults 199 = .ok (.iload_n 2, 1) := by decide +kernel
theorem dX6_faults_200 : decode cX6_faults 200 = .ok (.invokevirtual 148, 3) := by decide +kernel
theorem dX6_faults_203 : decode cX6_faults 203 = .ok (.if_icmp .eq 8, 3) := by decide +kernel
theorem dX6_faults_206 : decode cX6_faults 206 = .ok (.bipush 16, 2) := by decide +kernel
theorem dX6_faults_208 : decode cX6_faults 208 = .ok (.goto 4, 3) := by decide +kernel
theorem dX6_faults_211 : decode cX6_faults 211 = .ok (.iconst 0, 1) := by decide +kernel
theorem dX6_faults_212 : decode cX6_faults 212 = .ok (.iadd, 1) := by decide +kernel
theorem dX6_faults_213 : decode cX6_faults 213 = .ok (.ireturn, 1) := by decide +kernel
theorem dX6_ofJoint_0 : decode cX6_ofJoint 0 = .ok (.aload_n 0, 1) := by decide +kernel
theorem dX6_ofJoint_1 : decode cX6_ofJoint 1 = .ok (.aload_n 0, 1) := by decide +kernel
theorem dX6_ofJoint_2 : decode cX6_ofJoint 2 = .ok (.iload_n 1, 1) := by decide +kernel
theorem dX6_ofJoint_3 : decode cX6_ofJoint 3 = .ok (.iload_n 2, 1) := by decide +kernel
theorem dX6_ofJoint_4 : decode cX6_ofJoint 4 = .ok (.invokevirtual 135, 3) := by decide +kernel
theorem dX6_ofJoint_7 : decode cX6_ofJoint 7 = .ok (.ifCond .ne 7, 3) := by decide +kernel
theorem dX6_ofJoint_10 : decode cX6_ofJoint 10 = .ok (.iconst 1, 1) := by decide +kernel
theorem dX6_ofJoint_11 : decode cX6_ofJoint 11 = .ok (.goto 17, 3) := by decide +kernel
theorem dX6_ofJoint_14 : decode cX6_ofJoint 14 = .ok (.iload_n 3, 1) := by decide +kernel
theorem dX6_ofJoint_15 : decode cX6_ofJoint 15 = .ok (.iconst 0, 1) := by decide +kernel
theorem dX6_ofJoint_16 : decode cX6_ofJoint 16 = .ok (.iconst 1, 1) := by decide +kernel
theorem dX6_ofJoint_17 : decode cX6_ofJoint 17 = .ok (.invokestatic 91, 3) := by decide +kernel
theorem dX6_ofJoint_20 : decode cX6_ofJoint 20 = .ok (.ifCond .eq 7, 3) := by decide +kernel
theorem dX6_ofJoint_23 : decode cX6_ofJoint 23 = .ok (.iconst 0, 1) := by decide +kernel
theorem dX6_ofJoint_24 : decode cX6_ofJoint 24 = .ok (.goto 4, 3) := by decide +kernel
theorem dX6_ofJoint_27 : decode cX6_ofJoint 27 = .ok (.iconst 2, 1) := by decide +kernel
theorem dX6_ofJoint_28 : decode cX6_ofJoint 28 = .ok (.invokevirtual 108, 3) := by decide +kernel
theorem dX6_ofJoint_31 : decode cX6_ofJoint 31 = .ok (.ifCond .eq 5, 3) := by decide +kernel
theorem dX6_ofJoint_34 : decode cX6_ofJoint 34 = .ok (.iconst 0, 1) := by decide +kernel
theorem dX6_ofJoint_35 : decode cX6_ofJoint 35 = .ok (.ireturn, 1) := by decide +kernel
theorem dX6_ofJoint_36 : decode cX6_ofJoint 36 = .ok (.iload_n 3, 1) := by decide +kernel
theorem dX6_ofJoint_37 : decode cX6_ofJoint 37 = .ok (.ifCond .ne 17, 3) := by decide +kernel
theorem dX6_ofJoint_40 : decode cX6_ofJoint 40 = .ok (.aload_n 0, 1) := by decide +kernel
theorem dX6_ofJoint_41 : decode cX6_ofJoint 41 = .ok (.getfield 13, 3) := by decide +kernel
theorem dX6_ofJoint_44 : decode cX6_ofJoint 44 = .ok (.bipush 6, 2) := by decide +kernel
theorem dX6_ofJoint_46 : decode cX6_ofJoint 46 = .ok (.iload_n 1, 1) := by decide +kernel
theorem dX6_ofJoint_47 : decode cX6_ofJoint 47 = .ok (.imul, 1) := by decide +kernel
theorem dX6_ofJoint_48 : decode cX6_ofJoint 48 = .ok (.iload_n 2, 1) := by decide +kernel
theorem dX6_ofJoint_49 : decode cX6_ofJoint 49 = .ok (.iadd, 1) := by decide +kernel
theorem dX6_ofJoint_50 : decode cX6_ofJoint 50 = .ok (.iaload, 1) := by decide +kernel
theorem dX6_ofJoint_51 : decode cX6_ofJoint 51 = .ok (.goto 14, 3) := by decide +kernel
theorem dX6_ofJoint_54 : decode cX6_ofJoint 54 = .ok (.aload_n 0, 1) := by decide +kernel
theorem dX6_ofJoint_55 : decode cX6_ofJoint 55 = .ok (.getfield 16, 3) := by decide +kernel
theorem dX6_ofJoint_58 : decode cX6_ofJoint 58 = .ok (.bipush 6, 2) := by decide +kernel
theorem dX6_ofJoint_60 : decode cX6_ofJoint 60 = .ok (.iload_n 1, 1) := by decide +kernel
theorem dX6_ofJoint_61 : decode cX6_ofJoint 61 = .ok (.imul, 1) := by decide +kernel
theorem dX6_ofJoint_62 : decode cX6_ofJoint 62 = .ok (.iload_n 2, 1) := by decide +kernel
theorem dX6_ofJoint_63 : decode cX6_ofJoint 63 = .ok (.iadd, 1) := by decide +kernel
theorem dX6_ofJoint_64 : decode cX6_ofJoint 64 = .ok (.iaload, 1) := by decide +kernel
theorem dX6_ofJoint_65 : decode cX6_ofJoint 65 = .ok (.ireturn, 1) := by decide +kernel
theorem dX6_left_0 : decode cX6_left 0 = .ok (.aload_n 0, 1) := by decide +kernel
theorem dX6_left_1 : decode cX6_left 1 = .ok (.aload_n 0, 1) := by decide +kernel
theorem dX6_left_2 : decode cX6_left 2 = .ok (.iload_n 1, 1) := by decide +kernel
theorem dX6_left_3 : decode cX6_left 3 = .ok (.invokevirtual 95, 3) := by decide +kernel
theorem dX6_left_6 : decode cX6_left 6 = .ok (.ifCond .ne 7, 3) := by decide +kernel
theorem dX6_left_9 : decode cX6_left 9 = .ok (.iconst 1, 1) := by decide +kernel
theorem dX6_left_10 : decode cX6_left 10 = .ok (.goto 15, 3) := by decide +kernel
theorem dX6_left_13 : decode cX6_left 13 = .ok (.iload_n 2, 1) := by decide +kernel
theorem dX6_left_14 : decode cX6_left 14 = .ok (.invokestatic 111, 3) := by decide +kernel
theorem dX6_left_17 : decode cX6_left 17 = .ok (.ifCond .eq 7, 3) := by decide +kernel
theorem dX6_left_20 : decode cX6_left 20 = .ok (.iconst 0, 1) := by decide +kernel
theorem dX6_left_21 : decode cX6_left 21 = .ok (.goto 4, 3) := by decide +kernel
theorem dX6_left_24 : decode cX6_left 24 = .ok (.iconst 2, 1) := by decide +kernel
theorem dX6_left_25 : decode cX6_left 25 = .ok (.invokevirtual 108, 3) := by decide +kernel
theorem dX6_left_28 : decode cX6_left 28 = .ok (.ifCond .eq 7, 3) := by decide +kernel
theorem dX6_left_31 : decode cX6_left 31 = .ok (.iconst 0, 1) := by decide +kernel
theorem dX6_left_32 : decode cX6_left 32 = .ok (.goto 14, 3) := by decide +kernel
theorem dX6_left_35 : decode cX6_left 35 = .ok (.aload_n 0, 1) := by decide +kernel
theorem dX6_left_36 : decode cX6_left 36 = .ok (.getfield 19, 3) := by decide +kernel
theorem dX6_left_39 : decode cX6_left 39 = .ok (.bipush 10, 2) := by decide +kernel
theorem dX6_left_41 : decode cX6_left 41 = .ok (.iload_n 1, 1) := by decide +kernel
theorem dX6_left_42 : decode cX6_left 42 = .ok (.imul, 1) := by decide +kernel
theorem dX6_left_43 : decode cX6_left 43 = .ok (.iload_n 2, 1) := by decide +kernel
theorem dX6_left_44 : decode cX6_left 44 = .ok (.iadd, 1) := by decide +kernel
theorem dX6_left_45 : decode cX6_left 45 = .ok (.iaload, 1) := by decide +kernel
theorem dX6_left_46 : decode cX6_left 46 = .ok (.ireturn, 1) := by decide +kernel
theorem dX6_light_0 : decode cX6_light 0 = .ok (.aload_n 0, 1) := by decide +kernel
theorem dX6_light_1 : decode cX6_light 1 = .ok (.iconst 0, 1) := by decide +kernel
theorem dX6_light_2 : decode cX6_light 2 = .ok (.putfield 84, 3) := by decide +kernel
theorem dX6_light_5 : decode cX6_light 5 = .ok (.aload_n 0, 1) := by decide +kernel
theorem dX6_light_6 : decode cX6_light 6 = .ok (.invokevirtual 186, 3) := by decide +kernel
theorem dX6_light_9 : decode cX6_light 9 = .ok (.ireturn, 1) := by decide +kernel
theorem dX6_film_0 : decode cX6_film 0 = .ok (.aload_n 0, 1) := by decide +kernel
theorem dX6_film_1 : decode cX6_film 1 = .ok (.iload_n 1, 1) := by decide +kernel
theorem dX6_film_2 : decode cX6_film 2 = .ok (.ifCond .lt 7, 3) := by decide +kernel
theorem dX6_film_5 : decode cX6_film 5 = .ok (.iconst 0, 1) := by decide +kernel
theorem dX6_film_6 : decode cX6_film 6 = .ok (.goto 4, 3) := by decide +kernel
theorem dX6_film_9 : decode cX6_film 9 = .ok (.iconst 1, 1) := by decide +kernel
theorem dX6_film_10 : decode cX6_film 10 = .ok (.invokevirtual 108, 3) := by decide +kernel
theorem dX6_film_13 : decode cX6_film 13 = .ok (.ifCond .eq 5, 3) := by decide +kernel
theorem dX6_film_16 : decode cX6_film 16 = .ok (.iconst 0, 1) := by decide +kernel
theorem dX6_film_17 : decode cX6_film 17 = .ok (.ireturn, 1) := by decide +kernel
theorem dX6_film_18 : decode cX6_film 18 = .ok (.iload_n 1, 1) := by decide +kernel
theorem dX6_film_19 : decode cX6_film 19 = .ok (.istore_n 2, 1) := by decide +kernel
theorem dX6_film_20 : decode cX6_film 20 = .ok (.iconst 0, 1) := by decide +kernel
theorem dX6_film_21 : decode cX6_film 21 = .ok (.istore_n 3, 1) := by decide +kernel
theorem dX6_film_22 : decode cX6_film 22 = .ok (.iload_n 3, 1) := by decide +kernel
theorem dX6_film_23 : decode cX6_film 23 = .ok (.aload_n 0, 1) := by decide +kernel
theorem dX6_film_24 : decode cX6_film 24 = .ok (.getfield 190, 3) := by decide +kernel
theorem dX6_film_27 : decode cX6_film 27 = .ok (.if_icmp .ge 50, 3) := by decide +kernel
theorem dX6_film_30 : decode cX6_film 30 = .ok (.iload_n 2, 1) := by decide +kernel
theorem dX6_film_31 : decode cX6_film 31 = .ok (.aload_n 0, 1) := by decide +kernel
theorem dX6_film_32 : decode cX6_film 32 = .ok (.getfield 34, 3) := by decide +kernel
theorem dX6_film_35 : decode cX6_film 35 = .ok (.aload_n 0, 1) := by decide +kernel
theorem dX6_film_36 : decode cX6_film 36 = .ok (.getfield 80, 3) := by decide +kernel
theorem dX6_film_39 : decode cX6_film 39 = .ok (.iload_n 3, 1) := by decide +kernel
theorem dX6_film_40 : decode cX6_film 40 = .ok (.iaload, 1) := by decide +kernel
theorem dX6_film_41 : decode cX6_film 41 = .ok (.iaload, 1) := by decide +kernel
theorem dX6_film_42 : decode cX6_film 42 = .ok (.if_icmp .ge 15, 3) := by decide +kernel
theorem dX6_film_45 : decode cX6_film 45 = .ok (.bipush 100, 2) := by decide +kernel
theorem dX6_film_47 : decode cX6_film 47 = .ok (.aload_n 0, 1) := by decide +kernel
theorem dX6_film_48 : decode cX6_film 48 = .ok (.getfield 80, 3) := by decide +kernel
theorem dX6_film_51 : decode cX6_film 51 = .ok (.iload_n 3, 1) := by decide +kernel
theorem dX6_film_52 : decode cX6_film 52 = .ok (.iaload, 1) := by decide +kernel
theorem dX6_film_53 : decode cX6_film 53 = .ok (.imul, 1) := by decide +kernel
theorem dX6_film_54 : decode cX6_film 54 = .ok (.iload_n 2, 1) := by decide +kernel
theorem dX6_film_55 : decode cX6_film 55 = .ok (.iadd, 1) := by decide +kernel
theorem dX6_film_56 : decode cX6_film 56 = .ok (.ireturn, 1) := by decide +kernel
theorem dX6_film_57 : decode cX6_film 57 = .ok (.iload_n 2, 1) := by decide +kernel
theorem dX6_film_58 : decode cX6_film 58 = .ok (.aload_n 0, 1) := by decide +kernel
theorem dX6_film_59 : decode cX6_film 59 = .ok (.getfield 34, 3) := by decide +kernel
theorem dX6_film_62 : decode cX6_film 62 = .ok (.aload_n 0, 1) := by decide +kernel
theorem dX6_film_63 : decode cX6_film 63 = .ok (.getfield 80, 3) := by decide +kernel
theorem dX6_film_66 : decode cX6_film 66 = .ok (.iload_n 3, 1) := by decide +kernel
theorem dX6_film_67 : decode cX6_film 67 = .ok (.iaload, 1) := by decide +kernel
theorem dX6_film_68 : decode cX6_film 68 = .ok (.iaload, 1) := by decide +kernel
theorem dX6_film_69 : decode cX6_film 69 = .ok (.isub, 1) := by decide +kernel
theorem dX6_film_70 : decode cX6_film 70 = .ok (.istore_n 2, 1) := by decide +kernel
theorem dX6_film_71 : decode cX6_film 71 = .ok (.iinc 3 1, 3) := by decide +kernel
theorem dX6_film_74 : decode cX6_film 74 = .ok (.goto (-52), 3) := by decide +kernel
theorem dX6_film_77 : decode cX6_film 77 = .ok (.iconst (-1), 1) := by decide +kernel
theorem dX6_film_78 : decode cX6_film 78 = .ok (.ireturn, 1) := by decide +kernel
theorem dJ6_compare_7cf53_0 : decode cJ6_compare_7cf53 0 = .ok (.iload_n 0, 1) := by decide +kernel
theorem dJ6_compare_7cf53_1 : decode cJ6_compare_7cf53 1 = .ok (.iload_n 1, 1) := by decide +kernel
theorem dJ6_compare_7cf53_2 : decode cJ6_compare_7cf53 2 = .ok (.if_icmp .ge 7, 3) := by decide +kernel
theorem dJ6_compare_7cf53_5 : decode cJ6_compare_7cf53 5 = .ok (.iconst (-1), 1) := by decide +kernel
theorem dJ6_compare_7cf53_6 : decode cJ6_compare_7cf53 6 = .ok (.goto 13, 3) := by decide +kernel
theorem dJ6_compare_7cf53_9 : decode cJ6_compare_7cf53 9 = .ok (.iload_n 0, 1) := by decide +kernel
theorem dJ6_compare_7cf53_10 : decode cJ6_compare_7cf53 10 = .ok (.iload_n 1, 1) := by decide +kernel
theorem dJ6_compare_7cf53_11 : decode cJ6_compare_7cf53 11 = .ok (.if_icmp .ne 7, 3) := by decide +kernel
theorem dJ6_compare_7cf53_14 : decode cJ6_compare_7cf53 14 = .ok (.iconst 0, 1) := by decide +kernel
theorem dJ6_compare_7cf53_15 : decode cJ6_compare_7cf53 15 = .ok (.goto 4, 3) := by decide +kernel
theorem dJ6_compare_7cf53_18 : decode cJ6_compare_7cf53 18 = .ok (.iconst 1, 1) := by decide +kernel
theorem dJ6_compare_7cf53_19 : decode cJ6_compare_7cf53 19 = .ok (.ireturn, 1) := by decide +kernel
theorem dJ9_floorMod_7cf53_0 : decode cJ9_floorMod_7cf53 0 = .ok (.iload_n 0, 1) := by decide +kernel
theorem dJ9_floorMod_7cf53_1 : decode cJ9_floorMod_7cf53 1 = .ok (.iload_n 1, 1) := by decide +kernel
theorem dJ9_floorMod_7cf53_2 : decode cJ9_floorMod_7cf53 2 = .ok (.irem, 1) := by decide +kernel
theorem dJ9_floorMod_7cf53_3 : decode cJ9_floorMod_7cf53 3 = .ok (.istore_n 2, 1) := by decide +kernel
theorem dJ9_floorMod_7cf53_4 : decode cJ9_floorMod_7cf53 4 = .ok (.iload_n 0, 1) := by decide +kernel
theorem dJ9_floorMod_7cf53_5 : decode cJ9_floorMod_7cf53 5 = .ok (.iload_n 1, 1) := by decide +kernel
theorem dJ9_floorMod_7cf53_6 : decode cJ9_floorMod_7cf53 6 = .ok (.ixor, 1) := by decide +kernel
theorem dJ9_floorMod_7cf53_7 : decode cJ9_floorMod_7cf53 7 = .ok (.ifCond .ge 11, 3) := by decide +kernel
theorem dJ9_floorMod_7cf53_10 : decode cJ9_floorMod_7cf53 10 = .ok (.iload_n 2, 1) := by decide +kernel
theorem dJ9_floorMod_7cf53_11 : decode cJ9_floorMod_7cf53 11 = .ok (.ifCond .eq 7, 3) := by decide +kernel
theorem dJ9_floorMod_7cf53_14 : decode cJ9_floorMod_7cf53 14 = .ok (.iload_n 2, 1) := by decide +kernel
theorem dJ9_floorMod_7cf53_15 : decode cJ9_floorMod_7cf53 15 = .ok (.iload_n 1, 1) := by decide +kernel
theorem dJ9_floorMod_7cf53_16 : decode cJ9_floorMod_7cf53 16 = .ok (.iadd, 1) := by decide +kernel
theorem dJ9_floorMod_7cf53_17 : decode cJ9_floorMod_7cf53 17 = .ok (.ireturn, 1) := by decide +kernel
theorem dJ9_floorMod_7cf53_18 : decode cJ9_floorMod_7cf53 18 = .ok (.iload_n 2, 1) := by decide +kernel
theorem dJ9_floorMod_7cf53_19 : decode cJ9_floorMod_7cf53 19 = .ok (.ireturn, 1) := by decide +kernel
theorem dJ9_abs_0f7a4_0 : decode cJ9_abs_0f7a4 0 = .ok (.iload_n 0, 1) := by decide +kernel
theorem dJ9_abs_0f7a4_1 : decode cJ9_abs_0f7a4 1 = .ok (.ifCond .ge 8, 3) := by decide +kernel
theorem dJ9_abs_0f7a4_4 : decode cJ9_abs_0f7a4 4 = .ok (.iload_n 0, 1) := by decide +kernel
theorem dJ9_abs_0f7a4_5 : decode cJ9_abs_0f7a4 5 = .ok (.ineg, 1) := by decide +kernel
theorem dJ9_abs_0f7a4_6 : decode cJ9_abs_0f7a4 6 = .ok (.goto 4, 3) := by decide +kernel
theorem dJ9_abs_0f7a4_9 : decode cJ9_abs_0f7a4 9 = .ok (.iload_n 0, 1) := by decide +kernel
theorem dJ9_abs_0f7a4_10 : decode cJ9_abs_0f7a4 10 = .ok (.ireturn, 1) := by decide +kernel
theorem dJ9_max_7cf53_0 : decode cJ9_max_7cf53 0 = .ok (.iload_n 0, 1) := by decide +kernel
theorem dJ9_max_7cf53_1 : decode cJ9_max_7cf53 1 = .ok (.iload_n 1, 1) := by decide +kernel
theorem dJ9_max_7cf53_2 : decode cJ9_max_7cf53 2 = .ok (.if_icmp .lt 7, 3) := by decide +kernel
theorem dJ9_max_7cf53_5 : decode cJ9_max_7cf53 5 = .ok (.iload_n 0, 1) := by decide +kernel
theorem dJ9_max_7cf53_6 : decode cJ9_max_7cf53 6 = .ok (.goto 4, 3) := by decide +kernel
theorem dJ9_max_7cf53_9 : decode cJ9_max_7cf53 9 = .ok (.iload_n 1, 1) := by decide +kernel
theorem dJ9_max_7cf53_10 : decode cJ9_max_7cf53 10 = .ok (.ireturn, 1) := by decide +kernel
theorem dL_puppet_0 : decode cL_puppet 0 = .ok (.aload_n 2, 1) := by decide +kernel
theorem dL_puppet_1 : decode cL_puppet 1 = .ok (.iconst 0, 1) := by decide +kernel
theorem dL_puppet_2 : decode cL_puppet 2 = .ok (.aload_n 0, 1) := by decide +kernel
theorem dL_puppet_3 : decode cL_puppet 3 = .ok (.iload_n 1, 1) := by decide +kernel
theorem dL_puppet_4 : decode cL_puppet 4 = .ok (.invokevirtual 7, 3) := by decide +kernel
theorem dL_puppet_7 : decode cL_puppet 7 = .ok (.i2l, 1) := by decide +kernel
theorem dL_puppet_8 : decode cL_puppet 8 = .ok (.lastore, 1) := by decide +kernel
theorem dL_puppet_9 : decode cL_puppet 9 = .ok (.goto 9, 3) := by decide +kernel
theorem dL_puppet_12 : decode cL_puppet 12 = .ok (.astore_n 3, 1) := by decide +kernel
theorem dL_puppet_13 : decode cL_puppet 13 = .ok (.iconst 1, 1) := by decide +kernel
theorem dL_puppet_14 : decode cL_puppet 14 = .ok (.ireturn, 1) := by decide +kernel
theorem dL_puppet_15 : decode cL_puppet 15 = .ok (.astore_n 3, 1) := by decide +kernel
theorem dL_puppet_16 : decode cL_puppet 16 = .ok (.iconst 2, 1) := by decide +kernel
theorem dL_puppet_17 : decode cL_puppet 17 = .ok (.ireturn, 1) := by decide +kernel
theorem dL_puppet_18 : decode cL_puppet 18 = .ok (.iconst 0, 1) := by decide +kernel
theorem dL_puppet_19 : decode cL_puppet 19 = .ok (.ireturn, 1) := by decide +kernel
theorem dL_mouths_0 : decode cL_mouths 0 = .ok (.aload 4, 2) := by decide +kernel
theorem dL_mouths_2 : decode cL_mouths 2 = .ok (.iconst 0, 1) := by decide +kernel
theorem dL_mouths_3 : decode cL_mouths 3 = .ok (.aload_n 0, 1) := by decide +kernel
theorem dL_mouths_4 : decode cL_mouths 4 = .ok (.iload_n 1, 1) := by decide +kernel
theorem dL_mouths_5 : decode cL_mouths 5 = .ok (.iload_n 2, 1) := by decide +kernel
theorem dL_mouths_6 : decode cL_mouths 6 = .ok (.iload_n 3, 1) := by decide +kernel
theorem dL_mouths_7 : decode cL_mouths 7 = .ok (.invokevirtual 17, 3) := by decide +kernel
theorem dL_mouths_10 : decode cL_mouths 10 = .ok (.i2l, 1) := by decide +kernel
theorem dL_mouths_11 : decode cL_mouths 11 = .ok (.lastore, 1) := by decide +kernel
theorem dL_mouths_12 : decode cL_mouths 12 = .ok (.goto 15, 3) := by decide +kernel
theorem dL_mouths_15 : decode cL_mouths 15 = .ok (.astore 5, 2) := by decide +kernel
theorem dL_mouths_17 : decode cL_mouths 17 = .ok (.iconst 1, 1) := by decide +kernel
theorem dL_mouths_18 : decode cL_mouths 18 = .ok (.ireturn, 1) := by decide +kernel
theorem dL_mouths_19 : decode cL_mouths 19 = .ok (.astore 5, 2) := by decide +kernel
theorem dL_mouths_21 : decode cL_mouths 21 = .ok (.iconst 2, 1) := by decide +kernel
theorem dL_mouths_22 : decode cL_mouths 22 = .ok (.ireturn, 1) := by decide +kernel
theorem dL_mouths_23 : decode cL_mouths 23 = .ok (.astore 5, 2) := by decide +kernel
theorem dL_mouths_25 : decode cL_mouths 25 = .ok (.iconst 3, 1) := by decide +kernel
theorem dL_mouths_26 : decode cL_mouths 26 = .ok (.ireturn, 1) := by decide +kernel
theorem dL_mouths_27 : decode cL_mouths 27 = .ok (.iconst 0, 1) := by decide +kernel
theorem dL_mouths_28 : decode cL_mouths 28 = .ok (.ireturn, 1) := by decide +kernel
theorem dL_sound_0 : decode cL_sound 0 = .ok (.aload_n 3, 1) := by decide +kernel
theorem dL_sound_1 : decode cL_sound 1 = .ok (.iconst 0, 1) := by decide +kernel
theorem dL_sound_2 : decode cL_sound 2 = .ok (.aload_n 0, 1) := by decide +kernel
theorem dL_sound_3 : decode cL_sound 3 = .ok (.iload_n 1, 1) := by decide +kernel
theorem dL_sound_4 : decode cL_sound 4 = .ok (.iload_n 2, 1) := by decide +kernel
theorem dL_sound_5 : decode cL_sound 5 = .ok (.invokevirtual 23, 3) := by decide +kernel
theorem dL_sound_8 : decode cL_sound 8 = .ok (.i2l, 1) := by decide +kernel
theorem dL_sound_9 : decode cL_sound 9 = .ok (.lastore, 1) := by decide +kernel
theorem dL_sound_10 : decode cL_sound 10 = .ok (.goto 11, 3) := by decide +kernel
theorem dL_sound_13 : decode cL_sound 13 = .ok (.astore 4, 2) := by decide +kernel
theorem dL_sound_15 : decode cL_sound 15 = .ok (.iconst 1, 1) := by decide +kernel
theorem dL_sound_16 : decode cL_sound 16 = .ok (.ireturn, 1) := by decide +kernel
theorem dL_sound_17 : decode cL_sound 17 = .ok (.astore 4, 2) := by decide +kernel
theorem dL_sound_19 : decode cL_sound 19 = .ok (.iconst 2, 1) := by decide +kernel
theorem dL_sound_20 : decode cL_sound 20 = .ok (.ireturn, 1) := by decide +kernel
theorem dL_sound_21 : decode cL_sound 21 = .ok (.iconst 0, 1) := by decide +kernel
theorem dL_sound_22 : decode cL_sound 22 = .ok (.ireturn, 1) := by decide +kernel
theorem dL_voice_0 : decode cL_voice 0 = .ok (.aload_n 1, 1) := by decide +kernel
theorem dL_voice_1 : decode cL_voice 1 = .ok (.iconst 0, 1) := by decide +kernel
theorem dL_voice_2 : decode cL_voice 2 = .ok (.aload_n 0, 1) := by decide +kernel
theorem dL_voice_3 : decode cL_voice 3 = .ok (.invokevirtual 27, 3) := by decide +kernel
theorem dL_voice_6 : decode cL_voice 6 = .ok (.i2l, 1) := by decide +kernel
theorem dL_voice_7 : decode cL_voice 7 = .ok (.lastore, 1) := by decide +kernel
theorem dL_voice_8 : decode cL_voice 8 = .ok (.goto 6, 3) := by decide +kernel
theorem dL_voice_11 : decode cL_voice 11 = .ok (.astore_n 2, 1) := by decide +kernel
theorem dL_voice_12 : decode cL_voice 12 = .ok (.iconst 1, 1) := by decide +kernel
theorem dL_voice_13 : decode cL_voice 13 = .ok (.ireturn, 1) := by decide +kernel
theorem dL_voice_14 : decode cL_voice 14 = .ok (.iconst 0, 1) := by decide +kernel
theorem dL_voice_15 : decode cL_voice 15 = .ok (.ireturn, 1) := by decide +kernel
theorem dL_shot_0 : decode cL_shot 0 = .ok (.aload 5, 2) := by decide +kernel
theorem dL_shot_2 : decode cL_shot 2 = .ok (.iconst 0, 1) := by decide +kernel
theorem dL_shot_3 : decode cL_shot 3 = .ok (.aload_n 0, 1) := by decide +kernel
theorem dL_shot_4 : decode cL_shot 4 = .ok (.iload_n 1, 1) := by decide +kernel
theorem dL_shot_5 : decode cL_shot 5 = .ok (.iload_n 2, 1) := by decide +kernel
theorem dL_shot_6 : decode cL_shot 6 = .ok (.iload_n 3, 1) := by decide +kernel
theorem dL_shot_7 : decode cL_shot 7 = .ok (.iload 4, 2) := by decide +kernel
theorem dL_shot_9 : decode cL_shot 9 = .ok (.invokevirtual 31, 3) := by decide +kernel
theorem dL_shot_12 : decode cL_shot 12 = .ok (.i2l, 1) := by decide +kernel
theorem dL_shot_13 : decode cL_shot 13 = .ok (.lastore, 1) := by decide +kernel
theorem dL_shot_14 : decode cL_shot 14 = .ok (.goto 15, 3) := by decide +kernel
theorem dL_shot_17 : decode cL_shot 17 = .ok (.astore 6, 2) := by decide +kernel
theorem dL_shot_19 : decode cL_shot 19 = .ok (.iconst 1, 1) := by decide +kernel
theorem dL_shot_20 : decode cL_shot 20 = .ok (.ireturn, 1) := by decide +kernel
theorem dL_shot_21 : decode cL_shot 21 = .ok (.astore 6, 2) := by decide +kernel
theorem dL_shot_23 : decode cL_shot 23 = .ok (.iconst 2, 1) := by decide +kernel
theorem dL_shot_24 : decode cL_shot 24 = .ok (.ireturn, 1) := by decide +kernel
theorem dL_shot_25 : decode cL_shot 25 = .ok (.astore 6, 2) := by decide +kernel
theorem dL_shot_27 : decode cL_shot 27 = .ok (.iconst 3, 1) := by decide +kernel
theorem dL_shot_28 : decode cL_shot 28 = .ok (.ireturn, 1) := by decide +kernel
theorem dL_shot_29 : decode cL_shot 29 = .ok (.iconst 0, 1) := by decide +kernel
theorem dL_shot_30 : decode cL_shot 30 = .ok (.ireturn, 1) := by decide +kernel
theorem dL_assign_0 : decode cL_assign 0 = .ok (.aload_n 3, 1) := by decide +kernel
theorem dL_assign_1 : decode cL_assign 1 = .ok (.iconst 0, 1) := by decide +kernel
theorem dL_assign_2 : decode cL_assign 2 = .ok (.aload_n 0, 1) := by decide +kernel
theorem dL_assign_3 : decode cL_assign 3 = .ok (.iload_n 1, 1) := by decide +kernel
theorem dL_assign_4 : decode cL_assign 4 = .ok (.iload_n 2, 1) := by decide +kernel
theorem dL_assign_5 : decode cL_assign 5 = .ok (.invokevirtual 35, 3) := by decide +kernel
theorem dL_assign_8 : decode cL_assign 8 = .ok (.i2l, 1) := by decide +kernel
theorem dL_assign_9 : decode cL_assign 9 = .ok (.lastore, 1) := by decide +kernel
theorem dL_assign_10 : decode cL_assign 10 = .ok (.goto 11, 3) := by decide +kernel
theorem dL_assign_13 : decode cL_assign 13 = .ok (.astore 4, 2) := by decide +kernel
theorem dL_assign_15 : decode cL_assign 15 = .ok (.iconst 1, 1) := by decide +kernel
theorem dL_assign_16 : decode cL_assign 16 = .ok (.ireturn, 1) := by decide +kernel
theorem dL_assign_17 : decode cL_assign 17 = .ok (.astore 4, 2) := by decide +kernel
theorem dL_assign_19 : decode cL_assign 19 = .ok (.iconst 2, 1) := by decide +kernel
theorem dL_assign_20 : decode cL_assign 20 = .ok (.ireturn, 1) := by decide +kernel
theorem dL_assign_21 : decode cL_assign 21 = .ok (.iconst 0, 1) := by decide +kernel
theorem dL_assign_22 : decode cL_assign 22 = .ok (.ireturn, 1) := by decide +kernel
theorem dL_ill_0 : decode cL_ill 0 = .ok (.aload_n 3, 1) := by decide +kernel
theorem dL_ill_1 : decode cL_ill 1 = .ok (.iconst 0, 1) := by decide +kernel
theorem dL_ill_2 : decode cL_ill 2 = .ok (.aload_n 0, 1) := by decide +kernel
theorem dL_ill_3 : decode cL_ill 3 = .ok (.iload_n 1, 1) := by decide +kernel
theorem dL_ill_4 : decode cL_ill 4 = .ok (.iload_n 2, 1) := by decide +kernel
theorem dL_ill_5 : decode cL_ill 5 = .ok (.invokevirtual 38, 3) := by decide +kernel
theorem dL_ill_8 : decode cL_ill 8 = .ok (.ifCond .eq 7, 3) := by decide +kernel
theorem dL_ill_11 : decode cL_ill 11 = .ok (.lconst 1, 1) := by decide +kernel
theorem dL_ill_12 : decode cL_ill 12 = .ok (.goto 4, 3) := by decide +kernel
theorem dL_ill_15 : decode cL_ill 15 = .ok (.lconst 0, 1) := by decide +kernel
theorem dL_ill_16 : decode cL_ill 16 = .ok (.lastore, 1) := by decide +kernel
theorem dL_ill_17 : decode cL_ill 17 = .ok (.goto 7, 3) := by decide +kernel
theorem dL_ill_20 : decode cL_ill 20 = .ok (.astore 4, 2) := by decide +kernel
theorem dL_ill_22 : decode cL_ill 22 = .ok (.iconst 1, 1) := by decide +kernel
theorem dL_ill_23 : decode cL_ill 23 = .ok (.ireturn, 1) := by decide +kernel
theorem dL_ill_24 : decode cL_ill 24 = .ok (.iconst 0, 1) := by decide +kernel
theorem dL_ill_25 : decode cL_ill 25 = .ok (.ireturn, 1) := by decide +kernel
theorem dL_dub_0 : decode cL_dub 0 = .ok (.aload_n 3, 1) := by decide +kernel
theorem dL_dub_1 : decode cL_dub 1 = .ok (.iconst 0, 1) := by decide +kernel
theorem dL_dub_2 : decode cL_dub 2 = .ok (.aload_n 0, 1) := by decide +kernel
theorem dL_dub_3 : decode cL_dub 3 = .ok (.iload_n 1, 1) := by decide +kernel
theorem dL_dub_4 : decode cL_dub 4 = .ok (.iload_n 2, 1) := by decide +kernel
theorem dL_dub_5 : decode cL_dub 5 = .ok (.invokevirtual 42, 3) := by decide +kernel
theorem dL_dub_8 : decode cL_dub 8 = .ok (.i2l, 1) := by decide +kernel
theorem dL_dub_9 : decode cL_dub 9 = .ok (.lastore, 1) := by decide +kernel
theorem dL_dub_10 : decode cL_dub 10 = .ok (.goto 7, 3) := by decide +kernel
theorem dL_dub_13 : decode cL_dub 13 = .ok (.astore 4, 2) := by decide +kernel
theorem dL_dub_15 : decode cL_dub 15 = .ok (.iconst 1, 1) := by decide +kernel
theorem dL_dub_16 : decode cL_dub 16 = .ok (.ireturn, 1) := by decide +kernel
theorem dL_dub_17 : decode cL_dub 17 = .ok (.iconst 0, 1) := by decide +kernel
theorem dL_dub_18 : decode cL_dub 18 = .ok (.ireturn, 1) := by decide +kernel
theorem dL_key_0 : decode cL_key 0 = .ok (.aload 5, 2) := by decide +kernel
theorem dL_key_2 : decode cL_key 2 = .ok (.iconst 0, 1) := by decide +kernel
theorem dL_key_3 : decode cL_key 3 = .ok (.aload_n 0, 1) := by decide +kernel
theorem dL_key_4 : decode cL_key 4 = .ok (.iload_n 1, 1) := by decide +kernel
theorem dL_key_5 : decode cL_key 5 = .ok (.iload_n 2, 1) := by decide +kernel
theorem dL_key_6 : decode cL_key 6 = .ok (.iload_n 3, 1) := by decide +kernel
theorem dL_key_7 : decode cL_key 7 = .ok (.iload 4, 2) := by decide +kernel
theorem dL_key_9 : decode cL_key 9 = .ok (.invokevirtual 45, 3) := by decide +kernel
theorem dL_key_12 : decode cL_key 12 = .ok (.i2l, 1) := by decide +kernel
theorem dL_key_13 : decode cL_key 13 = .ok (.lastore, 1) := by decide +kernel
theorem dL_key_14 : decode cL_key 14 = .ok (.goto 15, 3) := by decide +kernel
theorem dL_key_17 : decode cL_key 17 = .ok (.astore 6, 2) := by decide +kernel
theorem dL_key_19 : decode cL_key 19 = .ok (.iconst 1, 1) := by decide +kernel
theorem dL_key_20 : decode cL_key 20 = .ok (.ireturn, 1) := by decide +kernel
theorem dL_key_21 : decode cL_key 21 = .ok (.astore 6, 2) := by decide +kernel
theorem dL_key_23 : decode cL_key 23 = .ok (.iconst 2, 1) := by decide +kernel
theorem dL_key_24 : decode cL_key 24 = .ok (.ireturn, 1) := by decide +kernel
theorem dL_key_25 : decode cL_key 25 = .ok (.astore 6, 2) := by decide +kernel
theorem dL_key_27 : decode cL_key 27 = .ok (.iconst 3, 1) := by decide +kernel
theorem dL_key_28 : decode cL_key 28 = .ok (.ireturn, 1) := by decide +kernel
theorem dL_key_29 : decode cL_key 29 = .ok (.iconst 0, 1) := by decide +kernel
theorem dL_key_30 : decode cL_key 30 = .ok (.ireturn, 1) := by decide +kernel
theorem dL_camera_0 : decode cL_camera 0 = .ok (.aload 4, 2) := by decide +kernel
theorem dL_camera_2 : decode cL_camera 2 = .ok (.iconst 0, 1) := by decide +kernel
theorem dL_camera_3 : decode cL_camera 3 = .ok (.aload_n 0, 1) := by decide +kernel
theorem dL_camera_4 : decode cL_camera 4 = .ok (.iload_n 1, 1) := by decide +kernel
theorem dL_camera_5 : decode cL_camera 5 = .ok (.iload_n 2, 1) := by decide +kernel
theorem dL_camera_6 : decode cL_camera 6 = .ok (.iload_n 3, 1) := by decide +kernel
theorem dL_camera_7 : decode cL_camera 7 = .ok (.invokevirtual 48, 3) := by decide +kernel
theorem dL_camera_10 : decode cL_camera 10 = .ok (.i2l, 1) := by decide +kernel
theorem dL_camera_11 : decode cL_camera 11 = .ok (.lastore, 1) := by decide +kernel
theorem dL_camera_12 : decode cL_camera 12 = .ok (.goto 15, 3) := by decide +kernel
theorem dL_camera_15 : decode cL_camera 15 = .ok (.astore 5, 2) := by decide +kernel
theorem dL_camera_17 : decode cL_camera 17 = .ok (.iconst 1, 1) := by decide +kernel
theorem dL_camera_18 : decode cL_camera 18 = .ok (.ireturn, 1) := by decide +kernel
theorem dL_camera_19 : decode cL_camera 19 = .ok (.astore 5, 2) := by decide +kernel
theorem dL_camera_21 : decode cL_camera 21 = .ok (.iconst 2, 1) := by decide +kernel
theorem dL_camera_22 : decode cL_camera 22 = .ok (.ireturn, 1) := by decide +kernel
theorem dL_camera_23 : decode cL_camera 23 = .ok (.astore 5, 2) := by decide +kernel
theorem dL_camera_25 : decode cL_camera 25 = .ok (.iconst 3, 1) := by decide +kernel
theorem dL_camera_26 : decode cL_camera 26 = .ok (.ireturn, 1) := by decide +kernel
theorem dL_camera_27 : decode cL_camera 27 = .ok (.iconst 0, 1) := by decide +kernel
theorem dL_camera_28 : decode cL_camera 28 = .ok (.ireturn, 1) := by decide +kernel
theorem dL_play_0 : decode cL_play 0 = .ok (.aload_n 2, 1) := by decide +kernel
theorem dL_play_1 : decode cL_play 1 = .ok (.iconst 0, 1) := by decide +kernel
theorem dL_play_2 : decode cL_play 2 = .ok (.aload_n 0, 1) := by decide +kernel
theorem dL_play_3 : decode cL_play 3 = .ok (.iload_n 1, 1) := by decide +kernel
theorem dL_play_4 : decode cL_play 4 = .ok (.invokevirtual 51, 3) := by decide +kernel
theorem dL_play_7 : decode cL_play 7 = .ok (.i2l, 1) := by decide +kernel
theorem dL_play_8 : decode cL_play 8 = .ok (.lastore, 1) := by decide +kernel
theorem dL_play_9 : decode cL_play 9 = .ok (.goto 6, 3) := by decide +kernel
theorem dL_play_12 : decode cL_play 12 = .ok (.astore_n 3, 1) := by decide +kernel
theorem dL_play_13 : decode cL_play 13 = .ok (.iconst 1, 1) := by decide +kernel
theorem dL_play_14 : decode cL_play 14 = .ok (.ireturn, 1) := by decide +kernel
theorem dL_play_15 : decode cL_play 15 = .ok (.iconst 0, 1) := by decide +kernel
theorem dL_play_16 : decode cL_play 16 = .ok (.ireturn, 1) := by decide +kernel
theorem dL_strike_0 : decode cL_strike 0 = .ok (.aload_n 2, 1) := by decide +kernel
theorem dL_strike_1 : decode cL_strike 1 = .ok (.iconst 0, 1) := by decide +kernel
theorem dL_strike_2 : decode cL_strike 2 = .ok (.aload_n 0, 1) := by decide +kernel
theorem dL_strike_3 : decode cL_strike 3 = .ok (.iload_n 1, 1) := by decide +kernel
theorem dL_strike_4 : decode cL_strike 4 = .ok (.invokevirtual 54, 3) := by decide +kernel
theorem dL_strike_7 : decode cL_strike 7 = .ok (.i2l, 1) := by decide +kernel
theorem dL_strike_8 : decode cL_strike 8 = .ok (.lastore, 1) := by decide +kernel
theorem dL_strike_9 : decode cL_strike 9 = .ok (.goto 9, 3) := by decide +kernel
theorem dL_strike_12 : decode cL_strike 12 = .ok (.astore_n 3, 1) := by decide +kernel
theorem dL_strike_13 : decode cL_strike 13 = .ok (.iconst 1, 1) := by decide +kernel
theorem dL_strike_14 : decode cL_strike 14 = .ok (.ireturn, 1) := by decide +kernel
theorem dL_strike_15 : decode cL_strike 15 = .ok (.astore_n 3, 1) := by decide +kernel
theorem dL_strike_16 : decode cL_strike 16 = .ok (.iconst 2, 1) := by decide +kernel
theorem dL_strike_17 : decode cL_strike 17 = .ok (.ireturn, 1) := by decide +kernel
theorem dL_strike_18 : decode cL_strike 18 = .ok (.iconst 0, 1) := by decide +kernel
theorem dL_strike_19 : decode cL_strike 19 = .ok (.ireturn, 1) := by decide +kernel
theorem dL_bump_0 : decode cL_bump 0 = .ok (.aload_n 3, 1) := by decide +kernel
theorem dL_bump_1 : decode cL_bump 1 = .ok (.iconst 0, 1) := by decide +kernel
theorem dL_bump_2 : decode cL_bump 2 = .ok (.aload_n 0, 1) := by decide +kernel
theorem dL_bump_3 : decode cL_bump 3 = .ok (.iload_n 1, 1) := by decide +kernel
theorem dL_bump_4 : decode cL_bump 4 = .ok (.iload_n 2, 1) := by decide +kernel
theorem dL_bump_5 : decode cL_bump 5 = .ok (.invokevirtual 57, 3) := by decide +kernel
theorem dL_bump_8 : decode cL_bump 8 = .ok (.i2l, 1) := by decide +kernel
theorem dL_bump_9 : decode cL_bump 9 = .ok (.lastore, 1) := by decide +kernel
theorem dL_bump_10 : decode cL_bump 10 = .ok (.goto 15, 3) := by decide +kernel
theorem dL_bump_13 : decode cL_bump 13 = .ok (.astore 4, 2) := by decide +kernel
theorem dL_bump_15 : decode cL_bump 15 = .ok (.iconst 1, 1) := by decide +kernel
theorem dL_bump_16 : decode cL_bump 16 = .ok (.ireturn, 1) := by decide +kernel
theorem dL_bump_17 : decode cL_bump 17 = .ok (.astore 4, 2) := by decide +kernel
theorem dL_bump_19 : decode cL_bump 19 = .ok (.iconst 2, 1) := by decide +kernel
theorem dL_bump_20 : decode cL_bump 20 = .ok (.ireturn, 1) := by decide +kernel
theorem dL_bump_21 : decode cL_bump 21 = .ok (.astore 4, 2) := by decide +kernel
theorem dL_bump_23 : decode cL_bump 23 = .ok (.iconst 3, 1) := by decide +kernel
theorem dL_bump_24 : decode cL_bump 24 = .ok (.ireturn, 1) := by decide +kernel
theorem dL_bump_25 : decode cL_bump 25 = .ok (.iconst 0, 1) := by decide +kernel
theorem dL_bump_26 : decode cL_bump 26 = .ok (.ireturn, 1) := by decide +kernel
theorem dL_level_0 : decode cL_level 0 = .ok (.aload_n 2, 1) := by decide +kernel
theorem dL_level_1 : decode cL_level 1 = .ok (.iconst 0, 1) := by decide +kernel
theorem dL_level_2 : decode cL_level 2 = .ok (.aload_n 0, 1) := by decide +kernel
theorem dL_level_3 : decode cL_level 3 = .ok (.iload_n 1, 1) := by decide +kernel
theorem dL_level_4 : decode cL_level 4 = .ok (.invokevirtual 60, 3) := by decide +kernel
theorem dL_level_7 : decode cL_level 7 = .ok (.i2l, 1) := by decide +kernel
theorem dL_level_8 : decode cL_level 8 = .ok (.lastore, 1) := by decide +kernel
theorem dL_level_9 : decode cL_level 9 = .ok (.goto 6, 3) := by decide +kernel
theorem dL_level_12 : decode cL_level 12 = .ok (.astore_n 3, 1) := by decide +kernel
theorem dL_level_13 : decode cL_level 13 = .ok (.iconst 1, 1) := by decide +kernel
theorem dL_level_14 : decode cL_level 14 = .ok (.ireturn, 1) := by decide +kernel
theorem dL_level_15 : decode cL_level 15 = .ok (.iconst 0, 1) := by decide +kernel
theorem dL_level_16 : decode cL_level 16 = .ok (.ireturn, 1) := by decide +kernel
theorem dL_anew_0 : decode cL_anew 0 = .ok (.aload_n 3, 1) := by decide +kernel
theorem dL_anew_1 : decode cL_anew 1 = .ok (.iconst 0, 1) := by decide +kernel
theorem dL_anew_2 : decode cL_anew 2 = .ok (.aload_n 0, 1) := by decide +kernel
theorem dL_anew_3 : decode cL_anew 3 = .ok (.iload_n 1, 1) := by decide +kernel
theorem dL_anew_4 : decode cL_anew 4 = .ok (.iload_n 2, 1) := by decide +kernel
theorem dL_anew_5 : decode cL_anew 5 = .ok (.invokevirtual 63, 3) := by decide +kernel
theorem dL_anew_8 : decode cL_anew 8 = .ok (.i2l, 1) := by decide +kernel
theorem dL_anew_9 : decode cL_anew 9 = .ok (.lastore, 1) := by decide +kernel
theorem dL_anew_10 : decode cL_anew 10 = .ok (.goto 11, 3) := by decide +kernel
theorem dL_anew_13 : decode cL_anew 13 = .ok (.astore 4, 2) := by decide +kernel
theorem dL_anew_15 : decode cL_anew 15 = .ok (.iconst 1, 1) := by decide +kernel
theorem dL_anew_16 : decode cL_anew 16 = .ok (.ireturn, 1) := by decide +kernel
theorem dL_anew_17 : decode cL_anew 17 = .ok (.astore 4, 2) := by decide +kernel
theorem dL_anew_19 : decode cL_anew 19 = .ok (.iconst 2, 1) := by decide +kernel
theorem dL_anew_20 : decode cL_anew 20 = .ok (.ireturn, 1) := by decide +kernel
theorem dL_anew_21 : decode cL_anew 21 = .ok (.iconst 0, 1) := by decide +kernel
theorem dL_anew_22 : decode cL_anew 22 = .ok (.ireturn, 1) := by decide +kernel
theorem dL_mend_0 : decode cL_mend 0 = .ok (.aload_n 3, 1) := by decide +kernel
theorem dL_mend_1 : decode cL_mend 1 = .ok (.iconst 0, 1) := by decide +kernel
theorem dL_mend_2 : decode cL_mend 2 = .ok (.aload_n 0, 1) := by decide +kernel
theorem dL_mend_3 : decode cL_mend 3 = .ok (.iload_n 1, 1) := by decide +kernel
theorem dL_mend_4 : decode cL_mend 4 = .ok (.iload_n 2, 1) := by decide +kernel
theorem dL_mend_5 : decode cL_mend 5 = .ok (.invokevirtual 66, 3) := by decide +kernel
theorem dL_mend_8 : decode cL_mend 8 = .ok (.i2l, 1) := by decide +kernel
theorem dL_mend_9 : decode cL_mend 9 = .ok (.lastore, 1) := by decide +kernel
theorem dL_mend_10 : decode cL_mend 10 = .ok (.goto 7, 3) := by decide +kernel
theorem dL_mend_13 : decode cL_mend 13 = .ok (.astore 4, 2) := by decide +kernel
theorem dL_mend_15 : decode cL_mend 15 = .ok (.iconst 1, 1) := by decide +kernel
theorem dL_mend_16 : decode cL_mend 16 = .ok (.ireturn, 1) := by decide +kernel
theorem dL_mend_17 : decode cL_mend 17 = .ok (.iconst 0, 1) := by decide +kernel
theorem dL_mend_18 : decode cL_mend 18 = .ok (.ireturn, 1) := by decide +kernel
theorem dL_cut_0 : decode cL_cut 0 = .ok (.aload_n 2, 1) := by decide +kernel
theorem dL_cut_1 : decode cL_cut 1 = .ok (.iconst 0, 1) := by decide +kernel
theorem dL_cut_2 : decode cL_cut 2 = .ok (.aload_n 0, 1) := by decide +kernel
theorem dL_cut_3 : decode cL_cut 3 = .ok (.iload_n 1, 1) := by decide +kernel
theorem dL_cut_4 : decode cL_cut 4 = .ok (.invokevirtual 69, 3) := by decide +kernel
theorem dL_cut_7 : decode cL_cut 7 = .ok (.i2l, 1) := by decide +kernel
theorem dL_cut_8 : decode cL_cut 8 = .ok (.lastore, 1) := by decide +kernel
theorem dL_cut_9 : decode cL_cut 9 = .ok (.goto 9, 3) := by decide +kernel
theorem dL_cut_12 : decode cL_cut 12 = .ok (.astore_n 3, 1) := by decide +kernel
theorem dL_cut_13 : decode cL_cut 13 = .ok (.iconst 1, 1) := by decide +kernel
theorem dL_cut_14 : decode cL_cut 14 = .ok (.ireturn, 1) := by decide +kernel
theorem dL_cut_15 : decode cL_cut 15 = .ok (.astore_n 3, 1) := by decide +kernel
theorem dL_cut_16 : decode cL_cut 16 = .ok (.iconst 2, 1) := by decide +kernel
theorem dL_cut_17 : decode cL_cut 17 = .ok (.ireturn, 1) := by decide +kernel
theorem dL_cut_18 : decode cL_cut 18 = .ok (.iconst 0, 1) := by decide +kernel
theorem dL_cut_19 : decode cL_cut 19 = .ok (.ireturn, 1) := by decide +kernel
theorem dL_cutOut_0 : decode cL_cutOut 0 = .ok (.aload_n 2, 1) := by decide +kernel

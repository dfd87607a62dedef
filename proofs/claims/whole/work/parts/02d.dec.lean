theorem dX6_voice_14 : decode cX6_voice 14 = .ok (.getfield 99, 3) := by decide +kernel
theorem dX6_voice_17 : decode cX6_voice 17 = .ok (.bipush 6, 2) := by decide +kernel
theorem dX6_voice_19 : decode cX6_voice 19 = .ok (.if_icmp .ne 7, 3) := by decide +kernel
theorem dX6_voice_22 : decode cX6_voice 22 = .ok (.iconst 1, 1) := by decide +kernel
theorem dX6_voice_23 : decode cX6_voice 23 = .ok (.goto 4, 3) := by decide +kernel
theorem dX6_voice_26 : decode cX6_voice 26 = .ok (.iconst 0, 1) := by decide +kernel
theorem dX6_voice_27 : decode cX6_voice 27 = .ok (.invokevirtual 108, 3) := by decide +kernel
theorem dX6_voice_30 : decode cX6_voice 30 = .ok (.ifCond .eq 5, 3) := by decide +kernel
theorem dX6_voice_33 : decode cX6_voice 33 = .ok (.iconst 0, 1) := by decide +kernel
theorem dX6_voice_34 : decode cX6_voice 34 = .ok (.ireturn, 1) := by decide +kernel
theorem dX6_voice_35 : decode cX6_voice 35 = .ok (.aload_n 0, 1) := by decide +kernel
theorem dX6_voice_36 : decode cX6_voice 36 = .ok (.dup, 1) := by decide +kernel
theorem dX6_voice_37 : decode cX6_voice 37 = .ok (.getfield 99, 3) := by decide +kernel
theorem dX6_voice_40 : decode cX6_voice 40 = .ok (.iconst 1, 1) := by decide +kernel
theorem dX6_voice_41 : decode cX6_voice 41 = .ok (.iadd, 1) := by decide +kernel
theorem dX6_voice_42 : decode cX6_voice 42 = .ok (.putfield 99, 3) := by decide +kernel
theorem dX6_voice_45 : decode cX6_voice 45 = .ok (.aload_n 0, 1) := by decide +kernel
theorem dX6_voice_46 : decode cX6_voice 46 = .ok (.getfield 99, 3) := by decide +kernel
theorem dX6_voice_49 : decode cX6_voice 49 = .ok (.iconst 1, 1) := by decide +kernel
theorem dX6_voice_50 : decode cX6_voice 50 = .ok (.isub, 1) := by decide +kernel
theorem dX6_voice_51 : decode cX6_voice 51 = .ok (.ireturn, 1) := by decide +kernel
theorem dX6_shot_0 : decode cX6_shot 0 = .ok (.aload_n 0, 1) := by decide +kernel
theorem dX6_shot_1 : decode cX6_shot 1 = .ok (.iload_n 1, 1) := by decide +kernel
theorem dX6_shot_2 : decode cX6_shot 2 = .ok (.invokevirtual 95, 3) := by decide +kernel
theorem dX6_shot_5 : decode cX6_shot 5 = .ok (.ifCond .eq 16, 3) := by decide +kernel
theorem dX6_shot_8 : decode cX6_shot 8 = .ok (.aload_n 0, 1) := by decide +kernel
theorem dX6_shot_9 : decode cX6_shot 9 = .ok (.iload 4, 2) := by decide +kernel
theorem dX6_shot_11 : decode cX6_shot 11 = .ok (.invokevirtual 114, 3) := by decide +kernel
theorem dX6_shot_14 : decode cX6_shot 14 = .ok (.ifCond .eq 7, 3) := by decide +kernel
theorem dX6_shot_17 : decode cX6_shot 17 = .ok (.iconst 1, 1) := by decide +kernel
theorem dX6_shot_18 : decode cX6_shot 18 = .ok (.goto 4, 3) := by decide +kernel
theorem dX6_shot_21 : decode cX6_shot 21 = .ok (.iconst 0, 1) := by decide +kernel
theorem dX6_shot_22 : decode cX6_shot 22 = .ok (.istore 5, 2) := by decide +kernel
theorem dX6_shot_24 : decode cX6_shot 24 = .ok (.iload_n 2, 1) := by decide +kernel
theorem dX6_shot_25 : decode cX6_shot 25 = .ok (.iconst 1, 1) := by decide +kernel
theorem dX6_shot_26 : decode cX6_shot 26 = .ok (.bipush 48, 2) := by decide +kernel
theorem dX6_shot_28 : decode cX6_shot 28 = .ok (.invokestatic 91, 3) := by decide +kernel
theorem dX6_shot_31 : decode cX6_shot 31 = .ok (.ifCond .eq 16, 3) := by decide +kernel
theorem dX6_shot_34 : decode cX6_shot 34 = .ok (.iload_n 3, 1) := by decide +kernel
theorem dX6_shot_35 : decode cX6_shot 35 = .ok (.iconst 1, 1) := by decide +kernel
theorem dX6_shot_36 : decode cX6_shot 36 = .ok (.iconst 2, 1) := by decide +kernel
theorem dX6_shot_37 : decode cX6_shot 37 = .ok (.invokestatic 91, 3) := by decide +kernel
theorem dX6_shot_40 : decode cX6_shot 40 = .ok (.ifCond .eq 7, 3) := by decide +kernel
theorem dX6_shot_43 : decode cX6_shot 43 = .ok (.iconst 1, 1) := by decide +kernel
theorem dX6_shot_44 : decode cX6_shot 44 = .ok (.goto 4, 3) := by decide +kernel
theorem dX6_shot_47 : decode cX6_shot 47 = .ok (.iconst 0, 1) := by decide +kernel
theorem dX6_shot_48 : decode cX6_shot 48 = .ok (.istore 6, 2) := by decide +kernel
theorem dX6_shot_50 : decode cX6_shot 50 = .ok (.aload_n 0, 1) := by decide +kernel
theorem dX6_shot_51 : decode cX6_shot 51 = .ok (.iload 5, 2) := by decide +kernel
theorem dX6_shot_53 : decode cX6_shot 53 = .ok (.ifCond .ne 7, 3) := by decide +kernel
theorem dX6_shot_56 : decode cX6_shot 56 = .ok (.iconst 1, 1) := by decide +kernel
theorem dX6_shot_57 : decode cX6_shot 57 = .ok (.goto 26, 3) := by decide +kernel
theorem dX6_shot_60 : decode cX6_shot 60 = .ok (.iload 6, 2) := by decide +kernel
theorem dX6_shot_62 : decode cX6_shot 62 = .ok (.ifCond .ne 7, 3) := by decide +kernel
theorem dX6_shot_65 : decode cX6_shot 65 = .ok (.iconst 2, 1) := by decide +kernel
theorem dX6_shot_66 : decode cX6_shot 66 = .ok (.goto 17, 3) := by decide +kernel
theorem dX6_shot_69 : decode cX6_shot 69 = .ok (.aload_n 0, 1) := by decide +kernel
theorem dX6_shot_70 : decode cX6_shot 70 = .ok (.getfield 102, 3) := by decide +kernel
theorem dX6_shot_73 : decode cX6_shot 73 = .ok (.bipush 8, 2) := by decide +kernel
theorem dX6_shot_75 : decode cX6_shot 75 = .ok (.if_icmp .ne 7, 3) := by decide +kernel
theorem dX6_shot_78 : decode cX6_shot 78 = .ok (.iconst 3, 1) := by decide +kernel
theorem dX6_shot_79 : decode cX6_shot 79 = .ok (.goto 4, 3) := by decide +kernel
theorem dX6_shot_82 : decode cX6_shot 82 = .ok (.iconst 0, 1) := by decide +kernel
theorem dX6_shot_83 : decode cX6_shot 83 = .ok (.invokevirtual 108, 3) := by decide +kernel
theorem dX6_shot_86 : decode cX6_shot 86 = .ok (.ifCond .eq 5, 3) := by decide +kernel
theorem dX6_shot_89 : decode cX6_shot 89 = .ok (.iconst 0, 1) := by decide +kernel
theorem dX6_shot_90 : decode cX6_shot 90 = .ok (.ireturn, 1) := by decide +kernel
theorem dX6_shot_91 : decode cX6_shot 91 = .ok (.aload_n 0, 1) := by decide +kernel
theorem dX6_shot_92 : decode cX6_shot 92 = .ok (.getfield 31, 3) := by decide +kernel
theorem dX6_shot_95 : decode cX6_shot 95 = .ok (.aload_n 0, 1) := by decide +kernel
theorem dX6_shot_96 : decode cX6_shot 96 = .ok (.getfield 102, 3) := by decide +kernel
theorem dX6_shot_99 : decode cX6_shot 99 = .ok (.iload_n 1, 1) := by decide +kernel
theorem dX6_shot_100 : decode cX6_shot 100 = .ok (.iastore, 1) := by decide +kernel
theorem dX6_shot_101 : decode cX6_shot 101 = .ok (.aload_n 0, 1) := by decide +kernel
theorem dX6_shot_102 : decode cX6_shot 102 = .ok (.getfield 34, 3) := by decide +kernel
theorem dX6_shot_105 : decode cX6_shot 105 = .ok (.aload_n 0, 1) := by decide +kernel
theorem dX6_shot_106 : decode cX6_shot 106 = .ok (.getfield 102, 3) := by decide +kernel
theorem dX6_shot_109 : decode cX6_shot 109 = .ok (.iload_n 2, 1) := by decide +kernel
theorem dX6_shot_110 : decode cX6_shot 110 = .ok (.iastore, 1) := by decide +kernel
theorem dX6_shot_111 : decode cX6_shot 111 = .ok (.aload_n 0, 1) := by decide +kernel
theorem dX6_shot_112 : decode cX6_shot 112 = .ok (.getfield 37, 3) := by decide +kernel
theorem dX6_shot_115 : decode cX6_shot 115 = .ok (.aload_n 0, 1) := by decide +kernel
theorem dX6_shot_116 : decode cX6_shot 116 = .ok (.getfield 102, 3) := by decide +kernel
theorem dX6_shot_119 : decode cX6_shot 119 = .ok (.iload_n 3, 1) := by decide +kernel
theorem dX6_shot_120 : decode cX6_shot 120 = .ok (.iastore, 1) := by decide +kernel
theorem dX6_shot_121 : decode cX6_shot 121 = .ok (.aload_n 0, 1) := by decide +kernel
theorem dX6_shot_122 : decode cX6_shot 122 = .ok (.getfield 40, 3) := by decide +kernel
theorem dX6_shot_125 : decode cX6_shot 125 = .ok (.aload_n 0, 1) := by decide +kernel
theorem dX6_shot_126 : decode cX6_shot 126 = .ok (.getfield 102, 3) := by decide +kernel
theorem dX6_shot_129 : decode cX6_shot 129 = .ok (.iload 4, 2) := by decide +kernel
theorem dX6_shot_131 : decode cX6_shot 131 = .ok (.iastore, 1) := by decide +kernel
theorem dX6_shot_132 : decode cX6_shot 132 = .ok (.aload_n 0, 1) := by decide +kernel
theorem dX6_shot_133 : decode cX6_shot 133 = .ok (.getfield 43, 3) := by decide +kernel
theorem dX6_shot_136 : decode cX6_shot 136 = .ok (.aload_n 0, 1) := by decide +kernel
theorem dX6_shot_137 : decode cX6_shot 137 = .ok (.getfield 102, 3) := by decide +kernel
theorem dX6_shot_140 : decode cX6_shot 140 = .ok (.iconst (-1), 1) := by decide +kernel
theorem dX6_shot_141 : decode cX6_shot 141 = .ok (.iastore, 1) := by decide +kernel
theorem dX6_shot_142 : decode cX6_shot 142 = .ok (.aload_n 0, 1) := by decide +kernel
theorem dX6_shot_143 : decode cX6_shot 143 = .ok (.dup, 1) := by decide +kernel
theorem dX6_shot_144 : decode cX6_shot 144 = .ok (.getfield 102, 3) := by decide +kernel
theorem dX6_shot_147 : decode cX6_shot 147 = .ok (.iconst 1, 1) := by decide +kernel
theorem dX6_shot_148 : decode cX6_shot 148 = .ok (.iadd, 1) := by decide +kernel
theorem dX6_shot_149 : decode cX6_shot 149 = .ok (.putfield 102, 3) := by decide +kernel
theorem dX6_shot_152 : decode cX6_shot 152 = .ok (.aload_n 0, 1) := by decide +kernel
theorem dX6_shot_153 : decode cX6_shot 153 = .ok (.getfield 102, 3) := by decide +kernel
theorem dX6_shot_156 : decode cX6_shot 156 = .ok (.iconst 1, 1) := by decide +kernel
theorem dX6_shot_157 : decode cX6_shot 157 = .ok (.isub, 1) := by decide +kernel
theorem dX6_shot_158 : decode cX6_shot 158 = .ok (.ireturn, 1) := by decide +kernel
theorem dX6_isDone_0 : decode cX6_isDone 0 = .ok (.aload_n 0, 1) := by decide +kernel
theorem dX6_isDone_1 : decode cX6_isDone 1 = .ok (.getfield 46, 3) := by decide +kernel
theorem dX6_isDone_4 : decode cX6_isDone 4 = .ok (.iload_n 1, 1) := by decide +kernel
theorem dX6_isDone_5 : decode cX6_isDone 5 = .ok (.iaload, 1) := by decide +kernel
theorem dX6_isDone_6 : decode cX6_isDone 6 = .ok (.aload_n 0, 1) := by decide +kernel
theorem dX6_isDone_7 : decode cX6_isDone 7 = .ok (.getfield 34, 3) := by decide +kernel
theorem dX6_isDone_10 : decode cX6_isDone 10 = .ok (.iload_n 1, 1) := by decide +kernel
theorem dX6_isDone_11 : decode cX6_isDone 11 = .ok (.iaload, 1) := by decide +kernel
theorem dX6_isDone_12 : decode cX6_isDone 12 = .ok (.if_icmp .ne 7, 3) := by decide +kernel
theorem dX6_isDone_15 : decode cX6_isDone 15 = .ok (.iconst 1, 1) := by decide +kernel
theorem dX6_isDone_16 : decode cX6_isDone 16 = .ok (.goto 4, 3) := by decide +kernel
theorem dX6_isDone_19 : decode cX6_isDone 19 = .ok (.iconst 0, 1) := by decide +kernel
theorem dX6_isDone_20 : decode cX6_isDone 20 = .ok (.ireturn, 1) := by decide +kernel
theorem dX6_isOn_0 : decode cX6_isOn 0 = .ok (.aload_n 0, 1) := by decide +kernel
theorem dX6_isOn_1 : decode cX6_isOn 1 = .ok (.getfield 46, 3) := by decide +kernel
theorem dX6_isOn_4 : decode cX6_isOn 4 = .ok (.iload_n 1, 1) := by decide +kernel
theorem dX6_isOn_5 : decode cX6_isOn 5 = .ok (.iaload, 1) := by decide +kernel
theorem dX6_isOn_6 : decode cX6_isOn 6 = .ok (.ifCond .le 15, 3) := by decide +kernel
theorem dX6_isOn_9 : decode cX6_isOn 9 = .ok (.aload_n 0, 1) := by decide +kernel
theorem dX6_isOn_10 : decode cX6_isOn 10 = .ok (.iload_n 1, 1) := by decide +kernel
theorem dX6_isOn_11 : decode cX6_isOn 11 = .ok (.invokevirtual 117, 3) := by decide +kernel
theorem dX6_isOn_14 : decode cX6_isOn 14 = .ok (.ifCond .ne 7, 3) := by decide +kernel
theorem dX6_isOn_17 : decode cX6_isOn 17 = .ok (.iconst 1, 1) := by decide +kernel
theorem dX6_isOn_18 : decode cX6_isOn 18 = .ok (.goto 4, 3) := by decide +kernel
theorem dX6_isOn_21 : decode cX6_isOn 21 = .ok (.iconst 0, 1) := by decide +kernel
theorem dX6_isOn_22 : decode cX6_isOn 22 = .ok (.ireturn, 1) := by decide +kernel
theorem dX6_assign_0 : decode cX6_assign 0 = .ok (.aload_n 0, 1) := by decide +kernel
theorem dX6_assign_1 : decode cX6_assign 1 = .ok (.iload_n 1, 1) := by decide +kernel
theorem dX6_assign_2 : decode cX6_assign 2 = .ok (.invokevirtual 105, 3) := by decide +kernel
theorem dX6_assign_5 : decode cX6_assign 5 = .ok (.ifCond .eq 14, 3) := by decide +kernel
theorem dX6_assign_8 : decode cX6_assign 8 = .ok (.iload_n 2, 1) := by decide +kernel
theorem dX6_assign_9 : decode cX6_assign 9 = .ok (.invokestatic 120, 3) := by decide +kernel
theorem dX6_assign_12 : decode cX6_assign 12 = .ok (.ifCond .eq 7, 3) := by decide +kernel
theorem dX6_assign_15 : decode cX6_assign 15 = .ok (.iconst 1, 1) := by decide +kernel
theorem dX6_assign_16 : decode cX6_assign 16 = .ok (.goto 4, 3) := by decide +kernel
theorem dX6_assign_19 : decode cX6_assign 19 = .ok (.iconst 0, 1) := by decide +kernel
theorem dX6_assign_20 : decode cX6_assign 20 = .ok (.istore_n 3, 1) := by decide +kernel
theorem dX6_assign_21 : decode cX6_assign 21 = .ok (.iload_n 3, 1) := by decide +kernel
theorem dX6_assign_22 : decode cX6_assign 22 = .ok (.ifCond .eq 38, 3) := by decide +kernel
theorem dX6_assign_25 : decode cX6_assign 25 = .ok (.aload_n 0, 1) := by decide +kernel
theorem dX6_assign_26 : decode cX6_assign 26 = .ok (.iload_n 1, 1) := by decide +kernel
theorem dX6_assign_27 : decode cX6_assign 27 = .ok (.invokevirtual 117, 3) := by decide +kernel
theorem dX6_assign_30 : decode cX6_assign 30 = .ok (.ifCond .ne 30, 3) := by decide +kernel
theorem dX6_assign_33 : decode cX6_assign 33 = .ok (.aload_n 0, 1) := by decide +kernel
theorem dX6_assign_34 : decode cX6_assign 34 = .ok (.getfield 46, 3) := by decide +kernel
theorem dX6_assign_37 : decode cX6_assign 37 = .ok (.iload_n 1, 1) := by decide +kernel
theorem dX6_assign_38 : decode cX6_assign 38 = .ok (.iaload, 1) := by decide +kernel
theorem dX6_assign_39 : decode cX6_assign 39 = .ok (.ifCond .eq 17, 3) := by decide +kernel
theorem dX6_assign_42 : decode cX6_assign 42 = .ok (.aload_n 0, 1) := by decide +kernel
theorem dX6_assign_43 : decode cX6_assign 43 = .ok (.getfield 52, 3) := by decide +kernel
theorem dX6_assign_46 : decode cX6_assign 46 = .ok (.aload_n 0, 1) := by decide +kernel
theorem dX6_assign_47 : decode cX6_assign 47 = .ok (.getfield 43, 3) := by decide +kernel
theorem dX6_assign_50 : decode cX6_assign 50 = .ok (.iload_n 1, 1) := by decide +kernel
theorem dX6_assign_51 : decode cX6_assign 51 = .ok (.iaload, 1) := by decide +kernel
theorem dX6_assign_52 : decode cX6_assign 52 = .ok (.baload, 1) := by decide +kernel
theorem dX6_assign_53 : decode cX6_assign 53 = .ok (.ifCond .eq 7, 3) := by decide +kernel
theorem dX6_assign_56 : decode cX6_assign 56 = .ok (.iconst 1, 1) := by decide +kernel
theorem dX6_assign_57 : decode cX6_assign 57 = .ok (.goto 4, 3) := by decide +kernel
theorem dX6_assign_60 : decode cX6_assign 60 = .ok (.iconst 0, 1) := by decide +kernel
theorem dX6_assign_61 : decode cX6_assign 61 = .ok (.istore 4, 2) := by decide +kernel
theorem dX6_assign_63 : decode cX6_assign 63 = .ok (.aload_n 0, 1) := by decide +kernel
theorem dX6_assign_64 : decode cX6_assign 64 = .ok (.iload_n 3, 1) := by decide +kernel
theorem dX6_assign_65 : decode cX6_assign 65 = .ok (.ifCond .ne 7, 3) := by decide +kernel
theorem dX6_assign_68 : decode cX6_assign 68 = .ok (.iconst 1, 1) := by decide +kernel
theorem dX6_assign_69 : decode cX6_assign 69 = .ok (.goto 13, 3) := by decide +kernel
theorem dX6_assign_72 : decode cX6_assign 72 = .ok (.iload 4, 2) := by decide +kernel
theorem dX6_assign_74 : decode cX6_assign 74 = .ok (.ifCond .eq 7, 3) := by decide +kernel
theorem dX6_assign_77 : decode cX6_assign 77 = .ok (.iconst 0, 1) := by decide +kernel
theorem dX6_assign_78 : decode cX6_assign 78 = .ok (.goto 4, 3) := by decide +kernel
theorem dX6_assign_81 : decode cX6_assign 81 = .ok (.iconst 2, 1) := by decide +kernel
theorem dX6_assign_82 : decode cX6_assign 82 = .ok (.invokevirtual 108, 3) := by decide +kernel
theorem dX6_assign_85 : decode cX6_assign 85 = .ok (.ifCond .eq 5, 3) := by decide +kernel
theorem dX6_assign_88 : decode cX6_assign 88 = .ok (.iconst 0, 1) := by decide +kernel
theorem dX6_assign_89 : decode cX6_assign 89 = .ok (.ireturn, 1) := by decide +kernel
theorem dX6_assign_90 : decode cX6_assign 90 = .ok (.aload_n 0, 1) := by decide +kernel
theorem dX6_assign_91 : decode cX6_assign 91 = .ok (.getfield 43, 3) := by decide +kernel
theorem dX6_assign_94 : decode cX6_assign 94 = .ok (.iload_n 1, 1) := by decide +kernel
theorem dX6_assign_95 : decode cX6_assign 95 = .ok (.iaload, 1) := by decide +kernel
theorem dX6_assign_96 : decode cX6_assign 96 = .ok (.istore 5, 2) := by decide +kernel
theorem dX6_assign_98 : decode cX6_assign 98 = .ok (.aload_n 0, 1) := by decide +kernel
theorem dX6_assign_99 : decode cX6_assign 99 = .ok (.getfield 43, 3) := by decide +kernel
theorem dX6_assign_102 : decode cX6_assign 102 = .ok (.iload_n 1, 1) := by decide +kernel
theorem dX6_assign_103 : decode cX6_assign 103 = .ok (.iload_n 2, 1) := by decide +kernel
theorem dX6_assign_104 : decode cX6_assign 104 = .ok (.iastore, 1) := by decide +kernel
theorem dX6_assign_105 : decode cX6_assign 105 = .ok (.iload 5, 2) := by decide +kernel
theorem dX6_assign_107 : decode cX6_assign 107 = .ok (.ireturn, 1) := by decide +kernel
theorem dX6_ill_0 : decode cX6_ill 0 = .ok (.aload_n 0, 1) := by decide +kernel
theorem dX6_ill_1 : decode cX6_ill 1 = .ok (.iload_n 1, 1) := by decide +kernel
theorem dX6_ill_2 : decode cX6_ill 2 = .ok (.invokestatic 120, 3) := by decide +kernel
theorem dX6_ill_5 : decode cX6_ill 5 = .ok (.ifCond .eq 7, 3) := by decide +kernel
theorem dX6_ill_8 : decode cX6_ill 8 = .ok (.iconst 0, 1) := by decide +kernel
theorem dX6_ill_9 : decode cX6_ill 9 = .ok (.goto 4, 3) := by decide +kernel
theorem dX6_ill_12 : decode cX6_ill 12 = .ok (.iconst 1, 1) := by decide +kernel
theorem dX6_ill_13 : decode cX6_ill 13 = .ok (.invokevirtual 108, 3) := by decide +kernel
theorem dX6_ill_16 : decode cX6_ill 16 = .ok (.ifCond .eq 5, 3) := by decide +kernel
theorem dX6_ill_19 : decode cX6_ill 19 = .ok (.iconst 0, 1) := by decide +kernel
theorem dX6_ill_20 : decode cX6_ill 20 = .ok (.ireturn, 1) := by decide +kernel
theorem dX6_ill_21 : decode cX6_ill 21 = .ok (.aload_n 0, 1) := by decide +kernel
theorem dX6_ill_22 : decode cX6_ill 22 = .ok (.getfield 52, 3) := by decide +kernel
theorem dX6_ill_25 : decode cX6_ill 25 = .ok (.iload_n 1, 1) := by decide +kernel
theorem dX6_ill_26 : decode cX6_ill 26 = .ok (.baload, 1) := by decide +kernel
theorem dX6_ill_27 : decode cX6_ill 27 = .ok (.istore_n 3, 1) := by decide +kernel
theorem dX6_ill_28 : decode cX6_ill 28 = .ok (.aload_n 0, 1) := by decide +kernel
theorem dX6_ill_29 : decode cX6_ill 29 = .ok (.getfield 52, 3) := by decide +kernel
theorem dX6_ill_32 : decode cX6_ill 32 = .ok (.iload_n 1, 1) := by decide +kernel
theorem dX6_ill_33 : decode cX6_ill 33 = .ok (.iload_n 2, 1) := by decide +kernel
theorem dX6_ill_34 : decode cX6_ill 34 = .ok (.bastore, 1) := by decide +kernel
theorem dX6_ill_35 : decode cX6_ill 35 = .ok (.iload_n 3, 1) := by decide +kernel
theorem dX6_ill_36 : decode cX6_ill 36 = .ok (.ireturn, 1) := by decide +kernel
theorem dX6_dub_0 : decode cX6_dub 0 = .ok (.aload_n 0, 1) := by decide +kernel
theorem dX6_dub_1 : decode cX6_dub 1 = .ok (.aload_n 0, 1) := by decide +kernel
theorem dX6_dub_2 : decode cX6_dub 2 = .ok (.iload_n 1, 1) := by decide +kernel
theorem dX6_dub_3 : decode cX6_dub 3 = .ok (.invokevirtual 105, 3) := by decide +kernel
theorem dX6_dub_6 : decode cX6_dub 6 = .ok (.ifCond .eq 15, 3) := by decide +kernel
theorem dX6_dub_9 : decode cX6_dub 9 = .ok (.aload_n 0, 1) := by decide +kernel
theorem dX6_dub_10 : decode cX6_dub 10 = .ok (.iload_n 2, 1) := by decide +kernel
theorem dX6_dub_11 : decode cX6_dub 11 = .ok (.invokevirtual 114, 3) := by decide +kernel
theorem dX6_dub_14 : decode cX6_dub 14 = .ok (.ifCond .eq 7, 3) := by decide +kernel
theorem dX6_dub_17 : decode cX6_dub 17 = .ok (.iconst 0, 1) := by decide +kernel
theorem dX6_dub_18 : decode cX6_dub 18 = .ok (.goto 4, 3) := by decide +kernel
theorem dX6_dub_21 : decode cX6_dub 21 = .ok (.iconst 1, 1) := by decide +kernel
theorem dX6_dub_22 : decode cX6_dub 22 = .ok (.invokevirtual 108, 3) := by decide +kernel
theorem dX6_dub_25 : decode cX6_dub 25 = .ok (.ifCond .eq 5, 3) := by decide +kernel
theorem dX6_dub_28 : decode cX6_dub 28 = .ok (.iconst 0, 1) := by decide +kernel
theorem dX6_dub_29 : decode cX6_dub 29 = .ok (.ireturn, 1) := by decide +kernel
theorem dX6_dub_30 : decode cX6_dub 30 = .ok (.aload_n 0, 1) := by decide +kernel
theorem dX6_dub_31 : decode cX6_dub 31 = .ok (.getfield 40, 3) := by decide +kernel
theorem dX6_dub_34 : decode cX6_dub 34 = .ok (.iload_n 1, 1) := by decide +kernel
theorem dX6_dub_35 : decode cX6_dub 35 = .ok (.iaload, 1) := by decide +kernel
theorem dX6_dub_36 : decode cX6_dub 36 = .ok (.istore_n 3, 1) := by decide +kernel
theorem dX6_dub_37 : decode cX6_dub 37 = .ok (.aload_n 0, 1) := by decide +kernel
theorem dX6_dub_38 : decode cX6_dub 38 = .ok (.getfield 40, 3) := by decide +kernel
theorem dX6_dub_41 : decode cX6_dub 41 = .ok (.iload_n 1, 1) := by decide +kernel
theorem dX6_dub_42 : decode cX6_dub 42 = .ok (.iload_n 2, 1) := by decide +kernel
theorem dX6_dub_43 : decode cX6_dub 43 = .ok (.iastore, 1) := by decide +kernel
theorem dX6_dub_44 : decode cX6_dub 44 = .ok (.iload_n 3, 1) := by decide +kernel
theorem dX6_dub_45 : decode cX6_dub 45 = .ok (.ireturn, 1) := by decide +kernel
theorem dX6_isHeld_0 : decode cX6_isHeld 0 = .ok (.aload_n 0, 1) := by decide +kernel
theorem dX6_isHeld_1 : decode cX6_isHeld 1 = .ok (.getfield 37, 3) := by decide +kernel
theorem dX6_isHeld_4 : decode cX6_isHeld 4 = .ok (.iload_n 1, 1) := by decide +kernel
theorem dX6_isHeld_5 : decode cX6_isHeld 5 = .ok (.iaload, 1) := by decide +kernel
theorem dX6_isHeld_6 : decode cX6_isHeld 6 = .ok (.iconst 2, 1) := by decide +kernel
theorem dX6_isHeld_7 : decode cX6_isHeld 7 = .ok (.if_icmp .ne 14, 3) := by decide +kernel
theorem dX6_isHeld_10 : decode cX6_isHeld 10 = .ok (.iload_n 2, 1) := by decide +kernel
theorem dX6_isHeld_11 : decode cX6_isHeld 11 = .ok (.iconst 2, 1) := by decide +kernel
theorem dX6_isHeld_12 : decode cX6_isHeld 12 = .ok (.irem, 1) := by decide +kernel
theorem dX6_isHeld_13 : decode cX6_isHeld 13 = .ok (.iconst 1, 1) := by decide +kernel
theorem dX6_isHeld_14 : decode cX6_isHeld 14 = .ok (.if_icmp .ne 7, 3) := by decide +kernel
theorem dX6_isHeld_17 : decode cX6_isHeld 17 = .ok (.iconst 1, 1) := by decide +kernel
theorem dX6_isHeld_18 : decode cX6_isHeld 18 = .ok (.goto 4, 3) := by decide +kernel
theorem dX6_isHeld_21 : decode cX6_isHeld 21 = .ok (.iconst 0, 1) := by decide +kernel
theorem dX6_isHeld_22 : decode cX6_isHeld 22 = .ok (.ireturn, 1) := by decide +kernel
theorem dX6_row_0 : decode cX6_row 0 = .ok (.bipush 48, 2) := by decide +kernel
theorem dX6_row_2 : decode cX6_row 2 = .ok (.bipush 6, 2) := by decide +kernel
theorem dX6_row_4 : decode cX6_row 4 = .ok (.iload_n 1, 1) := by decide +kernel
theorem dX6_row_5 : decode cX6_row 5 = .ok (.imul, 1) := by decide +kernel
theorem dX6_row_6 : decode cX6_row 6 = .ok (.iload_n 2, 1) := by decide +kernel
theorem dX6_row_7 : decode cX6_row 7 = .ok (.iadd, 1) := by decide +kernel
theorem dX6_row_8 : decode cX6_row 8 = .ok (.imul, 1) := by decide +kernel
theorem dX6_row_9 : decode cX6_row 9 = .ok (.ireturn, 1) := by decide +kernel
theorem dX6_nearest_0 : decode cX6_nearest 0 = .ok (.iload_n 2, 1) := by decide +kernel
theorem dX6_nearest_1 : decode cX6_nearest 1 = .ok (.istore 5, 2) := by decide +kernel
theorem dX6_nearest_3 : decode cX6_nearest 3 = .ok (.iload 5, 2) := by decide +kernel
theorem dX6_nearest_5 : decode cX6_nearest 5 = .ok (.ifCond .lt 30, 3) := by decide +kernel
theorem dX6_nearest_8 : decode cX6_nearest 8 = .ok (.iload 5, 2) := by decide +kernel
theorem dX6_nearest_10 : decode cX6_nearest 10 = .ok (.bipush 48, 2) := by decide +kernel
theorem dX6_nearest_12 : decode cX6_nearest 12 = .ok (.if_icmp .ge 23, 3) := by decide +kernel
theorem dX6_nearest_15 : decode cX6_nearest 15 = .ok (.aload_n 0, 1) := by decide +kernel
theorem dX6_nearest_16 : decode cX6_nearest 16 = .ok (.iload_n 1, 1) := by decide +kernel
theorem dX6_nearest_17 : decode cX6_nearest 17 = .ok (.iload 5, 2) := by decide +kernel
theorem dX6_nearest_19 : decode cX6_nearest 19 = .ok (.iadd, 1) := by decide +kernel
theorem dX6_nearest_20 : decode cX6_nearest 20 = .ok (.iaload, 1) := by decide +kernel
theorem dX6_nearest_21 : decode cX6_nearest 21 = .ok (.iload 4, 2) := by decide +kernel
theorem dX6_nearest_23 : decode cX6_nearest 23 = .ok (.if_icmp .ne 12, 3) := by decide +kernel
theorem dX6_nearest_26 : decode cX6_nearest 26 = .ok (.iload 5, 2) := by decide +kernel
theorem dX6_nearest_28 : decode cX6_nearest 28 = .ok (.iload_n 3, 1) := by decide +kernel
theorem dX6_nearest_29 : decode cX6_nearest 29 = .ok (.iadd, 1) := by decide +kernel
theorem dX6_nearest_30 : decode cX6_nearest 30 = .ok (.istore 5, 2) := by decide +kernel
theorem dX6_nearest_32 : decode cX6_nearest 32 = .ok (.goto (-29), 3) := by decide +kernel
theorem dX6_nearest_35 : decode cX6_nearest 35 = .ok (.iload 5, 2) := by decide +kernel
theorem dX6_nearest_37 : decode cX6_nearest 37 = .ok (.bipush 48, 2) := by decide +kernel
theorem dX6_nearest_39 : decode cX6_nearest 39 = .ok (.if_icmp .ge 13, 3) := by decide +kernel
theorem dX6_nearest_42 : decode cX6_nearest 42 = .ok (.iload 5, 2) := by decide +kernel
theorem dX6_nearest_44 : decode cX6_nearest 44 = .ok (.ifCond .lt 8, 3) := by decide +kernel
theorem dX6_nearest_47 : decode cX6_nearest 47 = .ok (.iload 5, 2) := by decide +kernel
theorem dX6_nearest_49 : decode cX6_nearest 49 = .ok (.goto 4, 3) := by decide +kernel
theorem dX6_nearest_52 : decode cX6_nearest 52 = .ok (.iconst (-1), 1) := by decide +kernel
theorem dX6_nearest_53 : decode cX6_nearest 53 = .ok (.ireturn, 1) := by decide +kernel
theorem dX6_degreeAt_0 : decode cX6_degreeAt 0 = .ok (.aload_n 0, 1) := by decide +kernel
theorem dX6_degreeAt_1 : decode cX6_degreeAt 1 = .ok (.iload_n 1, 1) := by decide +kernel
theorem dX6_degreeAt_2 : decode cX6_degreeAt 2 = .ok (.iload_n 3, 1) := by decide +kernel
theorem dX6_degreeAt_3 : decode cX6_degreeAt 3 = .ok (.invokevirtual 123, 3) := by decide +kernel
theorem dX6_degreeAt_6 : decode cX6_degreeAt 6 = .ok (.ifCond .eq 9, 3) := by decide +kernel
theorem dX6_degreeAt_9 : decode cX6_degreeAt 9 = .ok (.iload_n 3, 1) := by decide +kernel
theorem dX6_degreeAt_10 : decode cX6_degreeAt 10 = .ok (.iconst 1, 1) := by decide +kernel
theorem dX6_degreeAt_11 : decode cX6_degreeAt 11 = .ok (.isub, 1) := by decide +kernel
theorem dX6_degreeAt_12 : decode cX6_degreeAt 12 = .ok (.goto 4, 3) := by decide +kernel
theorem dX6_degreeAt_15 : decode cX6_degreeAt 15 = .ok (.iload_n 3, 1) := by decide +kernel
theorem dX6_degreeAt_16 : decode cX6_degreeAt 16 = .ok (.istore 4, 2) := by decide +kernel
theorem dX6_degreeAt_18 : decode cX6_degreeAt 18 = .ok (.aload_n 0, 1) := by decide +kernel
theorem dX6_degreeAt_19 : decode cX6_degreeAt 19 = .ok (.iload_n 1, 1) := by decide +kernel
theorem dX6_degreeAt_20 : decode cX6_degreeAt 20 = .ok (.iload_n 2, 1) := by decide +kernel
theorem dX6_degreeAt_21 : decode cX6_degreeAt 21 = .ok (.invokevirtual 127, 3) := by decide +kernel
theorem dX6_degreeAt_24 : decode cX6_degreeAt 24 = .ok (.istore 5, 2) := by decide +kernel
theorem dX6_degreeAt_26 : decode cX6_degreeAt 26 = .ok (.aload_n 0, 1) := by decide +kernel
theorem dX6_degreeAt_27 : decode cX6_degreeAt 27 = .ok (.getfield 56, 3) := by decide +kernel
theorem dX6_degreeAt_30 : decode cX6_degreeAt 30 = .ok (.iload 5, 2) := by decide +kernel
theorem dX6_degreeAt_32 : decode cX6_degreeAt 32 = .ok (.iload 4, 2) := by decide +kernel
theorem dX6_degreeAt_34 : decode cX6_degreeAt 34 = .ok (.iconst (-1), 1) := by decide +kernel
theorem dX6_degreeAt_35 : decode cX6_degreeAt 35 = .ok (.iconst (-1), 1) := by decide +kernel
theorem dX6_degreeAt_36 : decode cX6_degreeAt 36 = .ok (.invokestatic 131, 3) := by decide +kernel
theorem dX6_degreeAt_39 : decode cX6_degreeAt 39 = .ok (.istore 6, 2) := by decide +kernel
theorem dX6_degreeAt_41 : decode cX6_degreeAt 41 = .ok (.aload_n 0, 1) := by decide +kernel
theorem dX6_degreeAt_42 : decode cX6_degreeAt 42 = .ok (.getfield 56, 3) := by decide +kernel
theorem dX6_degreeAt_45 : decode cX6_degreeAt 45 = .ok (.iload 5, 2) := by decide +kernel
theorem dX6_degreeAt_47 : decode cX6_degreeAt 47 = .ok (.iload 4, 2) := by decide +kernel
theorem dX6_degreeAt_49 : decode cX6_degreeAt 49 = .ok (.iconst 1, 1) := by decide +kernel
theorem dX6_degreeAt_50 : decode cX6_degreeAt 50 = .ok (.iconst (-1), 1) := by decide +kernel
theorem dX6_degreeAt_51 : decode cX6_degreeAt 51 = .ok (.invokestatic 131, 3) := by decide +kernel
theorem dX6_degreeAt_54 : decode cX6_degreeAt 54 = .ok (.istore 7, 2) := by decide +kernel
theorem dX6_degreeAt_56 : decode cX6_degreeAt 56 = .ok (.iload 6, 2) := by decide +kernel
theorem dX6_degreeAt_58 : decode cX6_degreeAt 58 = .ok (.iconst (-1), 1) := by decide +kernel
theorem dX6_degreeAt_59 : decode cX6_degreeAt 59 = .ok (.if_icmp .eq 9, 3) := by decide +kernel
theorem dX6_degreeAt_62 : decode cX6_degreeAt 62 = .ok (.iload 7, 2) := by decide +kernel
theorem dX6_degreeAt_64 : decode cX6_degreeAt 64 = .ok (.iconst (-1), 1) := by decide +kernel
theorem dX6_degreeAt_65 : decode cX6_degreeAt 65 = .ok (.if_icmp .ne 36, 3) := by decide +kernel
theorem dX6_degreeAt_68 : decode cX6_degreeAt 68 = .ok (.iload 6, 2) := by decide +kernel
theorem dX6_degreeAt_70 : decode cX6_degreeAt 70 = .ok (.iload 7, 2) := by decide +kernel
theorem dX6_degreeAt_72 : decode cX6_degreeAt 72 = .ok (.if_icmp .ne 7, 3) := by decide +kernel
theorem dX6_degreeAt_75 : decode cX6_degreeAt 75 = .ok (.iconst 0, 1) := by decide +kernel
theorem dX6_degreeAt_76 : decode cX6_degreeAt 76 = .ok (.goto 24, 3) := by decide +kernel
theorem dX6_degreeAt_79 : decode cX6_degreeAt 79 = .ok (.aload_n 0, 1) := by decide +kernel
theorem dX6_degreeAt_80 : decode cX6_degreeAt 80 = .ok (.getfield 56, 3) := by decide +kernel
theorem dX6_degreeAt_83 : decode cX6_degreeAt 83 = .ok (.iload 5, 2) := by decide +kernel
theorem dX6_degreeAt_85 : decode cX6_degreeAt 85 = .ok (.iload 6, 2) := by decide +kernel
theorem dX6_degreeAt_87 : decode cX6_degreeAt 87 = .ok (.iconst (-1), 1) := by decide +kernel
theorem dX6_degreeAt_88 : decode cX6_degreeAt 88 = .ok (.if_icmp .ne 8, 3) := by decide +kernel
theorem dX6_degreeAt_91 : decode cX6_degreeAt 91 = .ok (.iload 7, 2) := by decide +kernel
theorem dX6_degreeAt_93 : decode cX6_degreeAt 93 = .ok (.goto 5, 3) := by decide +kernel
theorem dX6_degreeAt_96 : decode cX6_degreeAt 96 = .ok (.iload 6, 2) := by decide +kernel
theorem dX6_degreeAt_98 : decode cX6_degreeAt 98 = .ok (.iadd, 1) := by decide +kernel
theorem dX6_degreeAt_99 : decode cX6_degreeAt 99 = .ok (.iaload, 1) := by decide +kernel
theorem dX6_degreeAt_100 : decode cX6_degreeAt 100 = .ok (.ireturn, 1) := by decide +kernel
theorem dX6_degreeAt_101 : decode cX6_degreeAt 101 = .ok (.iload 6, 2) := by decide +kernel
theorem dX6_degreeAt_103 : decode cX6_degreeAt 103 = .ok (.iload 7, 2) := by decide +kernel
theorem dX6_degreeAt_105 : decode cX6_degreeAt 105 = .ok (.if_icmp .ne 14, 3) := by decide +kernel
theorem dX6_degreeAt_108 : decode cX6_degreeAt 108 = .ok (.aload_n 0, 1) := by decide +kernel
theorem dX6_degreeAt_109 : decode cX6_degreeAt 109 = .ok (.getfield 56, 3) := by decide +kernel
theorem dX6_degreeAt_112 : decode cX6_degreeAt 112 = .ok (.iload 5, 2) := by decide +kernel
theorem dX6_degreeAt_114 : decode cX6_degreeAt 114 = .ok (.iload 6, 2) := by decide +kernel
theorem dX6_degreeAt_116 : decode cX6_degreeAt 116 = .ok (.iadd, 1) := by decide +kernel
theorem dX6_degreeAt_117 : decode cX6_degreeAt 117 = .ok (.iaload, 1) := by decide +kernel
theorem dX6_degreeAt_118 : decode cX6_degreeAt 118 = .ok (.ireturn, 1) := by decide +kernel
theorem dX6_degreeAt_119 : decode cX6_degreeAt 119 = .ok (.aload_n 0, 1) := by decide +kernel
theorem dX6_degreeAt_120 : decode cX6_degreeAt 120 = .ok (.getfield 56, 3) := by decide +kernel
theorem dX6_degreeAt_123 : decode cX6_degreeAt 123 = .ok (.iload 5, 2) := by decide +kernel
theorem dX6_degreeAt_125 : decode cX6_degreeAt 125 = .ok (.iload 7, 2) := by decide +kernel
theorem dX6_degreeAt_127 : decode cX6_degreeAt 127 = .ok (.iadd, 1) := by decide +kernel
theorem dX6_degreeAt_128 : decode cX6_degreeAt 128 = .ok (.iaload, 1) := by decide +kernel
theorem dX6_degreeAt_129 : decode cX6_degreeAt 129 = .ok (.aload_n 0, 1) := by decide +kernel
theorem dX6_degreeAt_130 : decode cX6_degreeAt 130 = .ok (.getfield 56, 3) := by decide +kernel
theorem dX6_degreeAt_133 : decode cX6_degreeAt 133 = .ok (.iload 5, 2) := by decide +kernel
theorem dX6_degreeAt_135 : decode cX6_degreeAt 135 = .ok (.iload 6, 2) := by decide +kernel
theorem dX6_degreeAt_137 : decode cX6_degreeAt 137 = .ok (.iadd, 1) := by decide +kernel
theorem dX6_degreeAt_138 : decode cX6_degreeAt 138 = .ok (.iaload, 1) := by decide +kernel
theorem dX6_degreeAt_139 : decode cX6_degreeAt 139 = .ok (.isub, 1) := by decide +kernel
theorem dX6_degreeAt_140 : decode cX6_degreeAt 140 = .ok (.sipush 360, 3) := by decide +kernel
theorem dX6_degreeAt_143 : decode cX6_degreeAt 143 = .ok (.iadd, 1) := by decide +kernel
theorem dX6_degreeAt_144 : decode cX6_degreeAt 144 = .ok (.sipush 360, 3) := by decide +kernel
theorem dX6_degreeAt_147 : decode cX6_degreeAt 147 = .ok (.irem, 1) := by decide +kernel
theorem dX6_degreeAt_148 : decode cX6_degreeAt 148 = .ok (.istore 8, 2) := by decide +kernel
theorem dX6_degreeAt_150 : decode cX6_degreeAt 150 = .ok (.iload 8, 2) := by decide +kernel
theorem dX6_degreeAt_152 : decode cX6_degreeAt 152 = .ok (.sipush 180, 3) := by decide +kernel
theorem dX6_degreeAt_155 : decode cX6_degreeAt 155 = .ok (.if_icmp .le 12, 3) := by decide +kernel
theorem dX6_degreeAt_158 : decode cX6_degreeAt 158 = .ok (.iload 8, 2) := by decide +kernel
theorem dX6_degreeAt_160 : decode cX6_degreeAt 160 = .ok (.sipush 360, 3) := by decide +kernel
theorem dX6_degreeAt_163 : decode cX6_degreeAt 163 = .ok (.isub, 1) := by decide +kernel
theorem dX6_degreeAt_164 : decode cX6_degreeAt 164 = .ok (.goto 5, 3) := by decide +kernel
theorem dX6_degreeAt_167 : decode cX6_degreeAt 167 = .ok (.iload 8, 2) := by decide +kernel
theorem dX6_degreeAt_169 : decode cX6_degreeAt 169 = .ok (.istore 8, 2) := by decide +kernel
theorem dX6_degreeAt_171 : decode cX6_degreeAt 171 = .ok (.aload_n 0, 1) := by decide +kernel
theorem dX6_degreeAt_172 : decode cX6_degreeAt 172 = .ok (.getfield 56, 3) := by decide +kernel
theorem dX6_degreeAt_175 : decode cX6_degreeAt 175 = .ok (.iload 5, 2) := by decide +kernel
theorem dX6_degreeAt_177 : decode cX6_degreeAt 177 = .ok (.iload 6, 2) := by decide +kernel
theorem dX6_degreeAt_179 : decode cX6_degreeAt 179 = .ok (.iadd, 1) := by decide +kernel
theorem dX6_degreeAt_180 : decode cX6_degreeAt 180 = .ok (.iaload, 1) := by decide +kernel
theorem dX6_degreeAt_181 : decode cX6_degreeAt 181 = .ok (.iload 8, 2) := by decide +kernel
theorem dX6_degreeAt_183 : decode cX6_degreeAt 183 = .ok (.iload 4, 2) := by decide +kernel
theorem dX6_degreeAt_185 : decode cX6_degreeAt 185 = .ok (.iload 6, 2) := by decide +kernel
theorem dX6_degreeAt_187 : decode cX6_degreeAt 187 = .ok (.isub, 1) := by decide +kernel
theorem dX6_degreeAt_188 : decode cX6_degreeAt 188 = .ok (.imul, 1) := by decide +kernel
theorem dX6_degreeAt_189 : decode cX6_degreeAt 189 = .ok (.iload 7, 2) := by decide +kernel
theorem dX6_degreeAt_191 : decode cX6_degreeAt 191 = .ok (.iload 6, 2) := by decide +kernel
theorem dX6_degreeAt_193 : decode cX6_degreeAt 193 = .ok (.isub, 1) := by decide +kernel
theorem dX6_degreeAt_194 : decode cX6_degreeAt 194 = .ok (.idiv, 1) := by decide +kernel
theorem dX6_degreeAt_195 : decode cX6_degreeAt 195 = .ok (.iadd, 1) := by decide +kernel
theorem dX6_degreeAt_196 : decode cX6_degreeAt 196 = .ok (.sipush 360, 3) := by decide +kernel
theorem dX6_degreeAt_199 : decode cX6_degreeAt 199 = .ok (.iadd, 1) := by decide +kernel
theorem dX6_degreeAt_200 : decode cX6_degreeAt 200 = .ok (.sipush 360, 3) := by decide +kernel
theorem dX6_degreeAt_203 : decode cX6_degreeAt 203 = .ok (.irem, 1) := by decide +kernel
theorem dX6_degreeAt_204 : decode cX6_degreeAt 204 = .ok (.ireturn, 1) := by decide +kernel
theorem dX6_placeAt_0 : decode cX6_placeAt 0 = .ok (.bipush 48, 2) := by decide +kernel
theorem dX6_placeAt_2 : decode cX6_placeAt 2 = .ok (.iload_n 1, 1) := by decide +kernel
theorem dX6_placeAt_3 : decode cX6_placeAt 3 = .ok (.imul, 1) := by decide +kernel
theorem dX6_placeAt_4 : decode cX6_placeAt 4 = .ok (.istore_n 3, 1) := by decide +kernel
theorem dX6_placeAt_5 : decode cX6_placeAt 5 = .ok (.aload_n 0, 1) := by decide +kernel
theorem dX6_placeAt_6 : decode cX6_placeAt 6 = .ok (.getfield 59, 3) := by decide +kernel
theorem dX6_placeAt_9 : decode cX6_placeAt 9 = .ok (.iload_n 3, 1) := by decide +kernel
theorem dX6_placeAt_10 : decode cX6_placeAt 10 = .ok (.iload_n 2, 1) := by decide +kernel
theorem dX6_placeAt_11 : decode cX6_placeAt 11 = .ok (.iconst (-1), 1) := by decide +kernel
theorem dX6_placeAt_12 : decode cX6_placeAt 12 = .ok (.ldc 83, 2) := by decide +kernel
theorem dX6_placeAt_14 : decode cX6_placeAt 14 = .ok (.invokestatic 131, 3) := by decide +kernel
theorem dX6_placeAt_17 : decode cX6_placeAt 17 = .ok (.istore 4, 2) := by decide +kernel
theorem dX6_placeAt_19 : decode cX6_placeAt 19 = .ok (.aload_n 0, 1) := by decide +kernel
theorem dX6_placeAt_20 : decode cX6_placeAt 20 = .ok (.getfield 59, 3) := by decide +kernel
theorem dX6_placeAt_23 : decode cX6_placeAt 23 = .ok (.iload_n 3, 1) := by decide +kernel
theorem dX6_placeAt_24 : decode cX6_placeAt 24 = .ok (.iload_n 2, 1) := by decide +kernel
theorem dX6_placeAt_25 : decode cX6_placeAt 25 = .ok (.iconst 1, 1) := by decide +kernel
theorem dX6_placeAt_26 : decode cX6_placeAt 26 = .ok (.ldc 83, 2) := by decide +kernel
theorem dX6_placeAt_28 : decode cX6_placeAt 28 = .ok (.invokestatic 131, 3) := by decide +kernel
theorem dX6_placeAt_31 : decode cX6_placeAt 31 = .ok (.istore 5, 2) := by decide +kernel
theorem dX6_placeAt_33 : decode cX6_placeAt 33 = .ok (.iload 4, 2) := by decide +kernel
theorem dX6_placeAt_35 : decode cX6_placeAt 35 = .ok (.iconst (-1), 1) := by decide +kernel
theorem dX6_placeAt_36 : decode cX6_placeAt 36 = .ok (.if_icmp .eq 9, 3) := by decide +kernel
theorem dX6_placeAt_39 : decode cX6_placeAt 39 = .ok (.iload 5, 2) := by decide +kernel
theorem dX6_placeAt_41 : decode cX6_placeAt 41 = .ok (.iconst (-1), 1) := by decide +kernel
theorem dX6_placeAt_42 : decode cX6_placeAt 42 = .ok (.if_icmp .ne 35, 3) := by decide +kernel
theorem dX6_placeAt_45 : decode cX6_placeAt 45 = .ok (.iload 4, 2) := by decide +kernel
theorem dX6_placeAt_47 : decode cX6_placeAt 47 = .ok (.iload 5, 2) := by decide +kernel
theorem dX6_placeAt_49 : decode cX6_placeAt 49 = .ok (.if_icmp .ne 7, 3) := by decide +kernel
theorem dX6_placeAt_52 : decode cX6_placeAt 52 = .ok (.iconst 0, 1) := by decide +kernel
theorem dX6_placeAt_53 : decode cX6_placeAt 53 = .ok (.goto 23, 3) := by decide +kernel
theorem dX6_placeAt_56 : decode cX6_placeAt 56 = .ok (.aload_n 0, 1) := by decide +kernel
theorem dX6_placeAt_57 : decode cX6_placeAt 57 = .ok (.getfield 59, 3) := by decide +kernel
theorem dX6_placeAt_60 : decode cX6_placeAt 60 = .ok (.iload_n 3, 1) := by decide +kernel
theorem dX6_placeAt_61 : decode cX6_placeAt 61 = .ok (.iload 4, 2) := by decide +kernel
theorem dX6_placeAt_63 : decode cX6_placeAt 63 = .ok (.iconst (-1), 1) := by decide +kernel
theorem dX6_placeAt_64 : decode cX6_placeAt 64 = .ok (.if_icmp .ne 8, 3) := by decide +kernel
theorem dX6_placeAt_67 : decode cX6_placeAt 67 = .ok (.iload 5, 2) := by decide +kernel
theorem dX6_placeAt_69 : decode cX6_placeAt 69 = .ok (.goto 5, 3) := by decide +kernel
theorem dX6_placeAt_72 : decode cX6_placeAt 72 = .ok (.iload 4, 2) := by decide +kernel
theorem dX6_placeAt_74 : decode cX6_placeAt 74 = .ok (.iadd, 1) := by decide +kernel
theorem dX6_placeAt_75 : decode cX6_placeAt 75 = .ok (.iaload, 1) := by decide +kernel
theorem dX6_placeAt_76 : decode cX6_placeAt 76 = .ok (.ireturn, 1) := by decide +kernel
theorem dX6_placeAt_77 : decode cX6_placeAt 77 = .ok (.aload_n 0, 1) := by decide +kernel
theorem dX6_placeAt_78 : decode cX6_placeAt 78 = .ok (.getfield 59, 3) := by decide +kernel
theorem dX6_placeAt_81 : decode cX6_placeAt 81 = .ok (.iload_n 3, 1) := by decide +kernel
theorem dX6_placeAt_82 : decode cX6_placeAt 82 = .ok (.iload 5, 2) := by decide +kernel
theorem dX6_placeAt_84 : decode cX6_placeAt 84 = .ok (.iadd, 1) := by decide +kernel
theorem dX6_placeAt_85 : decode cX6_placeAt 85 = .ok (.iaload, 1) := by decide +kernel
theorem dX6_placeAt_86 : decode cX6_placeAt 86 = .ok (.aload_n 0, 1) := by decide +kernel
theorem dX6_placeAt_87 : decode cX6_placeAt 87 = .ok (.getfield 59, 3) := by decide +kernel
theorem dX6_placeAt_90 : decode cX6_placeAt 90 = .ok (.iload_n 3, 1) := by decide +kernel
theorem dX6_placeAt_91 : decode cX6_placeAt 91 = .ok (.iload 4, 2) := by decide +kernel
theorem dX6_placeAt_93 : decode cX6_placeAt 93 = .ok (.iadd, 1) := by decide +kernel
theorem dX6_placeAt_94 : decode cX6_placeAt 94 = .ok (.iaload, 1) := by decide +kernel
theorem dX6_placeAt_95 : decode cX6_placeAt 95 = .ok (.isub, 1) := by decide +kernel
theorem dX6_placeAt_96 : decode cX6_placeAt 96 = .ok (.istore 6, 2) := by decide +kernel
theorem dX6_placeAt_98 : decode cX6_placeAt 98 = .ok (.iload 4, 2) := by decide +kernel
theorem dX6_placeAt_100 : decode cX6_placeAt 100 = .ok (.iload 5, 2) := by decide +kernel
theorem dX6_placeAt_102 : decode cX6_placeAt 102 = .ok (.if_icmp .ne 15, 3) := by decide +kernel
theorem dX6_placeAt_105 : decode cX6_placeAt 105 = .ok (.aload_n 0, 1) := by decide +kernel
theorem dX6_placeAt_106 : decode cX6_placeAt 106 = .ok (.getfield 59, 3) := by decide +kernel
theorem dX6_placeAt_109 : decode cX6_placeAt 109 = .ok (.iload_n 3, 1) := by decide +kernel
theorem dX6_placeAt_110 : decode cX6_placeAt 110 = .ok (.iload 4, 2) := by decide +kernel
theorem dX6_placeAt_112 : decode cX6_placeAt 112 = .ok (.iadd, 1) := by decide +kernel
theorem dX6_placeAt_113 : decode cX6_placeAt 113 = .ok (.iaload, 1) := by decide +kernel
theorem dX6_placeAt_114 : decode cX6_placeAt 114 = .ok (.goto 26, 3) := by decide +kernel
theorem dX6_placeAt_117 : decode cX6_placeAt 117 = .ok (.aload_n 0, 1) := by decide +kernel
theorem dX6_placeAt_118 : decode cX6_placeAt 118 = .ok (.getfield 59, 3) := by decide +kernel
theorem dX6_placeAt_121 : decode cX6_placeAt 121 = .ok (.iload_n 3, 1) := by decide +kernel
theorem dX6_placeAt_122 : decode cX6_placeAt 122 = .ok (.iload 4, 2) := by decide +kernel
theorem dX6_placeAt_124 : decode cX6_placeAt 124 = .ok (.iadd, 1) := by decide +kernel
theorem dX6_placeAt_125 : decode cX6_placeAt 125 = .ok (.iaload, 1) := by decide +kernel
theorem dX6_placeAt_126 : decode cX6_placeAt 126 = .ok (.iload 6, 2) := by decide +kernel
theorem dX6_placeAt_128 : decode cX6_placeAt 128 = .ok (.iload_n 2, 1) := by decide +kernel
theorem dX6_placeAt_129 : decode cX6_placeAt 129 = .ok (.iload 4, 2) := by decide +kernel
theorem dX6_placeAt_131 : decode cX6_placeAt 131 = .ok (.isub, 1) := by decide +kernel
theorem dX6_placeAt_132 : decode cX6_placeAt 132 = .ok (.imul, 1) := by decide +kernel
theorem dX6_placeAt_133 : decode cX6_placeAt 133 = .ok (.iload 5, 2) := by decide +kernel
theorem dX6_placeAt_135 : decode cX6_placeAt 135 = .ok (.iload 4, 2) := by decide +kernel
theorem dX6_placeAt_137 : decode cX6_placeAt 137 = .ok (.isub, 1) := by decide +kernel
theorem dX6_placeAt_138 : decode cX6_placeAt 138 = .ok (.idiv, 1) := by decide +kernel
theorem dX6_placeAt_139 : decode cX6_placeAt 139 = .ok (.iadd, 1) := by decide +kernel
theorem dX6_placeAt_140 : decode cX6_placeAt 140 = .ok (.ireturn, 1) := by decide +kernel
theorem dX6_mouthAt_0 : decode cX6_mouthAt 0 = .ok (.aload_n 0, 1) := by decide +kernel
theorem dX6_mouthAt_1 : decode cX6_mouthAt 1 = .ok (.iload_n 1, 1) := by decide +kernel
theorem dX6_mouthAt_2 : decode cX6_mouthAt 2 = .ok (.iload_n 2, 1) := by decide +kernel
theorem dX6_mouthAt_3 : decode cX6_mouthAt 3 = .ok (.invokevirtual 123, 3) := by decide +kernel
theorem dX6_mouthAt_6 : decode cX6_mouthAt 6 = .ok (.ifCond .eq 9, 3) := by decide +kernel
theorem dX6_mouthAt_9 : decode cX6_mouthAt 9 = .ok (.iload_n 2, 1) := by decide +kernel
theorem dX6_mouthAt_10 : decode cX6_mouthAt 10 = .ok (.iconst 1, 1) := by decide +kernel
theorem dX6_mouthAt_11 : decode cX6_mouthAt 11 = .ok (.isub, 1) := by decide +kernel
theorem dX6_mouthAt_12 : decode cX6_mouthAt 12 = .ok (.goto 4, 3) := by decide +kernel
theorem dX6_mouthAt_15 : decode cX6_mouthAt 15 = .ok (.iload_n 2, 1) := by decide +kernel
theorem dX6_mouthAt_16 : decode cX6_mouthAt 16 = .ok (.istore_n 3, 1) := by decide +kernel
theorem dX6_mouthAt_17 : decode cX6_mouthAt 17 = .ok (.aload_n 0, 1) := by decide +kernel
theorem dX6_mouthAt_18 : decode cX6_mouthAt 18 = .ok (.getfield 40, 3) := by decide +kernel
theorem dX6_mouthAt_21 : decode cX6_mouthAt 21 = .ok (.iload_n 1, 1) := by decide +kernel
theorem dX6_mouthAt_22 : decode cX6_mouthAt 22 = .ok (.iaload, 1) := by decide +kernel
theorem dX6_mouthAt_23 : decode cX6_mouthAt 23 = .ok (.istore 4, 2) := by decide +kernel
theorem dX6_mouthAt_25 : decode cX6_mouthAt 25 = .ok (.iconst 0, 1) := by decide +kernel
theorem dX6_mouthAt_26 : decode cX6_mouthAt 26 = .ok (.istore 5, 2) := by decide +kernel
theorem dX6_mouthAt_28 : decode cX6_mouthAt 28 = .ok (.iload 4, 2) := by decide +kernel
theorem dX6_mouthAt_30 : decode cX6_mouthAt 30 = .ok (.iconst (-1), 1) := by decide +kernel
theorem dX6_mouthAt_31 : decode cX6_mouthAt 31 = .ok (.if_icmp .eq 68, 3) := by decide +kernel
theorem dX6_mouthAt_34 : decode cX6_mouthAt 34 = .ok (.iload 5, 2) := by decide +kernel
theorem dX6_mouthAt_36 : decode cX6_mouthAt 36 = .ok (.aload_n 0, 1) := by decide +kernel
theorem dX6_mouthAt_37 : decode cX6_mouthAt 37 = .ok (.getfield 22, 3) := by decide +kernel
theorem dX6_mouthAt_40 : decode cX6_mouthAt 40 = .ok (.iload 4, 2) := by decide +kernel
theorem dX6_mouthAt_42 : decode cX6_mouthAt 42 = .ok (.iaload, 1) := by decide +kernel
theorem dX6_mouthAt_43 : decode cX6_mouthAt 43 = .ok (.if_icmp .ge 56, 3) := by decide +kernel
theorem dX6_mouthAt_46 : decode cX6_mouthAt 46 = .ok (.iload_n 3, 1) := by decide +kernel
theorem dX6_mouthAt_47 : decode cX6_mouthAt 47 = .ok (.aload_n 0, 1) := by decide +kernel
theorem dX6_mouthAt_48 : decode cX6_mouthAt 48 = .ok (.getfield 28, 3) := by decide +kernel
theorem dX6_mouthAt_51 : decode cX6_mouthAt 51 = .ok (.bipush 12, 2) := by decide +kernel
theorem dX6_mouthAt_53 : decode cX6_mouthAt 53 = .ok (.iload 4, 2) := by decide +kernel
theorem dX6_mouthAt_55 : decode cX6_mouthAt 55 = .ok (.imul, 1) := by decide +kernel
theorem dX6_mouthAt_56 : decode cX6_mouthAt 56 = .ok (.iload 5, 2) := by decide +kernel
theorem dX6_mouthAt_58 : decode cX6_mouthAt 58 = .ok (.iadd, 1) := by decide +kernel
theorem dX6_mouthAt_59 : decode cX6_mouthAt 59 = .ok (.iaload, 1) := by decide +kernel
theorem dX6_mouthAt_60 : decode cX6_mouthAt 60 = .ok (.if_icmp .ge 17, 3) := by decide +kernel
theorem dX6_mouthAt_63 : decode cX6_mouthAt 63 = .ok (.aload_n 0, 1) := by decide +kernel
theorem dX6_mouthAt_64 : decode cX6_mouthAt 64 = .ok (.getfield 25, 3) := by decide +kernel
theorem dX6_mouthAt_67 : decode cX6_mouthAt 67 = .ok (.bipush 12, 2) := by decide +kernel
theorem dX6_mouthAt_69 : decode cX6_mouthAt 69 = .ok (.iload 4, 2) := by decide +kernel
theorem dX6_mouthAt_71 : decode cX6_mouthAt 71 = .ok (.imul, 1) := by decide +kernel
theorem dX6_mouthAt_72 : decode cX6_mouthAt 72 = .ok (.iload 5, 2) := by decide +kernel
theorem dX6_mouthAt_74 : decode cX6_mouthAt 74 = .ok (.iadd, 1) := by decide +kernel
theorem dX6_mouthAt_75 : decode cX6_mouthAt 75 = .ok (.iaload, 1) := by decide +kernel
theorem dX6_mouthAt_76 : decode cX6_mouthAt 76 = .ok (.ireturn, 1) := by decide +kernel
theorem dX6_mouthAt_77 : decode cX6_mouthAt 77 = .ok (.iload_n 3, 1) := by decide +kernel
theorem dX6_mouthAt_78 : decode cX6_mouthAt 78 = .ok (.aload_n 0, 1) := by decide +kernel
theorem dX6_mouthAt_79 : decode cX6_mouthAt 79 = .ok (.getfield 28, 3) := by decide +kernel
theorem dX6_mouthAt_82 : decode cX6_mouthAt 82 = .ok (.bipush 12, 2) := by decide +kernel
theorem dX6_mouthAt_84 : decode cX6_mouthAt 84 = .ok (.iload 4, 2) := by decide +kernel
theorem dX6_mouthAt_86 : decode cX6_mouthAt 86 = .ok (.imul, 1) := by decide +kernel
theorem dX6_mouthAt_87 : decode cX6_mouthAt 87 = .ok (.iload 5, 2) := by decide +kernel
theorem dX6_mouthAt_89 : decode cX6_mouthAt 89 = .ok (.iadd, 1) := by decide +kernel
theorem dX6_mouthAt_90 : decode cX6_mouthAt 90 = .ok (.iaload, 1) := by decide +kernel
theorem dX6_mouthAt_91 : decode cX6_mouthAt 91 = .ok (.isub, 1) := by decide +kernel
theorem dX6_mouthAt_92 : decode cX6_mouthAt 92 = .ok (.istore_n 3, 1) := by decide +kernel
theorem dX6_mouthAt_93 : decode cX6_mouthAt 93 = .ok (.iinc 5 1, 3) := by decide +kernel
theorem dX6_mouthAt_96 : decode cX6_mouthAt 96 = .ok (.goto (-68), 3) := by decide +kernel
theorem dX6_mouthAt_99 : decode cX6_mouthAt 99 = .ok (.iconst (-1), 1) := by decide +kernel
theorem dX6_mouthAt_100 : decode cX6_mouthAt 100 = .ok (.ireturn, 1) := by decide +kernel
theorem dX6_isJointOf_0 : decode cX6_isJointOf 0 = .ok (.aload_n 0, 1) := by decide +kernel
theorem dX6_isJointOf_1 : decode cX6_isJointOf 1 = .ok (.iload_n 1, 1) := by decide +kernel
theorem dX6_isJointOf_2 : decode cX6_isJointOf 2 = .ok (.invokevirtual 105, 3) := by decide +kernel
theorem dX6_isJointOf_5 : decode cX6_isJointOf 5 = .ok (.ifCond .eq 21, 3) := by decide +kernel
theorem dX6_isJointOf_8 : decode cX6_isJointOf 8 = .ok (.aload_n 0, 1) := by decide +kernel
theorem dX6_isJointOf_9 : decode cX6_isJointOf 9 = .ok (.aload_n 0, 1) := by decide +kernel
theorem dX6_isJointOf_10 : decode cX6_isJointOf 10 = .ok (.getfield 31, 3) := by decide +kernel
theorem dX6_isJointOf_13 : decode cX6_isJointOf 13 = .ok (.iload_n 1, 1) := by decide +kernel
theorem dX6_isJointOf_14 : decode cX6_isJointOf 14 = .ok (.iaload, 1) := by decide +kernel
theorem dX6_isJointOf_15 : decode cX6_isJointOf 15 = .ok (.iload_n 2, 1) := by decide +kernel
theorem dX6_isJointOf_16 : decode cX6_isJointOf 16 = .ok (.invokevirtual 135, 3) := by decide +kernel
theorem dX6_isJointOf_19 : decode cX6_isJointOf 19 = .ok (.ifCond .eq 7, 3) := by decide +kernel
theorem dX6_isJointOf_22 : decode cX6_isJointOf 22 = .ok (.iconst 1, 1) := by decide +kernel
theorem dX6_isJointOf_23 : decode cX6_isJointOf 23 = .ok (.goto 4, 3) := by decide +kernel
theorem dX6_isJointOf_26 : decode cX6_isJointOf 26 = .ok (.iconst 0, 1) := by decide +kernel
theorem dX6_isJointOf_27 : decode cX6_isJointOf 27 = .ok (.ireturn, 1) := by decide +kernel
theorem dX6_key_0 : decode cX6_key 0 = .ok (.aload_n 0, 1) := by decide +kernel
theorem dX6_key_1 : decode cX6_key 1 = .ok (.iload_n 1, 1) := by decide +kernel
theorem dX6_key_2 : decode cX6_key 2 = .ok (.iload_n 2, 1) := by decide +kernel
theorem dX6_key_3 : decode cX6_key 3 = .ok (.invokevirtual 138, 3) := by decide +kernel
theorem dX6_key_6 : decode cX6_key 6 = .ok (.ifCond .eq 16, 3) := by decide +kernel
theorem dX6_key_9 : decode cX6_key 9 = .ok (.aload_n 0, 1) := by decide +kernel
theorem dX6_key_10 : decode cX6_key 10 = .ok (.iload_n 1, 1) := by decide +kernel
theorem dX6_key_11 : decode cX6_key 11 = .ok (.iload_n 3, 1) := by decide +kernel
theorem dX6_key_12 : decode cX6_key 12 = .ok (.invokevirtual 141, 3) := by decide +kernel
theorem dX6_key_15 : decode cX6_key 15 = .ok (.ifCond .eq 7, 3) := by decide +kernel
theorem dX6_key_18 : decode cX6_key 18 = .ok (.iconst 1, 1) := by decide +kernel
theorem dX6_key_19 : decode cX6_key 19 = .ok (.goto 4, 3) := by decide +kernel
theorem dX6_key_22 : decode cX6_key 22 = .ok (.iconst 0, 1) := by decide +kernel
theorem dX6_key_23 : decode cX6_key 23 = .ok (.istore 5, 2) := by decide +kernel
theorem dX6_key_25 : decode cX6_key 25 = .ok (.iload 4, 2) := by decide +kernel
theorem dX6_key_27 : decode cX6_key 27 = .ok (.iconst 0, 1) := by decide +kernel
theorem dX6_key_28 : decode cX6_key 28 = .ok (.sipush 359, 3) := by decide +kernel
theorem dX6_key_31 : decode cX6_key 31 = .ok (.invokestatic 91, 3) := by decide +kernel
theorem dX6_key_34 : decode cX6_key 34 = .ok (.istore 6, 2) := by decide +kernel
theorem dX6_key_36 : decode cX6_key 36 = .ok (.aload_n 0, 1) := by decide +kernel
theorem dX6_key_37 : decode cX6_key 37 = .ok (.iload 5, 2) := by decide +kernel
theorem dX6_key_39 : decode cX6_key 39 = .ok (.ifCond .ne 7, 3) := by decide +kernel
theorem dX6_key_42 : decode cX6_key 42 = .ok (.iconst 1, 1) := by decide +kernel
theorem dX6_key_43 : decode cX6_key 43 = .ok (.goto 36, 3) := by decide +kernel
theorem dX6_key_46 : decode cX6_key 46 = .ok (.iload 6, 2) := by decide +kernel
theorem dX6_key_48 : decode cX6_key 48 = .ok (.ifCond .ne 7, 3) := by decide +kernel
theorem dX6_key_51 : decode cX6_key 51 = .ok (.iconst 2, 1) := by decide +kernel
theorem dX6_key_52 : decode cX6_key 52 = .ok (.goto 27, 3) := by decide +kernel
theorem dX6_key_55 : decode cX6_key 55 = .ok (.iload_n 3, 1) := by decide +kernel
theorem dX6_key_56 : decode cX6_key 56 = .ok (.aload_n 0, 1) := by decide +kernel
theorem dX6_key_57 : decode cX6_key 57 = .ok (.getfield 46, 3) := by decide +kernel
theorem dX6_key_60 : decode cX6_key 60 = .ok (.iload_n 1, 1) := by decide +kernel
theorem dX6_key_61 : decode cX6_key 61 = .ok (.iaload, 1) := by decide +kernel
theorem dX6_key_62 : decode cX6_key 62 = .ok (.if_icmp .lt 12, 3) := by decide +kernel
theorem dX6_key_65 : decode cX6_key 65 = .ok (.aload_n 0, 1) := by decide +kernel
theorem dX6_key_66 : decode cX6_key 66 = .ok (.iload_n 1, 1) := by decide +kernel
theorem dX6_key_67 : decode cX6_key 67 = .ok (.iload_n 3, 1) := by decide +kernel
theorem dX6_key_68 : decode cX6_key 68 = .ok (.invokevirtual 123, 3) := by decide +kernel
theorem dX6_key_71 : decode cX6_key 71 = .ok (.ifCond .eq 7, 3) := by decide +kernel
theorem dX6_key_74 : decode cX6_key 74 = .ok (.iconst 3, 1) := by decide +kernel
theorem dX6_key_75 : decode cX6_key 75 = .ok (.goto 4, 3) := by decide +kernel
theorem dX6_key_78 : decode cX6_key 78 = .ok (.iconst 0, 1) := by decide +kernel
theorem dX6_key_79 : decode cX6_key 79 = .ok (.invokevirtual 108, 3) := by decide +kernel
theorem dX6_key_82 : decode cX6_key 82 = .ok (.ifCond .eq 5, 3) := by decide +kernel
theorem dX6_key_85 : decode cX6_key 85 = .ok (.iconst 0, 1) := by decide +kernel
theorem dX6_key_86 : decode cX6_key 86 = .ok (.ireturn, 1) := by decide +kernel
theorem dX6_key_87 : decode cX6_key 87 = .ok (.aload_n 0, 1) := by decide +kernel
theorem dX6_key_88 : decode cX6_key 88 = .ok (.iload_n 1, 1) := by decide +kernel
theorem dX6_key_89 : decode cX6_key 89 = .ok (.iload_n 2, 1) := by decide +kernel
theorem dX6_key_90 : decode cX6_key 90 = .ok (.iload_n 3, 1) := by decide +kernel
theorem dX6_key_91 : decode cX6_key 91 = .ok (.invokevirtual 144, 3) := by decide +kernel
theorem dX6_key_94 : decode cX6_key 94 = .ok (.istore 7, 2) := by decide +kernel
theorem dX6_key_96 : decode cX6_key 96 = .ok (.aload_n 0, 1) := by decide +kernel
theorem dX6_key_97 : decode cX6_key 97 = .ok (.getfield 56, 3) := by decide +kernel
theorem dX6_key_100 : decode cX6_key 100 = .ok (.aload_n 0, 1) := by decide +kernel
theorem dX6_key_101 : decode cX6_key 101 = .ok (.iload_n 1, 1) := by decide +kernel
theorem dX6_key_102 : decode cX6_key 102 = .ok (.iload_n 2, 1) := by decide +kernel
theorem dX6_key_103 : decode cX6_key 103 = .ok (.invokevirtual 127, 3) := by decide +kernel
theorem dX6_key_106 : decode cX6_key 106 = .ok (.iload_n 3, 1) := by decide +kernel
theorem dX6_key_107 : decode cX6_key 107 = .ok (.iadd, 1) := by decide +kernel
theorem dX6_key_108 : decode cX6_key 108 = .ok (.iload 4, 2) := by decide +kernel
theorem dX6_key_110 : decode cX6_key 110 = .ok (.iastore, 1) := by decide +kernel
theorem dX6_key_111 : decode cX6_key 111 = .ok (.iload 7, 2) := by decide +kernel
theorem dX6_key_113 : decode cX6_key 113 = .ok (.ireturn, 1) := by decide +kernel
theorem dX6_camera_0 : decode cX6_camera 0 = .ok (.aload_n 0, 1) := by decide +kernel
theorem dX6_camera_1 : decode cX6_camera 1 = .ok (.aload_n 0, 1) := by decide +kernel
theorem dX6_camera_2 : decode cX6_camera 2 = .ok (.iload_n 1, 1) := by decide +kernel
theorem dX6_camera_3 : decode cX6_camera 3 = .ok (.iload_n 2, 1) := by decide +kernel
theorem dX6_camera_4 : decode cX6_camera 4 = .ok (.invokevirtual 141, 3) := by decide +kernel
theorem dX6_camera_7 : decode cX6_camera 7 = .ok (.ifCond .ne 7, 3) := by decide +kernel
theorem dX6_camera_10 : decode cX6_camera 10 = .ok (.iconst 1, 1) := by decide +kernel
theorem dX6_camera_11 : decode cX6_camera 11 = .ok (.goto 35, 3) := by decide +kernel
theorem dX6_camera_14 : decode cX6_camera 14 = .ok (.iload_n 3, 1) := by decide +kernel
theorem dX6_camera_15 : decode cX6_camera 15 = .ok (.sipush (-999), 3) := by decide +kernel
theorem dX6_camera_18 : decode cX6_camera 18 = .ok (.sipush 999, 3) := by decide +kernel
theorem dX6_camera_21 : decode cX6_camera 21 = .ok (.invokestatic 91, 3) := by decide +kernel
theorem dX6_camera_24 : decode cX6_camera 24 = .ok (.ifCond .ne 7, 3) := by decide +kernel
theorem dX6_camera_27 : decode cX6_camera 27 = .ok (.iconst 2, 1) := by decide +kernel
theorem dX6_camera_28 : decode cX6_camera 28 = .ok (.goto 18, 3) := by decide +kernel
theorem dX6_camera_31 : decode cX6_camera 31 = .ok (.iload_n 2, 1) := by decide +kernel
theorem dX6_camera_32 : decode cX6_camera 32 = .ok (.aload_n 0, 1) := by decide +kernel
theorem dX6_camera_33 : decode cX6_camera 33 = .ok (.getfield 46, 3) := by decide +kernel
theorem dX6_camera_36 : decode cX6_camera 36 = .ok (.iload_n 1, 1) := by decide +kernel
theorem dX6_camera_37 : decode cX6_camera 37 = .ok (.iaload, 1) := by decide +kernel
theorem dX6_camera_38 : decode cX6_camera 38 = .ok (.if_icmp .ge 7, 3) := by decide +kernel
theorem dX6_camera_41 : decode cX6_camera 41 = .ok (.iconst 3, 1) := by decide +kernel
theorem dX6_camera_42 : decode cX6_camera 42 = .ok (.goto 4, 3) := by decide +kernel
theorem dX6_camera_45 : decode cX6_camera 45 = .ok (.iconst 0, 1) := by decide +kernel
theorem dX6_camera_46 : decode cX6_camera 46 = .ok (.invokevirtual 108, 3) := by decide +kernel
theorem dX6_camera_49 : decode cX6_camera 49 = .ok (.ifCond .eq 5, 3) := by decide +kernel
theorem dX6_camera_52 : decode cX6_camera 52 = .ok (.iconst 0, 1) := by decide +kernel
theorem dX6_camera_53 : decode cX6_camera 53 = .ok (.ireturn, 1) := by decide +kernel
theorem dX6_camera_54 : decode cX6_camera 54 = .ok (.aload_n 0, 1) := by decide +kernel
theorem dX6_camera_55 : decode cX6_camera 55 = .ok (.iload_n 1, 1) := by decide +kernel
theorem dX6_camera_56 : decode cX6_camera 56 = .ok (.iload_n 2, 1) := by decide +kernel
theorem dX6_camera_57 : decode cX6_camera 57 = .ok (.invokevirtual 148, 3) := by decide +kernel
theorem dX6_camera_60 : decode cX6_camera 60 = .ok (.istore 4, 2) := by decide +kernel
theorem dX6_camera_62 : decode cX6_camera 62 = .ok (.aload_n 0, 1) := by decide +kernel
theorem dX6_camera_63 : decode cX6_camera 63 = .ok (.getfield 59, 3) := by decide +kernel
theorem dX6_camera_66 : decode cX6_camera 66 = .ok (.bipush 48, 2) := by decide +kernel
theorem dX6_camera_68 : decode cX6_camera 68 = .ok (.iload_n 1, 1) := by decide +kernel
theorem dX6_camera_69 : decode cX6_camera 69 = .ok (.imul, 1) := by decide +kernel
theorem dX6_camera_70 : decode cX6_camera 70 = .ok (.iload_n 2, 1) := by decide +kernel
theorem dX6_camera_71 : decode cX6_camera 71 = .ok (.iadd, 1) := by decide +kernel
theorem dX6_camera_72 : decode cX6_camera 72 = .ok (.iload_n 3, 1) := by decide +kernel
theorem dX6_camera_73 : decode cX6_camera 73 = .ok (.iastore, 1) := by decide +kernel
theorem dX6_camera_74 : decode cX6_camera 74 = .ok (.iload 4, 2) := by decide +kernel
theorem dX6_camera_76 : decode cX6_camera 76 = .ok (.ireturn, 1) := by decide +kernel
theorem dX6_play_0 : decode cX6_play 0 = .ok (.aload_n 0, 1) := by decide +kernel
theorem dX6_play_1 : decode cX6_play 1 = .ok (.iload_n 1, 1) := by decide +kernel
theorem dX6_play_2 : decode cX6_play 2 = .ok (.iconst 0, 1) := by decide +kernel
theorem dX6_play_3 : decode cX6_play 3 = .ok (.bipush 20, 2) := by decide +kernel
theorem dX6_play_5 : decode cX6_play 5 = .ok (.invokestatic 91, 3) := by decide +kernel
theorem dX6_play_8 : decode cX6_play 8 = .ok (.ifCond .eq 7, 3) := by decide +kernel
theorem dX6_play_11 : decode cX6_play 11 = .ok (.iconst 0, 1) := by decide +kernel
theorem dX6_play_12 : decode cX6_play 12 = .ok (.goto 4, 3) := by decide +kernel
theorem dX6_play_15 : decode cX6_play 15 = .ok (.iconst 1, 1) := by decide +kernel
theorem dX6_play_16 : decode cX6_play 16 = .ok (.invokevirtual 108, 3) := by decide +kernel
theorem dX6_play_19 : decode cX6_play 19 = .ok (.ifCond .eq 5, 3) := by decide +kernel
theorem dX6_play_22 : decode cX6_play 22 = .ok (.iconst 0, 1) := by decide +kernel
theorem dX6_play_23 : decode cX6_play 23 = .ok (.ireturn, 1) := by decide +kernel
theorem dX6_play_24 : decode cX6_play 24 = .ok (.aload_n 0, 1) := by decide +kernel
theorem dX6_play_25 : decode cX6_play 25 = .ok (.getfield 151, 3) := by decide +kernel
theorem dX6_play_28 : decode cX6_play 28 = .ok (.istore_n 2, 1) := by decide +kernel
theorem dX6_play_29 : decode cX6_play 29 = .ok (.aload_n 0, 1) := by decide +kernel
theorem dX6_play_30 : decode cX6_play 30 = .ok (.iload_n 1, 1) := by decide +kernel
theorem dX6_play_31 : decode cX6_play 31 = .ok (.putfield 151, 3) := by decide +kernel
theorem dX6_play_34 : decode cX6_play 34 = .ok (.iload_n 2, 1) := by decide +kernel
theorem dX6_play_35 : decode cX6_play 35 = .ok (.ireturn, 1) := by decide +kernel
theorem dX6_lightNow_0 : decode cX6_lightNow 0 = .ok (.sipush 1000, 3) := by decide +kernel
theorem dX6_lightNow_3 : decode cX6_lightNow 3 = .ok (.aload_n 0, 1) := by decide +kernel
theorem dX6_lightNow_4 : decode cX6_lightNow 4 = .ok (.getfield 154, 3) := by decide +kernel
theorem dX6_lightNow_7 : decode cX6_lightNow 7 = .ok (.iconst 3, 1) := by decide +kernel
theorem dX6_lightNow_8 : decode cX6_lightNow 8 = .ok (.idiv, 1) := by decide +kernel
theorem dX6_lightNow_9 : decode cX6_lightNow 9 = .ok (.isub, 1) := by decide +kernel
theorem dX6_lightNow_10 : decode cX6_lightNow 10 = .ok (.istore_n 1, 1) := by decide +kernel
theorem dX6_lightNow_11 : decode cX6_lightNow 11 = .ok (.iload_n 1, 1) := by decide +kernel
theorem dX6_lightNow_12 : decode cX6_lightNow 12 = .ok (.sipush 500, 3) := by decide +kernel
theorem dX6_lightNow_15 : decode cX6_lightNow 15 = .ok (.if_icmp .ge 9, 3) := by decide +kernel
theorem dX6_lightNow_18 : decode cX6_lightNow 18 = .ok (.sipush 500, 3) := by decide +kernel
theorem dX6_lightNow_21 : decode cX6_lightNow 21 = .ok (.goto 4, 3) := by decide +kernel
theorem dX6_lightNow_24 : decode cX6_lightNow 24 = .ok (.iload_n 1, 1) := by decide +kernel
theorem dX6_lightNow_25 : decode cX6_lightNow 25 = .ok (.ireturn, 1) := by decide +kernel
theorem dX6_wanted_0 : decode cX6_wanted 0 = .ok (.aload_n 0, 1) := by decide +kernel
theorem dX6_wanted_1 : decode cX6_wanted 1 = .ok (.getfield 46, 3) := by decide +kernel
theorem dX6_wanted_4 : decode cX6_wanted 4 = .ok (.iload_n 1, 1) := by decide +kernel
theorem dX6_wanted_5 : decode cX6_wanted 5 = .ok (.iaload, 1) := by decide +kernel
theorem dX6_wanted_6 : decode cX6_wanted 6 = .ok (.istore_n 2, 1) := by decide +kernel
theorem dX6_wanted_7 : decode cX6_wanted 7 = .ok (.aload_n 0, 1) := by decide +kernel
theorem dX6_wanted_8 : decode cX6_wanted 8 = .ok (.iload_n 1, 1) := by decide +kernel
theorem dX6_wanted_9 : decode cX6_wanted 9 = .ok (.iload_n 2, 1) := by decide +kernel
theorem dX6_wanted_10 : decode cX6_wanted 10 = .ok (.invokevirtual 157, 3) := by decide +kernel
theorem dX6_wanted_13 : decode cX6_wanted 13 = .ok (.istore_n 3, 1) := by decide +kernel
theorem dX6_wanted_14 : decode cX6_wanted 14 = .ok (.aload_n 0, 1) := by decide +kernel
theorem dX6_wanted_15 : decode cX6_wanted 15 = .ok (.iload_n 1, 1) := by decide +kernel
theorem dX6_wanted_16 : decode cX6_wanted 16 = .ok (.iload_n 2, 1) := by decide +kernel
theorem dX6_wanted_17 : decode cX6_wanted 17 = .ok (.invokevirtual 123, 3) := by decide +kernel
theorem dX6_wanted_20 : decode cX6_wanted 20 = .ok (.ifCond .ne 24, 3) := by decide +kernel
theorem dX6_wanted_23 : decode cX6_wanted 23 = .ok (.iload_n 2, 1) := by decide +kernel
theorem dX6_wanted_24 : decode cX6_wanted 24 = .ok (.ifCond .le 24, 3) := by decide +kernel
theorem dX6_wanted_27 : decode cX6_wanted 27 = .ok (.iload_n 3, 1) := by decide +kernel
theorem dX6_wanted_28 : decode cX6_wanted 28 = .ok (.aload_n 0, 1) := by decide +kernel
theorem dX6_wanted_29 : decode cX6_wanted 29 = .ok (.getfield 65, 3) := by decide +kernel
theorem dX6_wanted_32 : decode cX6_wanted 32 = .ok (.bipush 48, 2) := by decide +kernel
theorem dX6_wanted_34 : decode cX6_wanted 34 = .ok (.iload_n 1, 1) := by decide +kernel
theorem dX6_wanted_35 : decode cX6_wanted 35 = .ok (.imul, 1) := by decide +kernel
theorem dX6_wanted_36 : decode cX6_wanted 36 = .ok (.iload_n 2, 1) := by decide +kernel
theorem dX6_wanted_37 : decode cX6_wanted 37 = .ok (.iadd, 1) := by decide +kernel
theorem dX6_wanted_38 : decode cX6_wanted 38 = .ok (.iconst 1, 1) := by decide +kernel
theorem dX6_wanted_39 : decode cX6_wanted 39 = .ok (.isub, 1) := by decide +kernel
theorem dX6_wanted_40 : decode cX6_wanted 40 = .ok (.iaload, 1) := by decide +kernel
theorem dX6_wanted_41 : decode cX6_wanted 41 = .ok (.if_icmp .ne 7, 3) := by decide +kernel
theorem dX6_wanted_44 : decode cX6_wanted 44 = .ok (.iconst (-1), 1) := by decide +kernel
theorem dX6_wanted_45 : decode cX6_wanted 45 = .ok (.goto 4, 3) := by decide +kernel
theorem dX6_wanted_48 : decode cX6_wanted 48 = .ok (.iload_n 3, 1) := by decide +kernel
theorem dX6_wanted_49 : decode cX6_wanted 49 = .ok (.ireturn, 1) := by decide +kernel
theorem dX6_isBroken_0 : decode cX6_isBroken 0 = .ok (.iconst 0, 1) := by decide +kernel
theorem dX6_isBroken_1 : decode cX6_isBroken 1 = .ok (.istore_n 2, 1) := by decide +kernel
theorem dX6_isBroken_2 : decode cX6_isBroken 2 = .ok (.iconst 0, 1) := by decide +kernel
theorem dX6_isBroken_3 : decode cX6_isBroken 3 = .ok (.istore_n 3, 1) := by decide +kernel
theorem dX6_isBroken_4 : decode cX6_isBroken 4 = .ok (.iload_n 3, 1) := by decide +kernel
theorem dX6_isBroken_5 : decode cX6_isBroken 5 = .ok (.aload_n 0, 1) := by decide +kernel
theorem dX6_isBroken_6 : decode cX6_isBroken 6 = .ok (.getfield 7, 3) := by decide +kernel
theorem dX6_isBroken_9 : decode cX6_isBroken 9 = .ok (.iload_n 1, 1) := by decide +kernel
theorem dX6_isBroken_10 : decode cX6_isBroken 10 = .ok (.iaload, 1) := by decide +kernel
theorem dX6_isBroken_11 : decode cX6_isBroken 11 = .ok (.if_icmp .ge 36, 3) := by decide +kernel
theorem dX6_isBroken_14 : decode cX6_isBroken 14 = .ok (.iload_n 2, 1) := by decide +kernel
theorem dX6_isBroken_15 : decode cX6_isBroken 15 = .ok (.ifCond .ne 20, 3) := by decide +kernel
theorem dX6_isBroken_18 : decode cX6_isBroken 18 = .ok (.aload_n 0, 1) := by decide +kernel
theorem dX6_isBroken_19 : decode cX6_isBroken 19 = .ok (.getfield 16, 3) := by decide +kernel
theorem dX6_isBroken_22 : decode cX6_isBroken 22 = .ok (.bipush 6, 2) := by decide +kernel
theorem dX6_isBroken_24 : decode cX6_isBroken 24 = .ok (.iload_n 1, 1) := by decide +kernel
theorem dX6_isBroken_25 : decode cX6_isBroken 25 = .ok (.imul, 1) := by decide +kernel
theorem dX6_isBroken_26 : decode cX6_isBroken 26 = .ok (.iload_n 3, 1) := by decide +kernel
theorem dX6_isBroken_27 : decode cX6_isBroken 27 = .ok (.iadd, 1) := by decide +kernel
theorem dX6_isBroken_28 : decode cX6_isBroken 28 = .ok (.iaload, 1) := by decide +kernel
theorem dX6_isBroken_29 : decode cX6_isBroken 29 = .ok (.sipush 1000, 3) := by decide +kernel
theorem dX6_isBroken_32 : decode cX6_isBroken 32 = .ok (.if_icmp .lt 7, 3) := by decide +kernel
theorem dX6_isBroken_35 : decode cX6_isBroken 35 = .ok (.iconst 1, 1) := by decide +kernel
theorem dX6_isBroken_36 : decode cX6_isBroken 36 = .ok (.goto 4, 3) := by decide +kernel
theorem dX6_isBroken_39 : decode cX6_isBroken 39 = .ok (.iconst 0, 1) := by decide +kernel
theorem dX6_isBroken_40 : decode cX6_isBroken 40 = .ok (.istore_n 2, 1) := by decide +kernel
theorem dX6_isBroken_41 : decode cX6_isBroken 41 = .ok (.iinc 3 1, 3) := by decide +kernel
theorem dX6_isBroken_44 : decode cX6_isBroken 44 = .ok (.goto (-40), 3) := by decide +kernel
theorem dX6_isBroken_47 : decode cX6_isBroken 47 = .ok (.iload_n 2, 1) := by decide +kernel
theorem dX6_isBroken_48 : decode cX6_isBroken 48 = .ok (.ireturn, 1) := by decide +kernel
theorem dX6_reason_0 : decode cX6_reason 0 = .ok (.aload_n 0, 1) := by decide +kernel
theorem dX6_reason_1 : decode cX6_reason 1 = .ok (.iload_n 1, 1) := by decide +kernel
theorem dX6_reason_2 : decode cX6_reason 2 = .ok (.invokevirtual 117, 3) := by decide +kernel
theorem dX6_reason_5 : decode cX6_reason 5 = .ok (.ifCond .eq 6, 3) := by decide +kernel
theorem dX6_reason_8 : decode cX6_reason 8 = .ok (.bipush 7, 2) := by decide +kernel
theorem dX6_reason_10 : decode cX6_reason 10 = .ok (.ireturn, 1) := by decide +kernel
theorem dX6_reason_11 : decode cX6_reason 11 = .ok (.aload_n 0, 1) := by decide +kernel
theorem dX6_reason_12 : decode cX6_reason 12 = .ok (.getfield 43, 3) := by decide +kernel
theorem dX6_reason_15 : decode cX6_reason 15 = .ok (.iload_n 1, 1) := by decide +kernel
theorem dX6_reason_16 : decode cX6_reason 16 = .ok (.iaload, 1) := by decide +kernel
theorem dX6_reason_17 : decode cX6_reason 17 = .ok (.iconst (-1), 1) := by decide +kernel
theorem dX6_reason_18 : decode cX6_reason 18 = .ok (.if_icmp .eq 17, 3) := by decide +kernel
theorem dX6_reason_21 : decode cX6_reason 21 = .ok (.aload_n 0, 1) := by decide +kernel
theorem dX6_reason_22 : decode cX6_reason 22 = .ok (.getfield 52, 3) := by decide +kernel
theorem dX6_reason_25 : decode cX6_reason 25 = .ok (.aload_n 0, 1) := by decide +kernel
theorem dX6_reason_26 : decode cX6_reason 26 = .ok (.getfield 43, 3) := by decide +kernel
theorem dX6_reason_29 : decode cX6_reason 29 = .ok (.iload_n 1, 1) := by decide +kernel
theorem dX6_reason_30 : decode cX6_reason 30 = .ok (.iaload, 1) := by decide +kernel
theorem dX6_reason_31 : decode cX6_reason 31 = .ok (.baload, 1) := by decide +kernel
theorem dX6_reason_32 : decode cX6_reason 32 = .ok (.ifCond .eq 19, 3) := by decide +kernel
theorem dX6_reason_35 : decode cX6_reason 35 = .ok (.aload_n 0, 1) := by decide +kernel
theorem dX6_reason_36 : decode cX6_reason 36 = .ok (.getfield 43, 3) := by decide +kernel
theorem dX6_reason_39 : decode cX6_reason 39 = .ok (.iload_n 1, 1) := by decide +kernel
theorem dX6_reason_40 : decode cX6_reason 40 = .ok (.iaload, 1) := by decide +kernel
theorem dX6_reason_41 : decode cX6_reason 41 = .ok (.iconst (-1), 1) := by decide +kernel
theorem dX6_reason_42 : decode cX6_reason 42 = .ok (.if_icmp .ne 7, 3) := by decide +kernel
theorem dX6_reason_45 : decode cX6_reason 45 = .ok (.iconst 1, 1) := by decide +kernel
theorem dX6_reason_46 : decode cX6_reason 46 = .ok (.goto 4, 3) := by decide +kernel
theorem dX6_reason_49 : decode cX6_reason 49 = .ok (.iconst 2, 1) := by decide +kernel
theorem dX6_reason_50 : decode cX6_reason 50 = .ok (.ireturn, 1) := by decide +kernel
theorem dX6_reason_51 : decode cX6_reason 51 = .ok (.iconst 0, 1) := by decide +kernel
theorem dX6_reason_52 : decode cX6_reason 52 = .ok (.istore_n 2, 1) := by decide +kernel
theorem dX6_reason_53 : decode cX6_reason 53 = .ok (.iconst 0, 1) := by decide +kernel
theorem dX6_reason_54 : decode cX6_reason 54 = .ok (.istore_n 3, 1) := by decide +kernel
theorem dX6_reason_55 : decode cX6_reason 55 = .ok (.iconst 0, 1) := by decide +kernel
theorem dX6_reason_56 : decode cX6_reason 56 = .ok (.istore 4, 2) := by decide +kernel
theorem dX6_reason_58 : decode cX6_reason 58 = .ok (.iload 4, 2) := by decide +kernel
theorem dX6_reason_60 : decode cX6_reason 60 = .ok (.aload_n 0, 1) := by decide +kernel
theorem dX6_reason_61 : decode cX6_reason 61 = .ok (.getfield 102, 3) := by decide +kernel
theorem dX6_reason_64 : decode cX6_reason 64 = .ok (.if_icmp .ge 91, 3) := by decide +kernel
theorem dX6_reason_67 : decode cX6_reason 67 = .ok (.iload_n 2, 1) := by decide +kernel
theorem dX6_reason_68 : decode cX6_reason 68 = .ok (.ifCond .ne 34, 3) := by decide +kernel
theorem dX6_reason_71 : decode cX6_reason 71 = .ok (.iload 4, 2) := by decide +kernel
theorem dX6_reason_73 : decode cX6_reason 73 = .ok (.iload_n 1, 1) := by decide +kernel
theorem dX6_reason_74 : decode cX6_reason 74 = .ok (.if_icmp .eq 32, 3) := by decide +kernel
theorem dX6_reason_77 : decode cX6_reason 77 = .ok (.aload_n 0, 1) := by decide +kernel
theorem dX6_reason_78 : decode cX6_reason 78 = .ok (.iload 4, 2) := by decide +kernel
theorem dX6_reason_80 : decode cX6_reason 80 = .ok (.invokevirtual 160, 3) := by decide +kernel
theorem dX6_reason_83 : decode cX6_reason 83 = .ok (.ifCond .eq 23, 3) := by decide +kernel
theorem dX6_reason_86 : decode cX6_reason 86 = .ok (.aload_n 0, 1) := by decide +kernel
theorem dX6_reason_87 : decode cX6_reason 87 = .ok (.getfield 43, 3) := by decide +kernel
theorem dX6_reason_90 : decode cX6_reason 90 = .ok (.iload 4, 2) := by decide +kernel
theorem dX6_reason_92 : decode cX6_reason 92 = .ok (.iaload, 1) := by decide +kernel
theorem dX6_reason_93 : decode cX6_reason 93 = .ok (.aload_n 0, 1) := by decide +kernel
theorem dX6_reason_94 : decode cX6_reason 94 = .ok (.getfield 43, 3) := by decide +kernel
theorem dX6_reason_97 : decode cX6_reason 97 = .ok (.iload_n 1, 1) := by decide +kernel
theorem dX6_reason_98 : decode cX6_reason 98 = .ok (.iaload, 1) := by decide +kernel
theorem dX6_reason_99 : decode cX6_reason 99 = .ok (.if_icmp .ne 7, 3) := by decide +kernel
theorem dX6_reason_102 : decode cX6_reason 102 = .ok (.iconst 1, 1) := by decide +kernel
theorem dX6_reason_103 : decode cX6_reason 103 = .ok (.goto 4, 3) := by decide +kernel
theorem dX6_reason_106 : decode cX6_reason 106 = .ok (.iconst 0, 1) := by decide +kernel
theorem dX6_reason_107 : decode cX6_reason 107 = .ok (.istore_n 2, 1) := by decide +kernel
theorem dX6_reason_108 : decode cX6_reason 108 = .ok (.iload_n 3, 1) := by decide +kernel
theorem dX6_reason_109 : decode cX6_reason 109 = .ok (.ifCond .ne 34, 3) := by decide +kernel
theorem dX6_reason_112 : decode cX6_reason 112 = .ok (.iload 4, 2) := by decide +kernel
theorem dX6_reason_114 : decode cX6_reason 114 = .ok (.iload_n 1, 1) := by decide +kernel
theorem dX6_reason_115 : decode cX6_reason 115 = .ok (.if_icmp .eq 32, 3) := by decide +kernel
theorem dX6_reason_118 : decode cX6_reason 118 = .ok (.aload_n 0, 1) := by decide +kernel
theorem dX6_reason_119 : decode cX6_reason 119 = .ok (.iload 4, 2) := by decide +kernel
theorem dX6_reason_121 : decode cX6_reason 121 = .ok (.invokevirtual 160, 3) := by decide +kernel
theorem dX6_reason_124 : decode cX6_reason 124 = .ok (.ifCond .eq 23, 3) := by decide +kernel
theorem dX6_reason_127 : decode cX6_reason 127 = .ok (.aload_n 0, 1) := by decide +kernel
theorem dX6_reason_128 : decode cX6_reason 128 = .ok (.getfield 31, 3) := by decide +kernel
theorem dX6_reason_131 : decode cX6_reason 131 = .ok (.iload 4, 2) := by decide +kernel
theorem dX6_reason_133 : decode cX6_reason 133 = .ok (.iaload, 1) := by decide +kernel
theorem dX6_reason_134 : decode cX6_reason 134 = .ok (.aload_n 0, 1) := by decide +kernel
theorem dX6_reason_135 : decode cX6_reason 135 = .ok (.getfield 31, 3) := by decide +kernel
theorem dX6_reason_138 : decode cX6_reason 138 = .ok (.iload_n 1, 1) := by decide +kernel
theorem dX6_reason_139 : decode cX6_reason 139 = .ok (.iaload, 1) := by decide +kernel
theorem dX6_reason_140 : decode cX6_reason 140 = .ok (.if_icmp .ne 7, 3) := by decide +kernel
theorem dX6_reason_143 : decode cX6_reason 143 = .ok (.iconst 1, 1) := by decide +kernel
theorem dX6_reason_144 : decode cX6_reason 144 = .ok (.goto 4, 3) := by decide +kernel
theorem dX6_reason_147 : decode cX6_reason 147 = .ok (.iconst 0, 1) := by decide +kernel
theorem dX6_reason_148 : decode cX6_reason 148 = .ok (.istore_n 3, 1) := by decide +kernel
theorem dX6_reason_149 : decode cX6_reason 149 = .ok (.iinc 4 1, 3) := by decide +kernel
theorem dX6_reason_152 : decode cX6_reason 152 = .ok (.goto (-94), 3) := by decide +kernel
theorem dX6_reason_155 : decode cX6_reason 155 = .ok (.iload_n 2, 1) := by decide +kernel
theorem dX6_reason_156 : decode cX6_reason 156 = .ok (.ifCond .ne 7, 3) := by decide +kernel
theorem dX6_reason_159 : decode cX6_reason 159 = .ok (.iload_n 3, 1) := by decide +kernel
theorem dX6_reason_160 : decode cX6_reason 160 = .ok (.ifCond .eq 13, 3) := by decide +kernel
theorem dX6_reason_163 : decode cX6_reason 163 = .ok (.iload_n 2, 1) := by decide +kernel
theorem dX6_reason_164 : decode cX6_reason 164 = .ok (.ifCond .eq 7, 3) := by decide +kernel
theorem dX6_reason_167 : decode cX6_reason 167 = .ok (.iconst 3, 1) := by decide +kernel
theorem dX6_reason_168 : decode cX6_reason 168 = .ok (.goto 4, 3) := by decide +kernel
theorem dX6_reason_171 : decode cX6_reason 171 = .ok (.iconst 4, 1) := by decide +kernel
theorem dX6_reason_172 : decode cX6_reason 172 = .ok (.ireturn, 1) := by decide +kernel
theorem dX6_reason_173 : decode cX6_reason 173 = .ok (.aload_n 0, 1) := by decide +kernel
theorem dX6_reason_174 : decode cX6_reason 174 = .ok (.iload_n 1, 1) := by decide +kernel
theorem dX6_reason_175 : decode cX6_reason 175 = .ok (.aload_n 0, 1) := by decide +kernel
theorem dX6_reason_176 : decode cX6_reason 176 = .ok (.getfield 46, 3) := by decide +kernel
theorem dX6_reason_179 : decode cX6_reason 179 = .ok (.iload_n 1, 1) := by decide +kernel
theorem dX6_reason_180 : decode cX6_reason 180 = .ok (.iaload, 1) := by decide +kernel
theorem dX6_reason_181 : decode cX6_reason 181 = .ok (.invokevirtual 123, 3) := by decide +kernel
theorem dX6_reason_184 : decode cX6_reason 184 = .ok (.ifCond .eq 5, 3) := by decide +kernel
theorem dX6_reason_187 : decode cX6_reason 187 = .ok (.iconst 0, 1) := by decide +kernel
theorem dX6_reason_188 : decode cX6_reason 188 = .ok (.ireturn, 1) := by decide +kernel
theorem dX6_reason_189 : decode cX6_reason 189 = .ok (.aload_n 0, 1) := by decide +kernel
theorem dX6_reason_190 : decode cX6_reason 190 = .ok (.iload_n 1, 1) := by decide +kernel
theorem dX6_reason_191 : decode cX6_reason 191 = .ok (.invokevirtual 163, 3) := by decide +kernel
theorem dX6_reason_194 : decode cX6_reason 194 = .ok (.istore 4, 2) := by decide +kernel
theorem dX6_reason_196 : decode cX6_reason 196 = .ok (.aload_n 0, 1) := by decide +kernel
theorem dX6_reason_197 : decode cX6_reason 197 = .ok (.aload_n 0, 1) := by decide +kernel
theorem dX6_reason_198 : decode cX6_reason 198 = .ok (.getfield 31, 3) := by decide +kernel
theorem dX6_reason_201 : decode cX6_reason 201 = .ok (.iload_n 1, 1) := by decide +kernel
theorem dX6_reason_202 : decode cX6_reason 202 = .ok (.iaload, 1) := by decide +kernel
theorem dX6_reason_203 : decode cX6_reason 203 = .ok (.invokevirtual 167, 3) := by decide +kernel
theorem dX6_reason_206 : decode cX6_reason 206 = .ok (.ifCond .eq 7, 3) := by decide +kernel
theorem dX6_reason_209 : decode cX6_reason 209 = .ok (.iconst 5, 1) := by decide +kernel
theorem dX6_reason_210 : decode cX6_reason 210 = .ok (.goto 35, 3) := by decide +kernel
theorem dX6_reason_213 : decode cX6_reason 213 = .ok (.iload 4, 2) := by decide +kernel
theorem dX6_reason_215 : decode cX6_reason 215 = .ok (.iconst (-1), 1) := by decide +kernel
theorem dX6_reason_216 : decode cX6_reason 216 = .ok (.if_icmp .eq 28, 3) := by decide +kernel
theorem dX6_reason_219 : decode cX6_reason 219 = .ok (.aload_n 0, 1) := by decide +kernel
theorem dX6_reason_220 : decode cX6_reason 220 = .ok (.getfield 19, 3) := by decide +kernel
theorem dX6_reason_223 : decode cX6_reason 223 = .ok (.bipush 10, 2) := by decide +kernel
theorem dX6_reason_225 : decode cX6_reason 225 = .ok (.aload_n 0, 1) := by decide +kernel
theorem dX6_reason_226 : decode cX6_reason 226 = .ok (.getfield 31, 3) := by decide +kernel
theorem dX6_reason_229 : decode cX6_reason 229 = .ok (.iload_n 1, 1) := by decide +kernel
theorem dX6_reason_230 : decode cX6_reason 230 = .ok (.iaload, 1) := by decide +kernel
theorem dX6_reason_231 : decode cX6_reason 231 = .ok (.imul, 1) := by decide +kernel
theorem dX6_reason_232 : decode cX6_reason 232 = .ok (.iload 4, 2) := by decide +kernel
theorem dX6_reason_234 : decode cX6_reason 234 = .ok (.iadd, 1) := by decide +kernel
theorem dX6_reason_235 : decode cX6_reason 235 = .ok (.iaload, 1) := by decide +kernel
theorem dX6_reason_236 : decode cX6_reason 236 = .ok (.ifCond .ne 8, 3) := by decide +kernel
theorem dX6_reason_239 : decode cX6_reason 239 = .ok (.bipush 6, 2) := by decide +kernel
theorem dX6_reason_241 : decode cX6_reason 241 = .ok (.goto 4, 3) := by decide +kernel
theorem dX6_reason_244 : decode cX6_reason 244 = .ok (.iconst 0, 1) := by decide +kernel
theorem dX6_reason_245 : decode cX6_reason 245 = .ok (.ireturn, 1) := by decide +kernel
theorem dX6_shorter_0 : decode cX6_shorter 0 = .ok (.iload_n 0, 1) := by decide +kernel
theorem dX6_shorter_1 : decode cX6_shorter 1 = .ok (.iload_n 1, 1) := by decide +kernel
theorem dX6_shorter_2 : decode cX6_shorter 2 = .ok (.if_icmp .le 9, 3) := by decide +kernel
theorem dX6_shorter_5 : decode cX6_shorter 5 = .ok (.iload_n 0, 1) := by decide +kernel
theorem dX6_shorter_6 : decode cX6_shorter 6 = .ok (.iload_n 1, 1) := by decide +kernel
theorem dX6_shorter_7 : decode cX6_shorter 7 = .ok (.isub, 1) := by decide +kernel
theorem dX6_shorter_8 : decode cX6_shorter 8 = .ok (.goto 6, 3) := by decide +kernel
theorem dX6_shorter_11 : decode cX6_shorter 11 = .ok (.iload_n 1, 1) := by decide +kernel
theorem dX6_shorter_12 : decode cX6_shorter 12 = .ok (.iload_n 0, 1) := by decide +kernel
theorem dX6_shorter_13 : decode cX6_shorter 13 = .ok (.isub, 1) := by decide +kernel
theorem dX6_shorter_14 : decode cX6_shorter 14 = .ok (.istore_n 2, 1) := by decide +kernel
theorem dX6_shorter_15 : decode cX6_shorter 15 = .ok (.iload_n 2, 1) := by decide +kernel
theorem dX6_shorter_16 : decode cX6_shorter 16 = .ok (.sipush 180, 3) := by decide +kernel
theorem dX6_shorter_19 : decode cX6_shorter 19 = .ok (.if_icmp .le 11, 3) := by decide +kernel
theorem dX6_shorter_22 : decode cX6_shorter 22 = .ok (.sipush 360, 3) := by decide +kernel
theorem dX6_shorter_25 : decode cX6_shorter 25 = .ok (.iload_n 2, 1) := by decide +kernel
theorem dX6_shorter_26 : decode cX6_shorter 26 = .ok (.isub, 1) := by decide +kernel
theorem dX6_shorter_27 : decode cX6_shorter 27 = .ok (.goto 4, 3) := by decide +kernel
theorem dX6_shorter_30 : decode cX6_shorter 30 = .ok (.iload_n 2, 1) := by decide +kernel
theorem dX6_shorter_31 : decode cX6_shorter 31 = .ok (.ireturn, 1) := by decide +kernel
theorem dX6_poses_0 : decode cX6_poses 0 = .ok (.aload_n 0, 1) := by decide +kernel
theorem dX6_poses_1 : decode cX6_poses 1 = .ok (.getfield 31, 3) := by decide +kernel
theorem dX6_poses_4 : decode cX6_poses 4 = .ok (.iload_n 1, 1) := by decide +kernel
theorem dX6_poses_5 : decode cX6_poses 5 = .ok (.iaload, 1) := by decide +kernel
theorem dX6_poses_6 : decode cX6_poses 6 = .ok (.istore_n 3, 1) := by decide +kernel
theorem dX6_poses_7 : decode cX6_poses 7 = .ok (.iconst 0, 1) := by decide +kernel
theorem dX6_poses_8 : decode cX6_poses 8 = .ok (.istore 4, 2) := by decide +kernel
theorem dX6_poses_10 : decode cX6_poses 10 = .ok (.iload 4, 2) := by decide +kernel
theorem dX6_poses_12 : decode cX6_poses 12 = .ok (.aload_n 0, 1) := by decide +kernel
theorem dX6_poses_13 : decode cX6_poses 13 = .ok (.getfield 7, 3) := by decide +kernel
theorem dX6_poses_16 : decode cX6_poses 16 = .ok (.iload_n 3, 1) := by decide +kernel
theorem dX6_poses_17 : decode cX6_poses 17 = .ok (.iaload, 1) := by decide +kernel
theorem dX6_poses_18 : decode cX6_poses 18 = .ok (.if_icmp .ge 81, 3) := by decide +kernel
theorem dX6_poses_21 : decode cX6_poses 21 = .ok (.aload_n 0, 1) := by decide +kernel
theorem dX6_poses_22 : decode cX6_poses 22 = .ok (.iload_n 1, 1) := by decide +kernel
theorem dX6_poses_23 : decode cX6_poses 23 = .ok (.iload 4, 2) := by decide +kernel
theorem dX6_poses_25 : decode cX6_poses 25 = .ok (.iload_n 2, 1) := by decide +kernel
theorem dX6_poses_26 : decode cX6_poses 26 = .ok (.invokevirtual 144, 3) := by decide +kernel
theorem dX6_poses_29 : decode cX6_poses 29 = .ok (.istore 5, 2) := by decide +kernel
theorem dX6_poses_31 : decode cX6_poses 31 = .ok (.aload_n 0, 1) := by decide +kernel
theorem dX6_poses_32 : decode cX6_poses 32 = .ok (.getfield 16, 3) := by decide +kernel
theorem dX6_poses_35 : decode cX6_poses 35 = .ok (.bipush 6, 2) := by decide +kernel
theorem dX6_poses_37 : decode cX6_poses 37 = .ok (.iload_n 3, 1) := by decide +kernel
theorem dX6_poses_38 : decode cX6_poses 38 = .ok (.imul, 1) := by decide +kernel
theorem dX6_poses_39 : decode cX6_poses 39 = .ok (.iload 4, 2) := by decide +kernel
theorem dX6_poses_41 : decode cX6_poses 41 = .ok (.iadd, 1) := by decide +kernel
theorem dX6_poses_42 : decode cX6_poses 42 = .ok (.dup2, 1) := by decide +kernel
theorem dX6_poses_43 : decode cX6_poses 43 = .ok (.iaload, 1) := by decide +kernel
theorem dX6_poses_44 : decode cX6_poses 44 = .ok (.aload_n 0, 1) := by decide +kernel
theorem dX6_poses_45 : decode cX6_poses 45 = .ok (.getfield 13, 3) := by decide +kernel
theorem dX6_poses_48 : decode cX6_poses 48 = .ok (.bipush 6, 2) := by decide +kernel
theorem dX6_poses_50 : decode cX6_poses 50 = .ok (.iload_n 3, 1) := by decide +kernel
theorem dX6_poses_51 : decode cX6_poses 51 = .ok (.imul, 1) := by decide +kernel
theorem dX6_poses_52 : decode cX6_poses 52 = .ok (.iload 4, 2) := by decide +kernel
theorem dX6_poses_54 : decode cX6_poses 54 = .ok (.iadd, 1) := by decide +kernel
theorem dX6_poses_55 : decode cX6_poses 55 = .ok (.iaload, 1) := by decide +kernel
theorem dX6_poses_56 : decode cX6_poses 56 = .ok (.iload 5, 2) := by decide +kernel
theorem dX6_poses_58 : decode cX6_poses 58 = .ok (.invokestatic 170, 3) := by decide +kernel
theorem dX6_poses_61 : decode cX6_poses 61 = .ok (.iadd, 1) := by decide +kernel
theorem dX6_poses_62 : decode cX6_poses 62 = .ok (.iastore, 1) := by decide +kernel
theorem dX6_poses_63 : decode cX6_poses 63 = .ok (.aload_n 0, 1) := by decide +kernel
theorem dX6_poses_64 : decode cX6_poses 64 = .ok (.getfield 13, 3) := by decide +kernel
theorem dX6_poses_67 : decode cX6_poses 67 = .ok (.bipush 6, 2) := by decide +kernel
theorem dX6_poses_69 : decode cX6_poses 69 = .ok (.iload_n 3, 1) := by decide +kernel
theorem dX6_poses_70 : decode cX6_poses 70 = .ok (.imul, 1) := by decide +kernel
theorem dX6_poses_71 : decode cX6_poses 71 = .ok (.iload 4, 2) := by decide +kernel
theorem dX6_poses_73 : decode cX6_poses 73 = .ok (.iadd, 1) := by decide +kernel
theorem dX6_poses_74 : decode cX6_poses 74 = .ok (.iload 5, 2) := by decide +kernel
theorem dX6_poses_76 : decode cX6_poses 76 = .ok (.iastore, 1) := by decide +kernel
theorem dX6_poses_77 : decode cX6_poses 77 = .ok (.aload_n 0, 1) := by decide +kernel
theorem dX6_poses_78 : decode cX6_poses 78 = .ok (.getfield 62, 3) := by decide +kernel
theorem dX6_poses_81 : decode cX6_poses 81 = .ok (.aload_n 0, 1) := by decide +kernel
theorem dX6_poses_82 : decode cX6_poses 82 = .ok (.iload_n 1, 1) := by decide +kernel
theorem dX6_poses_83 : decode cX6_poses 83 = .ok (.iload 4, 2) := by decide +kernel
theorem dX6_poses_85 : decode cX6_poses 85 = .ok (.invokevirtual 127, 3) := by decide +kernel
theorem dX6_poses_88 : decode cX6_poses 88 = .ok (.iload_n 2, 1) := by decide +kernel
theorem dX6_poses_89 : decode cX6_poses 89 = .ok (.iadd, 1) := by decide +kernel
theorem dX6_poses_90 : decode cX6_poses 90 = .ok (.iload 5, 2) := by decide +kernel
theorem dX6_poses_92 : decode cX6_poses 92 = .ok (.iastore, 1) := by decide +kernel
theorem dX6_poses_93 : decode cX6_poses 93 = .ok (.iinc 4 1, 3) := by decide +kernel
theorem dX6_poses_96 : decode cX6_poses 96 = .ok (.goto (-86), 3) := by decide +kernel
theorem dX6_poses_99 : decode cX6_poses 99 = .ok (.aload_n 0, 1) := by decide +kernel
theorem dX6_poses_100 : decode cX6_poses 100 = .ok (.iload_n 1, 1) := by decide +kernel
theorem dX6_poses_101 : decode cX6_poses 101 = .ok (.invokevirtual 163, 3) := by decide +kernel
theorem dX6_poses_104 : decode cX6_poses 104 = .ok (.istore 4, 2) := by decide +kernel
theorem dX6_poses_106 : decode cX6_poses 106 = .ok (.iload 4, 2) := by decide +kernel
theorem dX6_poses_108 : decode cX6_poses 108 = .ok (.iconst (-1), 1) := by decide +kernel
theorem dX6_poses_109 : decode cX6_poses 109 = .ok (.if_icmp .eq 19, 3) := by decide +kernel
theorem dX6_poses_112 : decode cX6_poses 112 = .ok (.aload_n 0, 1) := by decide +kernel
theorem dX6_poses_113 : decode cX6_poses 113 = .ok (.getfield 19, 3) := by decide +kernel
theorem dX6_poses_116 : decode cX6_poses 116 = .ok (.bipush 10, 2) := by decide +kernel
theorem dX6_poses_118 : decode cX6_poses 118 = .ok (.iload_n 3, 1) := by decide +kernel
theorem dX6_poses_119 : decode cX6_poses 119 = .ok (.imul, 1) := by decide +kernel
theorem dX6_poses_120 : decode cX6_poses 120 = .ok (.iload 4, 2) := by decide +kernel
theorem dX6_poses_122 : decode cX6_poses 122 = .ok (.iadd, 1) := by decide +kernel
theorem dX6_poses_123 : decode cX6_poses 123 = .ok (.dup2, 1) := by decide +kernel
theorem dX6_poses_124 : decode cX6_poses 124 = .ok (.iaload, 1) := by decide +kernel
theorem dX6_poses_125 : decode cX6_poses 125 = .ok (.iconst 1, 1) := by decide +kernel
theorem dX6_poses_126 : decode cX6_poses 126 = .ok (.isub, 1) := by decide +kernel
theorem dX6_poses_127 : decode cX6_poses 127 = .ok (.iastore, 1) := by decide +kernel
theorem dX6_poses_128 : decode cX6_poses 128 = .ok (.aload_n 0, 1) := by decide +kernel
theorem dX6_poses_129 : decode cX6_poses 129 = .ok (.getfield 65, 3) := by decide +kernel
theorem dX6_poses_132 : decode cX6_poses 132 = .ok (.bipush 48, 2) := by decide +kernel
theorem dX6_poses_134 : decode cX6_poses 134 = .ok (.iload_n 1, 1) := by decide +kernel
theorem dX6_poses_135 : decode cX6_poses 135 = .ok (.imul, 1) := by decide +kernel
theorem dX6_poses_136 : decode cX6_poses 136 = .ok (.iload_n 2, 1) := by decide +kernel
theorem dX6_poses_137 : decode cX6_poses 137 = .ok (.iadd, 1) := by decide +kernel
theorem dX6_poses_138 : decode cX6_poses 138 = .ok (.aload_n 0, 1) := by decide +kernel
theorem dX6_poses_139 : decode cX6_poses 139 = .ok (.iload_n 1, 1) := by decide +kernel
theorem dX6_poses_140 : decode cX6_poses 140 = .ok (.iload_n 2, 1) := by decide +kernel
theorem dX6_poses_141 : decode cX6_poses 141 = .ok (.invokevirtual 157, 3) := by decide +kernel
theorem dX6_poses_144 : decode cX6_poses 144 = .ok (.iastore, 1) := by decide +kernel
theorem dX6_poses_145 : decode cX6_poses 145 = .ok (.return_, 1) := by decide +kernel
theorem dX6_holds_0 : decode cX6_holds 0 = .ok (.iconst 0, 1) := by decide +kernel
theorem dX6_holds_1 : decode cX6_holds 1 = .ok (.istore_n 3, 1) := by decide +kernel
theorem dX6_holds_2 : decode cX6_holds 2 = .ok (.iload_n 3, 1) := by decide +kernel
theorem dX6_holds_3 : decode cX6_holds 3 = .ok (.aload_n 0, 1) := by decide +kernel
theorem dX6_holds_4 : decode cX6_holds 4 = .ok (.getfield 7, 3) := by decide +kernel
theorem dX6_holds_7 : decode cX6_holds 7 = .ok (.aload_n 0, 1) := by decide +kernel
theorem dX6_holds_8 : decode cX6_holds 8 = .ok (.getfield 31, 3) := by decide +kernel
theorem dX6_holds_11 : decode cX6_holds 11 = .ok (.iload_n 1, 1) := by decide +kernel
theorem dX6_holds_12 : decode cX6_holds 12 = .ok (.iaload, 1) := by decide +kernel
theorem dX6_holds_13 : decode cX6_holds 13 = .ok (.iaload, 1) := by decide +kernel
theorem dX6_holds_14 : decode cX6_holds 14 = .ok (.if_icmp .ge 37, 3) := by decide +kernel
theorem dX6_holds_17 : decode cX6_holds 17 = .ok (.aload_n 0, 1) := by decide +kernel
theorem dX6_holds_18 : decode cX6_holds 18 = .ok (.getfield 62, 3) := by decide +kernel
theorem dX6_holds_21 : decode cX6_holds 21 = .ok (.aload_n 0, 1) := by decide +kernel
theorem dX6_holds_22 : decode cX6_holds 22 = .ok (.iload_n 1, 1) := by decide +kernel
theorem dX6_holds_23 : decode cX6_holds 23 = .ok (.iload_n 3, 1) := by decide +kernel
theorem dX6_holds_24 : decode cX6_holds 24 = .ok (.invokevirtual 127, 3) := by decide +kernel
theorem dX6_holds_27 : decode cX6_holds 27 = .ok (.iload_n 2, 1) := by decide +kernel
theorem dX6_holds_28 : decode cX6_holds 28 = .ok (.iadd, 1) := by decide +kernel
theorem dX6_holds_29 : decode cX6_holds 29 = .ok (.aload_n 0, 1) := by decide +kernel
theorem dX6_holds_30 : decode cX6_holds 30 = .ok (.getfield 62, 3) := by decide +kernel
theorem dX6_holds_33 : decode cX6_holds 33 = .ok (.aload_n 0, 1) := by decide +kernel
theorem dX6_holds_34 : decode cX6_holds 34 = .ok (.iload_n 1, 1) := by decide +kernel
theorem dX6_holds_35 : decode cX6_holds 35 = .ok (.iload_n 3, 1) := by decide +kernel
theorem dX6_holds_36 : decode cX6_holds 36 = .ok (.invokevirtual 127, 3) := by decide +kernel
theorem dX6_holds_39 : decode cX6_holds 39 = .ok (.iload_n 2, 1) := by decide +kernel
theorem dX6_holds_40 : decode cX6_holds 40 = .ok (.iadd, 1) := by decide +kernel
theorem dX6_holds_41 : decode cX6_holds 41 = .ok (.iconst 1, 1) := by decide +kernel
theorem dX6_holds_42 : decode cX6_holds 42 = .ok (.isub, 1) := by decide +kernel
theorem dX6_holds_43 : decode cX6_holds 43 = .ok (.iaload, 1) := by decide +kernel
theorem dX6_holds_44 : decode cX6_holds 44 = .ok (.iastore, 1) := by decide +kernel
theorem dX6_holds_45 : decode cX6_holds 45 = .ok (.iinc 3 1, 3) := by decide +kernel
theorem dX6_holds_48 : decode cX6_holds 48 = .ok (.goto (-46), 3) := by decide +kernel
theorem dX6_holds_51 : decode cX6_holds 51 = .ok (.aload_n 0, 1) := by decide +kernel
theorem dX6_holds_52 : decode cX6_holds 52 = .ok (.getfield 65, 3) := by decide +kernel
theorem dX6_holds_55 : decode cX6_holds 55 = .ok (.bipush 48, 2) := by decide +kernel
theorem dX6_holds_57 : decode cX6_holds 57 = .ok (.iload_n 1, 1) := by decide +kernel
theorem dX6_holds_58 : decode cX6_holds 58 = .ok (.imul, 1) := by decide +kernel
theorem dX6_holds_59 : decode cX6_holds 59 = .ok (.iload_n 2, 1) := by decide +kernel
theorem dX6_holds_60 : decode cX6_holds 60 = .ok (.iadd, 1) := by decide +kernel
theorem dX6_holds_61 : decode cX6_holds 61 = .ok (.aload_n 0, 1) := by decide +kernel
theorem dX6_holds_62 : decode cX6_holds 62 = .ok (.getfield 65, 3) := by decide +kernel
theorem dX6_holds_65 : decode cX6_holds 65 = .ok (.bipush 48, 2) := by decide +kernel
theorem dX6_holds_67 : decode cX6_holds 67 = .ok (.iload_n 1, 1) := by decide +kernel
theorem dX6_holds_68 : decode cX6_holds 68 = .ok (.imul, 1) := by decide +kernel
theorem dX6_holds_69 : decode cX6_holds 69 = .ok (.iload_n 2, 1) := by decide +kernel
theorem dX6_holds_70 : decode cX6_holds 70 = .ok (.iadd, 1) := by decide +kernel
theorem dX6_holds_71 : decode cX6_holds 71 = .ok (.iconst 1, 1) := by decide +kernel
theorem dX6_holds_72 : decode cX6_holds 72 = .ok (.isub, 1) := by decide +kernel
theorem dX6_holds_73 : decode cX6_holds 73 = .ok (.iaload, 1) := by decide +kernel
theorem dX6_holds_74 : decode cX6_holds 74 = .ok (.iastore, 1) := by decide +kernel
theorem dX6_holds_75 : decode cX6_holds 75 = .ok (.return_, 1) := by decide +kernel
theorem dX6_stays_0 : decode cX6_stays 0 = .ok (.iconst 0, 1) := by decide +kernel
theorem dX6_stays_1 : decode cX6_stays 1 = .ok (.istore_n 3, 1) := by decide +kernel
theorem dX6_stays_2 : decode cX6_stays 2 = .ok (.iconst 0, 1) := by decide +kernel
theorem dX6_stays_3 : decode cX6_stays 3 = .ok (.istore 4, 2) := by decide +kernel
theorem dX6_stays_5 : decode cX6_stays 5 = .ok (.iconst 1, 1) := by decide +kernel
theorem dX6_stays_6 : decode cX6_stays 6 = .ok (.istore 5, 2) := by decide +kernel
theorem dX6_stays_8 : decode cX6_stays 8 = .ok (.iload 5, 2) := by decide +kernel
theorem dX6_stays_10 : decode cX6_stays 10 = .ok (.iload_n 2, 1) := by decide +kernel
theorem dX6_stays_11 : decode cX6_stays 11 = .ok (.if_icmp .gt 81, 3) := by decide +kernel
theorem dX6_stays_14 : decode cX6_stays 14 = .ok (.aload_n 0, 1) := by decide +kernel
theorem dX6_stays_15 : decode cX6_stays 15 = .ok (.getfield 68, 3) := by decide +kernel
theorem dX6_stays_18 : decode cX6_stays 18 = .ok (.bipush 48, 2) := by decide +kernel
theorem dX6_stays_20 : decode cX6_stays 20 = .ok (.iload_n 1, 1) := by decide +kernel
theorem dX6_stays_21 : decode cX6_stays 21 = .ok (.imul, 1) := by decide +kernel
theorem dX6_stays_22 : decode cX6_stays 22 = .ok (.iload 5, 2) := by decide +kernel
theorem dX6_stays_24 : decode cX6_stays 24 = .ok (.iadd, 1) := by decide +kernel
theorem dX6_stays_25 : decode cX6_stays 25 = .ok (.iaload, 1) := by decide +kernel
theorem dX6_stays_26 : decode cX6_stays 26 = .ok (.aload_n 0, 1) := by decide +kernel
theorem dX6_stays_27 : decode cX6_stays 27 = .ok (.getfield 68, 3) := by decide +kernel
theorem dX6_stays_30 : decode cX6_stays 30 = .ok (.bipush 48, 2) := by decide +kernel
theorem dX6_stays_32 : decode cX6_stays 32 = .ok (.iload_n 1, 1) := by decide +kernel
theorem dX6_stays_33 : decode cX6_stays 33 = .ok (.imul, 1) := by decide +kernel
theorem dX6_stays_34 : decode cX6_stays 34 = .ok (.iload 5, 2) := by decide +kernel
theorem dX6_stays_36 : decode cX6_stays 36 = .ok (.iadd, 1) := by decide +kernel
theorem dX6_stays_37 : decode cX6_stays 37 = .ok (.iconst 1, 1) := by decide +kernel
theorem dX6_stays_38 : decode cX6_stays 38 = .ok (.isub, 1) := by decide +kernel
theorem dX6_stays_39 : decode cX6_stays 39 = .ok (.iaload, 1) := by decide +kernel
theorem dX6_stays_40 : decode cX6_stays 40 = .ok (.isub, 1) := by decide +kernel
theorem dX6_stays_41 : decode cX6_stays 41 = .ok (.istore 6, 2) := by decide +kernel
theorem dX6_stays_43 : decode cX6_stays 43 = .ok (.iload 6, 2) := by decide +kernel
theorem dX6_stays_45 : decode cX6_stays 45 = .ok (.ifCond .le 7, 3) := by decide +kernel
theorem dX6_stays_48 : decode cX6_stays 48 = .ok (.iconst 1, 1) := by decide +kernel
theorem dX6_stays_49 : decode cX6_stays 49 = .ok (.goto 13, 3) := by decide +kernel
theorem dX6_stays_52 : decode cX6_stays 52 = .ok (.iload 6, 2) := by decide +kernel
theorem dX6_stays_54 : decode cX6_stays 54 = .ok (.ifCond .ge 7, 3) := by decide +kernel
theorem dX6_stays_57 : decode cX6_stays 57 = .ok (.iconst (-1), 1) := by decide +kernel
theorem dX6_stays_58 : decode cX6_stays 58 = .ok (.goto 4, 3) := by decide +kernel
theorem dX6_stays_61 : decode cX6_stays 61 = .ok (.iload_n 3, 1) := by decide +kernel
theorem dX6_stays_62 : decode cX6_stays 62 = .ok (.istore 7, 2) := by decide +kernel
theorem dX6_stays_64 : decode cX6_stays 64 = .ok (.iload 4, 2) := by decide +kernel
theorem dX6_stays_66 : decode cX6_stays 66 = .ok (.ifCond .ne 10, 3) := by decide +kernel
theorem dX6_stays_69 : decode cX6_stays 69 = .ok (.iload 7, 2) := by decide +kernel
theorem dX6_stays_71 : decode cX6_stays 71 = .ok (.iload_n 3, 1) := by decide +kernel
theorem dX6_stays_72 : decode cX6_stays 72 = .ok (.imul, 1) := by decide +kernel
theorem dX6_stays_73 : decode cX6_stays 73 = .ok (.ifCond .ge 7, 3) := by decide +kernel
theorem dX6_stays_76 : decode cX6_stays 76 = .ok (.iconst 1, 1) := by decide +kernel
theorem dX6_stays_77 : decode cX6_stays 77 = .ok (.goto 4, 3) := by decide +kernel
theorem dX6_stays_80 : decode cX6_stays 80 = .ok (.iconst 0, 1) := by decide +kernel
theorem dX6_stays_81 : decode cX6_stays 81 = .ok (.istore 4, 2) := by decide +kernel
theorem dX6_stays_83 : decode cX6_stays 83 = .ok (.iload 7, 2) := by decide +kernel
theorem dX6_stays_85 : decode cX6_stays 85 = .ok (.istore_n 3, 1) := by decide +kernel
theorem dX6_stays_86 : decode cX6_stays 86 = .ok (.iinc 5 1, 3) := by decide +kernel
theorem dX6_stays_89 : decode cX6_stays 89 = .ok (.goto (-81), 3) := by decide +kernel
theorem dX6_stays_92 : decode cX6_stays 92 = .ok (.aload_n 0, 1) := by decide +kernel
theorem dX6_stays_93 : decode cX6_stays 93 = .ok (.getfield 68, 3) := by decide +kernel
theorem dX6_stays_96 : decode cX6_stays 96 = .ok (.bipush 48, 2) := by decide +kernel
theorem dX6_stays_98 : decode cX6_stays 98 = .ok (.iload_n 1, 1) := by decide +kernel
theorem dX6_stays_99 : decode cX6_stays 99 = .ok (.imul, 1) := by decide +kernel
theorem dX6_stays_100 : decode cX6_stays 100 = .ok (.iload_n 2, 1) := by decide +kernel
theorem dX6_stays_101 : decode cX6_stays 101 = .ok (.iadd, 1) := by decide +kernel
theorem dX6_stays_102 : decode cX6_stays 102 = .ok (.iaload, 1) := by decide +kernel
theorem dX6_stays_103 : decode cX6_stays 103 = .ok (.iload 4, 2) := by decide +kernel
theorem dX6_stays_105 : decode cX6_stays 105 = .ok (.ifCond .eq 12, 3) := by decide +kernel
theorem dX6_stays_108 : decode cX6_stays 108 = .ok (.iload_n 3, 1) := by decide +kernel
theorem dX6_stays_109 : decode cX6_stays 109 = .ok (.aload_n 0, 1) := by decide +kernel
theorem dX6_stays_110 : decode cX6_stays 110 = .ok (.getfield 151, 3) := by decide +kernel
theorem dX6_stays_113 : decode cX6_stays 113 = .ok (.imul, 1) := by decide +kernel
theorem dX6_stays_114 : decode cX6_stays 114 = .ok (.goto 4, 3) := by decide +kernel
theorem dX6_stays_117 : decode cX6_stays 117 = .ok (.iconst 0, 1) := by decide +kernel
theorem dX6_stays_118 : decode cX6_stays 118 = .ok (.isub, 1) := by decide +kernel
theorem dX6_stays_119 : decode cX6_stays 119 = .ok (.ireturn, 1) := by decide +kernel
theorem dX6_strike_0 : decode cX6_strike 0 = .ok (.aload_n 0, 1) := by decide +kernel
theorem dX6_strike_1 : decode cX6_strike 1 = .ok (.aload_n 0, 1) := by decide +kernel
theorem dX6_strike_2 : decode cX6_strike 2 = .ok (.iload_n 1, 1) := by decide +kernel
theorem dX6_strike_3 : decode cX6_strike 3 = .ok (.invokevirtual 105, 3) := by decide +kernel
theorem dX6_strike_6 : decode cX6_strike 6 = .ok (.ifCond .ne 7, 3) := by decide +kernel
theorem dX6_strike_9 : decode cX6_strike 9 = .ok (.iconst 1, 1) := by decide +kernel
theorem dX6_strike_10 : decode cX6_strike 10 = .ok (.goto 16, 3) := by decide +kernel
theorem dX6_strike_13 : decode cX6_strike 13 = .ok (.aload_n 0, 1) := by decide +kernel
theorem dX6_strike_14 : decode cX6_strike 14 = .ok (.iload_n 1, 1) := by decide +kernel
theorem dX6_strike_15 : decode cX6_strike 15 = .ok (.invokevirtual 173, 3) := by decide +kernel
theorem dX6_strike_18 : decode cX6_strike 18 = .ok (.ifCond .le 7, 3) := by decide +kernel
theorem dX6_strike_21 : decode cX6_strike 21 = .ok (.iconst 2, 1) := by decide +kernel
theorem dX6_strike_22 : decode cX6_strike 22 = .ok (.goto 4, 3) := by decide +kernel
theorem dX6_strike_25 : decode cX6_strike 25 = .ok (.iconst 0, 1) := by decide +kernel
theorem dX6_strike_26 : decode cX6_strike 26 = .ok (.invokevirtual 108, 3) := by decide +kernel
theorem dX6_strike_29 : decode cX6_strike 29 = .ok (.ifCond .eq 5, 3) := by decide +kernel
theorem dX6_strike_32 : decode cX6_strike 32 = .ok (.iconst 0, 1) := by decide +kernel
theorem dX6_strike_33 : decode cX6_strike 33 = .ok (.ireturn, 1) := by decide +kernel
theorem dX6_strike_34 : decode cX6_strike 34 = .ok (.aload_n 0, 1) := by decide +kernel
theorem dX6_strike_35 : decode cX6_strike 35 = .ok (.getfield 46, 3) := by decide +kernel
theorem dX6_strike_38 : decode cX6_strike 38 = .ok (.iload_n 1, 1) := by decide +kernel
theorem dX6_strike_39 : decode cX6_strike 39 = .ok (.iaload, 1) := by decide +kernel
theorem dX6_strike_40 : decode cX6_strike 40 = .ok (.istore_n 2, 1) := by decide +kernel
theorem dX6_strike_41 : decode cX6_strike 41 = .ok (.bipush 48, 2) := by decide +kernel
theorem dX6_strike_43 : decode cX6_strike 43 = .ok (.iload_n 1, 1) := by decide +kernel
theorem dX6_strike_44 : decode cX6_strike 44 = .ok (.imul, 1) := by decide +kernel
theorem dX6_strike_45 : decode cX6_strike 45 = .ok (.iload_n 2, 1) := by decide +kernel
theorem dX6_strike_46 : decode cX6_strike 46 = .ok (.iadd, 1) := by decide +kernel
theorem dX6_strike_47 : decode cX6_strike 47 = .ok (.istore_n 3, 1) := by decide +kernel
theorem dX6_strike_48 : decode cX6_strike 48 = .ok (.aload_n 0, 1) := by decide +kernel
theorem dX6_strike_49 : decode cX6_strike 49 = .ok (.iload_n 1, 1) := by decide +kernel
theorem dX6_strike_50 : decode cX6_strike 50 = .ok (.iload_n 2, 1) := by decide +kernel
theorem dX6_strike_51 : decode cX6_strike 51 = .ok (.invokevirtual 123, 3) := by decide +kernel
theorem dX6_strike_54 : decode cX6_strike 54 = .ok (.ifCond .eq 12, 3) := by decide +kernel
theorem dX6_strike_57 : decode cX6_strike 57 = .ok (.aload_n 0, 1) := by decide +kernel
theorem dX6_strike_58 : decode cX6_strike 58 = .ok (.iload_n 1, 1) := by decide +kernel
theorem dX6_strike_59 : decode cX6_strike 59 = .ok (.iload_n 2, 1) := by decide +kernel
theorem dX6_strike_60 : decode cX6_strike 60 = .ok (.invokevirtual 176, 3) := by decide +kernel
theorem dX6_strike_63 : decode cX6_strike 63 = .ok (.goto 9, 3) := by decide +kernel
theorem dX6_strike_66 : decode cX6_strike 66 = .ok (.aload_n 0, 1) := by decide +kernel
theorem dX6_strike_67 : decode cX6_strike 67 = .ok (.iload_n 1, 1) := by decide +kernel
theorem dX6_strike_68 : decode cX6_strike 68 = .ok (.iload_n 2, 1) := by decide +kernel
theorem dX6_strike_69 : decode cX6_strike 69 = .ok (.invokevirtual 180, 3) := by decide +kernel
theorem dX6_strike_72 : decode cX6_strike 72 = .ok (.aload_n 0, 1) := by decide +kernel
theorem dX6_strike_73 : decode cX6_strike 73 = .ok (.getfield 68, 3) := by decide +kernel
theorem dX6_strike_76 : decode cX6_strike 76 = .ok (.iload_n 3, 1) := by decide +kernel
theorem dX6_strike_77 : decode cX6_strike 77 = .ok (.aload_n 0, 1) := by decide +kernel
theorem dX6_strike_78 : decode cX6_strike 78 = .ok (.iload_n 1, 1) := by decide +kernel
theorem dX6_strike_79 : decode cX6_strike 79 = .ok (.iload_n 2, 1) := by decide +kernel
theorem dX6_strike_80 : decode cX6_strike 80 = .ok (.invokevirtual 148, 3) := by decide +kernel

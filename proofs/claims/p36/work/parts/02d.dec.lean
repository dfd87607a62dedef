theorem dL_degree_212 : decode cL_degree 212 = .ok (.iload 12, 2) := by decide +kernel
theorem dL_degree_214 : decode cL_degree 214 = .ok (.iadd, 1) := by decide +kernel
theorem dL_degree_215 : decode cL_degree 215 = .ok (.istore 13, 2) := by decide +kernel
theorem dL_degree_217 : decode cL_degree 217 = .ok (.iload 13, 2) := by decide +kernel
theorem dL_degree_219 : decode cL_degree 219 = .ok (.ifCond .ge 12, 3) := by decide +kernel
theorem dL_degree_222 : decode cL_degree 222 = .ok (.iload 13, 2) := by decide +kernel
theorem dL_degree_224 : decode cL_degree 224 = .ok (.sipush 360, 3) := by decide +kernel
theorem dL_degree_227 : decode cL_degree 227 = .ok (.iadd, 1) := by decide +kernel
theorem dL_degree_228 : decode cL_degree 228 = .ok (.goto 22, 3) := by decide +kernel
theorem dL_degree_231 : decode cL_degree 231 = .ok (.iload 13, 2) := by decide +kernel
theorem dL_degree_233 : decode cL_degree 233 = .ok (.sipush 359, 3) := by decide +kernel
theorem dL_degree_236 : decode cL_degree 236 = .ok (.if_icmp .le 12, 3) := by decide +kernel
theorem dL_degree_239 : decode cL_degree 239 = .ok (.iload 13, 2) := by decide +kernel
theorem dL_degree_241 : decode cL_degree 241 = .ok (.sipush 360, 3) := by decide +kernel
theorem dL_degree_244 : decode cL_degree 244 = .ok (.isub, 1) := by decide +kernel
theorem dL_degree_245 : decode cL_degree 245 = .ok (.goto 5, 3) := by decide +kernel
theorem dL_degree_248 : decode cL_degree 248 = .ok (.iload 13, 2) := by decide +kernel
theorem dL_degree_250 : decode cL_degree 250 = .ok (.ireturn, 1) := by decide +kernel
theorem dL_place_0 : decode cL_place 0 = .ok (.aload_n 0, 1) := by decide +kernel
theorem dL_place_1 : decode cL_place 1 = .ok (.bipush 6, 2) := by decide +kernel
theorem dL_place_3 : decode cL_place 3 = .ok (.iload_n 1, 1) := by decide +kernel
theorem dL_place_4 : decode cL_place 4 = .ok (.imul, 1) := by decide +kernel
theorem dL_place_5 : decode cL_place 5 = .ok (.iload_n 2, 1) := by decide +kernel
theorem dL_place_6 : decode cL_place 6 = .ok (.iconst (-1), 1) := by decide +kernel
theorem dL_place_7 : decode cL_place 7 = .ok (.invokestatic 97, 3) := by decide +kernel
theorem dL_place_10 : decode cL_place 10 = .ok (.istore_n 3, 1) := by decide +kernel
theorem dL_place_11 : decode cL_place 11 = .ok (.aload_n 0, 1) := by decide +kernel
theorem dL_place_12 : decode cL_place 12 = .ok (.bipush 6, 2) := by decide +kernel
theorem dL_place_14 : decode cL_place 14 = .ok (.iload_n 1, 1) := by decide +kernel
theorem dL_place_15 : decode cL_place 15 = .ok (.imul, 1) := by decide +kernel
theorem dL_place_16 : decode cL_place 16 = .ok (.iload_n 2, 1) := by decide +kernel
theorem dL_place_17 : decode cL_place 17 = .ok (.iconst 1, 1) := by decide +kernel
theorem dL_place_18 : decode cL_place 18 = .ok (.invokestatic 97, 3) := by decide +kernel
theorem dL_place_21 : decode cL_place 21 = .ok (.istore 4, 2) := by decide +kernel
theorem dL_place_23 : decode cL_place 23 = .ok (.iload_n 3, 1) := by decide +kernel
theorem dL_place_24 : decode cL_place 24 = .ok (.ifCond .ge 10, 3) := by decide +kernel
theorem dL_place_27 : decode cL_place 27 = .ok (.iload 4, 2) := by decide +kernel
theorem dL_place_29 : decode cL_place 29 = .ok (.ifCond .ge 5, 3) := by decide +kernel
theorem dL_place_32 : decode cL_place 32 = .ok (.iconst 0, 1) := by decide +kernel
theorem dL_place_33 : decode cL_place 33 = .ok (.ireturn, 1) := by decide +kernel
theorem dL_place_34 : decode cL_place 34 = .ok (.aload_n 0, 1) := by decide +kernel
theorem dL_place_35 : decode cL_place 35 = .ok (.bipush 6, 2) := by decide +kernel
theorem dL_place_37 : decode cL_place 37 = .ok (.iload_n 1, 1) := by decide +kernel
theorem dL_place_38 : decode cL_place 38 = .ok (.imul, 1) := by decide +kernel
theorem dL_place_39 : decode cL_place 39 = .ok (.iload_n 3, 1) := by decide +kernel
theorem dL_place_40 : decode cL_place 40 = .ok (.ifCond .ge 8, 3) := by decide +kernel
theorem dL_place_43 : decode cL_place 43 = .ok (.iload 4, 2) := by decide +kernel
theorem dL_place_45 : decode cL_place 45 = .ok (.goto 4, 3) := by decide +kernel
theorem dL_place_48 : decode cL_place 48 = .ok (.iload_n 3, 1) := by decide +kernel
theorem dL_place_49 : decode cL_place 49 = .ok (.iadd, 1) := by decide +kernel
theorem dL_place_50 : decode cL_place 50 = .ok (.iaload, 1) := by decide +kernel
theorem dL_place_51 : decode cL_place 51 = .ok (.sipush 1000, 3) := by decide +kernel
theorem dL_place_54 : decode cL_place 54 = .ok (.isub, 1) := by decide +kernel
theorem dL_place_55 : decode cL_place 55 = .ok (.istore 5, 2) := by decide +kernel
theorem dL_place_57 : decode cL_place 57 = .ok (.aload_n 0, 1) := by decide +kernel
theorem dL_place_58 : decode cL_place 58 = .ok (.bipush 6, 2) := by decide +kernel
theorem dL_place_60 : decode cL_place 60 = .ok (.iload_n 1, 1) := by decide +kernel
theorem dL_place_61 : decode cL_place 61 = .ok (.imul, 1) := by decide +kernel
theorem dL_place_62 : decode cL_place 62 = .ok (.iload 4, 2) := by decide +kernel
theorem dL_place_64 : decode cL_place 64 = .ok (.ifCond .ge 7, 3) := by decide +kernel
theorem dL_place_67 : decode cL_place 67 = .ok (.iload_n 3, 1) := by decide +kernel
theorem dL_place_68 : decode cL_place 68 = .ok (.goto 5, 3) := by decide +kernel
theorem dL_place_71 : decode cL_place 71 = .ok (.iload 4, 2) := by decide +kernel
theorem dL_place_73 : decode cL_place 73 = .ok (.iadd, 1) := by decide +kernel
theorem dL_place_74 : decode cL_place 74 = .ok (.iaload, 1) := by decide +kernel
theorem dL_place_75 : decode cL_place 75 = .ok (.sipush 1000, 3) := by decide +kernel
theorem dL_place_78 : decode cL_place 78 = .ok (.isub, 1) := by decide +kernel
theorem dL_place_79 : decode cL_place 79 = .ok (.istore 6, 2) := by decide +kernel
theorem dL_place_81 : decode cL_place 81 = .ok (.iload_n 3, 1) := by decide +kernel
theorem dL_place_82 : decode cL_place 82 = .ok (.ifCond .lt 14, 3) := by decide +kernel
theorem dL_place_85 : decode cL_place 85 = .ok (.iload 4, 2) := by decide +kernel
theorem dL_place_87 : decode cL_place 87 = .ok (.ifCond .lt 9, 3) := by decide +kernel
theorem dL_place_90 : decode cL_place 90 = .ok (.iload_n 3, 1) := by decide +kernel
theorem dL_place_91 : decode cL_place 91 = .ok (.iload 4, 2) := by decide +kernel
theorem dL_place_93 : decode cL_place 93 = .ok (.if_icmp .ne 17, 3) := by decide +kernel
theorem dL_place_96 : decode cL_place 96 = .ok (.iload_n 3, 1) := by decide +kernel
theorem dL_place_97 : decode cL_place 97 = .ok (.ifCond .ge 8, 3) := by decide +kernel
theorem dL_place_100 : decode cL_place 100 = .ok (.iload 6, 2) := by decide +kernel
theorem dL_place_102 : decode cL_place 102 = .ok (.goto 25, 3) := by decide +kernel
theorem dL_place_105 : decode cL_place 105 = .ok (.iload 5, 2) := by decide +kernel
theorem dL_place_107 : decode cL_place 107 = .ok (.goto 20, 3) := by decide +kernel
theorem dL_place_110 : decode cL_place 110 = .ok (.iload 5, 2) := by decide +kernel
theorem dL_place_112 : decode cL_place 112 = .ok (.iload 6, 2) := by decide +kernel
theorem dL_place_114 : decode cL_place 114 = .ok (.iload 5, 2) := by decide +kernel
theorem dL_place_116 : decode cL_place 116 = .ok (.isub, 1) := by decide +kernel
theorem dL_place_117 : decode cL_place 117 = .ok (.iload_n 2, 1) := by decide +kernel
theorem dL_place_118 : decode cL_place 118 = .ok (.iload_n 3, 1) := by decide +kernel
theorem dL_place_119 : decode cL_place 119 = .ok (.isub, 1) := by decide +kernel
theorem dL_place_120 : decode cL_place 120 = .ok (.imul, 1) := by decide +kernel
theorem dL_place_121 : decode cL_place 121 = .ok (.iload 4, 2) := by decide +kernel
theorem dL_place_123 : decode cL_place 123 = .ok (.iload_n 3, 1) := by decide +kernel
theorem dL_place_124 : decode cL_place 124 = .ok (.isub, 1) := by decide +kernel
theorem dL_place_125 : decode cL_place 125 = .ok (.idiv, 1) := by decide +kernel
theorem dL_place_126 : decode cL_place 126 = .ok (.iadd, 1) := by decide +kernel
theorem dL_place_127 : decode cL_place 127 = .ok (.ireturn, 1) := by decide +kernel
theorem dL_mouth_0 : decode cL_mouth 0 = .ok (.aload_n 0, 1) := by decide +kernel
theorem dL_mouth_1 : decode cL_mouth 1 = .ok (.iload_n 2, 1) := by decide +kernel
theorem dL_mouth_2 : decode cL_mouth 2 = .ok (.iaload, 1) := by decide +kernel
theorem dL_mouth_3 : decode cL_mouth 3 = .ok (.sipush 128, 3) := by decide +kernel
theorem dL_mouth_6 : decode cL_mouth 6 = .ok (.idiv, 1) := by decide +kernel
theorem dL_mouth_7 : decode cL_mouth 7 = .ok (.bipush 8, 2) := by decide +kernel
theorem dL_mouth_9 : decode cL_mouth 9 = .ok (.irem, 1) := by decide +kernel
theorem dL_mouth_10 : decode cL_mouth 10 = .ok (.iconst 1, 1) := by decide +kernel
theorem dL_mouth_11 : decode cL_mouth 11 = .ok (.isub, 1) := by decide +kernel
theorem dL_mouth_12 : decode cL_mouth 12 = .ok (.istore 4, 2) := by decide +kernel
theorem dL_mouth_14 : decode cL_mouth 14 = .ok (.aload_n 0, 1) := by decide +kernel
theorem dL_mouth_15 : decode cL_mouth 15 = .ok (.iload_n 2, 1) := by decide +kernel
theorem dL_mouth_16 : decode cL_mouth 16 = .ok (.iload_n 3, 1) := by decide +kernel
theorem dL_mouth_17 : decode cL_mouth 17 = .ok (.invokestatic 91, 3) := by decide +kernel
theorem dL_mouth_20 : decode cL_mouth 20 = .ok (.ifCond .eq 9, 3) := by decide +kernel
theorem dL_mouth_23 : decode cL_mouth 23 = .ok (.iload_n 3, 1) := by decide +kernel
theorem dL_mouth_24 : decode cL_mouth 24 = .ok (.iconst 1, 1) := by decide +kernel
theorem dL_mouth_25 : decode cL_mouth 25 = .ok (.isub, 1) := by decide +kernel
theorem dL_mouth_26 : decode cL_mouth 26 = .ok (.goto 4, 3) := by decide +kernel
theorem dL_mouth_29 : decode cL_mouth 29 = .ok (.iload_n 3, 1) := by decide +kernel
theorem dL_mouth_30 : decode cL_mouth 30 = .ok (.istore 5, 2) := by decide +kernel
theorem dL_mouth_32 : decode cL_mouth 32 = .ok (.iconst (-1), 1) := by decide +kernel
theorem dL_mouth_33 : decode cL_mouth 33 = .ok (.istore 6, 2) := by decide +kernel
theorem dL_mouth_35 : decode cL_mouth 35 = .ok (.iconst 0, 1) := by decide +kernel
theorem dL_mouth_36 : decode cL_mouth 36 = .ok (.istore 7, 2) := by decide +kernel
theorem dL_mouth_38 : decode cL_mouth 38 = .ok (.iconst 0, 1) := by decide +kernel
theorem dL_mouth_39 : decode cL_mouth 39 = .ok (.istore 8, 2) := by decide +kernel
theorem dL_mouth_41 : decode cL_mouth 41 = .ok (.iload 4, 2) := by decide +kernel
theorem dL_mouth_43 : decode cL_mouth 43 = .ok (.ifCond .lt 75, 3) := by decide +kernel
theorem dL_mouth_46 : decode cL_mouth 46 = .ok (.iload 8, 2) := by decide +kernel
theorem dL_mouth_48 : decode cL_mouth 48 = .ok (.aload_n 1, 1) := by decide +kernel
theorem dL_mouth_49 : decode cL_mouth 49 = .ok (.bipush 18, 2) := by decide +kernel
theorem dL_mouth_51 : decode cL_mouth 51 = .ok (.iload 4, 2) := by decide +kernel
theorem dL_mouth_53 : decode cL_mouth 53 = .ok (.iadd, 1) := by decide +kernel
theorem dL_mouth_54 : decode cL_mouth 54 = .ok (.iaload, 1) := by decide +kernel
theorem dL_mouth_55 : decode cL_mouth 55 = .ok (.if_icmp .ge 63, 3) := by decide +kernel
theorem dL_mouth_58 : decode cL_mouth 58 = .ok (.aload_n 1, 1) := by decide +kernel
theorem dL_mouth_59 : decode cL_mouth 59 = .ok (.bipush 6, 2) := by decide +kernel
theorem dL_mouth_61 : decode cL_mouth 61 = .ok (.iload 4, 2) := by decide +kernel
theorem dL_mouth_63 : decode cL_mouth 63 = .ok (.imul, 1) := by decide +kernel
theorem dL_mouth_64 : decode cL_mouth 64 = .ok (.iload 8, 2) := by decide +kernel
theorem dL_mouth_66 : decode cL_mouth 66 = .ok (.iadd, 1) := by decide +kernel
theorem dL_mouth_67 : decode cL_mouth 67 = .ok (.iaload, 1) := by decide +kernel
theorem dL_mouth_68 : decode cL_mouth 68 = .ok (.istore 9, 2) := by decide +kernel
theorem dL_mouth_70 : decode cL_mouth 70 = .ok (.iload 5, 2) := by decide +kernel
theorem dL_mouth_72 : decode cL_mouth 72 = .ok (.iload 7, 2) := by decide +kernel
theorem dL_mouth_74 : decode cL_mouth 74 = .ok (.if_icmp .lt 24, 3) := by decide +kernel
theorem dL_mouth_77 : decode cL_mouth 77 = .ok (.iload 5, 2) := by decide +kernel
theorem dL_mouth_79 : decode cL_mouth 79 = .ok (.iload 7, 2) := by decide +kernel
theorem dL_mouth_81 : decode cL_mouth 81 = .ok (.iload 9, 2) := by decide +kernel
theorem dL_mouth_83 : decode cL_mouth 83 = .ok (.bipush 16, 2) := by decide +kernel
theorem dL_mouth_85 : decode cL_mouth 85 = .ok (.idiv, 1) := by decide +kernel
theorem dL_mouth_86 : decode cL_mouth 86 = .ok (.iadd, 1) := by decide +kernel
theorem dL_mouth_87 : decode cL_mouth 87 = .ok (.if_icmp .ge 11, 3) := by decide +kernel
theorem dL_mouth_90 : decode cL_mouth 90 = .ok (.iload 9, 2) := by decide +kernel
theorem dL_mouth_92 : decode cL_mouth 92 = .ok (.bipush 16, 2) := by decide +kernel
theorem dL_mouth_94 : decode cL_mouth 94 = .ok (.irem, 1) := by decide +kernel
theorem dL_mouth_95 : decode cL_mouth 95 = .ok (.goto 5, 3) := by decide +kernel
theorem dL_mouth_98 : decode cL_mouth 98 = .ok (.iload 6, 2) := by decide +kernel
theorem dL_mouth_100 : decode cL_mouth 100 = .ok (.istore 6, 2) := by decide +kernel
theorem dL_mouth_102 : decode cL_mouth 102 = .ok (.iload 7, 2) := by decide +kernel
theorem dL_mouth_104 : decode cL_mouth 104 = .ok (.iload 9, 2) := by decide +kernel
theorem dL_mouth_106 : decode cL_mouth 106 = .ok (.bipush 16, 2) := by decide +kernel
theorem dL_mouth_108 : decode cL_mouth 108 = .ok (.idiv, 1) := by decide +kernel
theorem dL_mouth_109 : decode cL_mouth 109 = .ok (.iadd, 1) := by decide +kernel
theorem dL_mouth_110 : decode cL_mouth 110 = .ok (.istore 7, 2) := by decide +kernel
theorem dL_mouth_112 : decode cL_mouth 112 = .ok (.iinc 8 1, 3) := by decide +kernel
theorem dL_mouth_115 : decode cL_mouth 115 = .ok (.goto (-74), 3) := by decide +kernel
theorem dL_mouth_118 : decode cL_mouth 118 = .ok (.iload 6, 2) := by decide +kernel
theorem dL_mouth_120 : decode cL_mouth 120 = .ok (.ireturn, 1) := by decide +kernel
theorem dL_frames_0 : decode cL_frames 0 = .ok (.aload_n 0, 1) := by decide +kernel
theorem dL_frames_1 : decode cL_frames 1 = .ok (.iload_n 1, 1) := by decide +kernel
theorem dL_frames_2 : decode cL_frames 2 = .ok (.iaload, 1) := by decide +kernel
theorem dL_frames_3 : decode cL_frames 3 = .ok (.iconst 4, 1) := by decide +kernel
theorem dL_frames_4 : decode cL_frames 4 = .ok (.idiv, 1) := by decide +kernel
theorem dL_frames_5 : decode cL_frames 5 = .ok (.bipush 8, 2) := by decide +kernel
theorem dL_frames_7 : decode cL_frames 7 = .ok (.irem, 1) := by decide +kernel
theorem dL_frames_8 : decode cL_frames 8 = .ok (.ireturn, 1) := by decide +kernel
theorem dL_struck_0 : decode cL_struck 0 = .ok (.aload_n 0, 1) := by decide +kernel
theorem dL_struck_1 : decode cL_struck 1 = .ok (.iload_n 1, 1) := by decide +kernel
theorem dL_struck_2 : decode cL_struck 2 = .ok (.iaload, 1) := by decide +kernel
theorem dL_struck_3 : decode cL_struck 3 = .ok (.sipush 8192, 3) := by decide +kernel
theorem dL_struck_6 : decode cL_struck 6 = .ok (.idiv, 1) := by decide +kernel
theorem dL_struck_7 : decode cL_struck 7 = .ok (.ireturn, 1) := by decide +kernel
theorem dL_isOn_0 : decode cL_isOn 0 = .ok (.aload_n 0, 1) := by decide +kernel
theorem dL_isOn_1 : decode cL_isOn 1 = .ok (.iload_n 1, 1) := by decide +kernel
theorem dL_isOn_2 : decode cL_isOn 2 = .ok (.invokestatic 101, 3) := by decide +kernel
theorem dL_isOn_5 : decode cL_isOn 5 = .ok (.ifCond .le 20, 3) := by decide +kernel
theorem dL_isOn_8 : decode cL_isOn 8 = .ok (.aload_n 0, 1) := by decide +kernel
theorem dL_isOn_9 : decode cL_isOn 9 = .ok (.iload_n 1, 1) := by decide +kernel
theorem dL_isOn_10 : decode cL_isOn 10 = .ok (.invokestatic 101, 3) := by decide +kernel
theorem dL_isOn_13 : decode cL_isOn 13 = .ok (.aload_n 0, 1) := by decide +kernel
theorem dL_isOn_14 : decode cL_isOn 14 = .ok (.iload_n 1, 1) := by decide +kernel
theorem dL_isOn_15 : decode cL_isOn 15 = .ok (.invokestatic 105, 3) := by decide +kernel
theorem dL_isOn_18 : decode cL_isOn 18 = .ok (.if_icmp .ge 7, 3) := by decide +kernel
theorem dL_isOn_21 : decode cL_isOn 21 = .ok (.iconst 1, 1) := by decide +kernel
theorem dL_isOn_22 : decode cL_isOn 22 = .ok (.goto 4, 3) := by decide +kernel
theorem dL_isOn_25 : decode cL_isOn 25 = .ok (.iconst 0, 1) := by decide +kernel
theorem dL_isOn_26 : decode cL_isOn 26 = .ok (.ireturn, 1) := by decide +kernel
theorem dL_light_0 : decode cL_light 0 = .ok (.aload_n 0, 1) := by decide +kernel
theorem dL_light_1 : decode cL_light 1 = .ok (.iconst 4, 1) := by decide +kernel
theorem dL_light_2 : decode cL_light 2 = .ok (.iaload, 1) := by decide +kernel
theorem dL_light_3 : decode cL_light 3 = .ok (.sipush 1499, 3) := by decide +kernel
theorem dL_light_6 : decode cL_light 6 = .ok (.if_icmp .le 9, 3) := by decide +kernel
theorem dL_light_9 : decode cL_light 9 = .ok (.sipush 500, 3) := by decide +kernel
theorem dL_light_12 : decode cL_light 12 = .ok (.goto 12, 3) := by decide +kernel
theorem dL_light_15 : decode cL_light 15 = .ok (.sipush 1000, 3) := by decide +kernel
theorem dL_light_18 : decode cL_light 18 = .ok (.aload_n 0, 1) := by decide +kernel
theorem dL_light_19 : decode cL_light 19 = .ok (.iconst 4, 1) := by decide +kernel
theorem dL_light_20 : decode cL_light 20 = .ok (.iaload, 1) := by decide +kernel
theorem dL_light_21 : decode cL_light 21 = .ok (.iconst 3, 1) := by decide +kernel
theorem dL_light_22 : decode cL_light 22 = .ok (.idiv, 1) := by decide +kernel
theorem dL_light_23 : decode cL_light 23 = .ok (.isub, 1) := by decide +kernel
theorem dL_light_24 : decode cL_light 24 = .ok (.ireturn, 1) := by decide +kernel
theorem dL_wanted_0 : decode cL_wanted 0 = .ok (.aload_n 0, 1) := by decide +kernel
theorem dL_wanted_1 : decode cL_wanted 1 = .ok (.iload_n 3, 1) := by decide +kernel
theorem dL_wanted_2 : decode cL_wanted 2 = .ok (.invokestatic 101, 3) := by decide +kernel
theorem dL_wanted_5 : decode cL_wanted 5 = .ok (.istore 4, 2) := by decide +kernel
theorem dL_wanted_7 : decode cL_wanted 7 = .ok (.aload_n 0, 1) := by decide +kernel
theorem dL_wanted_8 : decode cL_wanted 8 = .ok (.aload_n 1, 1) := by decide +kernel
theorem dL_wanted_9 : decode cL_wanted 9 = .ok (.iload_n 3, 1) := by decide +kernel
theorem dL_wanted_10 : decode cL_wanted 10 = .ok (.iload 4, 2) := by decide +kernel
theorem dL_wanted_12 : decode cL_wanted 12 = .ok (.invokestatic 108, 3) := by decide +kernel
theorem dL_wanted_15 : decode cL_wanted 15 = .ok (.istore 5, 2) := by decide +kernel
theorem dL_wanted_17 : decode cL_wanted 17 = .ok (.iload 4, 2) := by decide +kernel
theorem dL_wanted_19 : decode cL_wanted 19 = .ok (.ifCond .ne 7, 3) := by decide +kernel
theorem dL_wanted_22 : decode cL_wanted 22 = .ok (.iconst (-1), 1) := by decide +kernel
theorem dL_wanted_23 : decode cL_wanted 23 = .ok (.goto 19, 3) := by decide +kernel
theorem dL_wanted_26 : decode cL_wanted 26 = .ok (.aload_n 2, 1) := by decide +kernel
theorem dL_wanted_27 : decode cL_wanted 27 = .ok (.bipush 6, 2) := by decide +kernel
theorem dL_wanted_29 : decode cL_wanted 29 = .ok (.iload_n 3, 1) := by decide +kernel
theorem dL_wanted_30 : decode cL_wanted 30 = .ok (.imul, 1) := by decide +kernel
theorem dL_wanted_31 : decode cL_wanted 31 = .ok (.iload 4, 2) := by decide +kernel
theorem dL_wanted_33 : decode cL_wanted 33 = .ok (.iadd, 1) := by decide +kernel
theorem dL_wanted_34 : decode cL_wanted 34 = .ok (.iconst 1, 1) := by decide +kernel
theorem dL_wanted_35 : decode cL_wanted 35 = .ok (.isub, 1) := by decide +kernel
theorem dL_wanted_36 : decode cL_wanted 36 = .ok (.iaload, 1) := by decide +kernel
theorem dL_wanted_37 : decode cL_wanted 37 = .ok (.bipush 16, 2) := by decide +kernel
theorem dL_wanted_39 : decode cL_wanted 39 = .ok (.irem, 1) := by decide +kernel
theorem dL_wanted_40 : decode cL_wanted 40 = .ok (.iconst 1, 1) := by decide +kernel
theorem dL_wanted_41 : decode cL_wanted 41 = .ok (.isub, 1) := by decide +kernel
theorem dL_wanted_42 : decode cL_wanted 42 = .ok (.istore 6, 2) := by decide +kernel
theorem dL_wanted_44 : decode cL_wanted 44 = .ok (.iload 5, 2) := by decide +kernel
theorem dL_wanted_46 : decode cL_wanted 46 = .ok (.iload 6, 2) := by decide +kernel
theorem dL_wanted_48 : decode cL_wanted 48 = .ok (.if_icmp .ne 7, 3) := by decide +kernel
theorem dL_wanted_51 : decode cL_wanted 51 = .ok (.iconst (-1), 1) := by decide +kernel
theorem dL_wanted_52 : decode cL_wanted 52 = .ok (.goto 5, 3) := by decide +kernel
theorem dL_wanted_55 : decode cL_wanted 55 = .ok (.iload 5, 2) := by decide +kernel
theorem dL_wanted_57 : decode cL_wanted 57 = .ok (.ireturn, 1) := by decide +kernel
theorem dL_bars_0 : decode cL_bars 0 = .ok (.aload 4, 2) := by decide +kernel
theorem dL_bars_2 : decode cL_bars 2 = .ok (.iload 7, 2) := by decide +kernel
theorem dL_bars_4 : decode cL_bars 4 = .ok (.iaload, 1) := by decide +kernel
theorem dL_bars_5 : decode cL_bars 5 = .ok (.sipush 1024, 3) := by decide +kernel
theorem dL_bars_8 : decode cL_bars 8 = .ok (.idiv, 1) := by decide +kernel
theorem dL_bars_9 : decode cL_bars 9 = .ok (.bipush 8, 2) := by decide +kernel
theorem dL_bars_11 : decode cL_bars 11 = .ok (.irem, 1) := by decide +kernel
theorem dL_bars_12 : decode cL_bars 12 = .ok (.iconst 1, 1) := by decide +kernel
theorem dL_bars_13 : decode cL_bars 13 = .ok (.isub, 1) := by decide +kernel
theorem dL_bars_14 : decode cL_bars 14 = .ok (.istore 8, 2) := by decide +kernel
theorem dL_bars_16 : decode cL_bars 16 = .ok (.aload 4, 2) := by decide +kernel
theorem dL_bars_18 : decode cL_bars 18 = .ok (.iload 7, 2) := by decide +kernel
theorem dL_bars_20 : decode cL_bars 20 = .ok (.iaload, 1) := by decide +kernel
theorem dL_bars_21 : decode cL_bars 21 = .ok (.iconst 4, 1) := by decide +kernel
theorem dL_bars_22 : decode cL_bars 22 = .ok (.irem, 1) := by decide +kernel
theorem dL_bars_23 : decode cL_bars 23 = .ok (.istore 9, 2) := by decide +kernel
theorem dL_bars_25 : decode cL_bars 25 = .ok (.aload 4, 2) := by decide +kernel
theorem dL_bars_27 : decode cL_bars 27 = .ok (.iload 7, 2) := by decide +kernel
theorem dL_bars_29 : decode cL_bars 29 = .ok (.invokestatic 101, 3) := by decide +kernel
theorem dL_bars_32 : decode cL_bars 32 = .ok (.aload 4, 2) := by decide +kernel
theorem dL_bars_34 : decode cL_bars 34 = .ok (.iload 7, 2) := by decide +kernel
theorem dL_bars_36 : decode cL_bars 36 = .ok (.invokestatic 105, 3) := by decide +kernel
theorem dL_bars_39 : decode cL_bars 39 = .ok (.if_icmp .ne 6, 3) := by decide +kernel
theorem dL_bars_42 : decode cL_bars 42 = .ok (.bipush 7, 2) := by decide +kernel
theorem dL_bars_44 : decode cL_bars 44 = .ok (.ireturn, 1) := by decide +kernel
theorem dL_bars_45 : decode cL_bars 45 = .ok (.iload 8, 2) := by decide +kernel
theorem dL_bars_47 : decode cL_bars 47 = .ok (.ifCond .lt 16, 3) := by decide +kernel
theorem dL_bars_50 : decode cL_bars 50 = .ok (.aload 6, 2) := by decide +kernel
theorem dL_bars_52 : decode cL_bars 52 = .ok (.iconst 5, 1) := by decide +kernel
theorem dL_bars_53 : decode cL_bars 53 = .ok (.iaload, 1) := by decide +kernel
theorem dL_bars_54 : decode cL_bars 54 = .ok (.iload 8, 2) := by decide +kernel
theorem dL_bars_56 : decode cL_bars 56 = .ok (.ishr, 1) := by decide +kernel
theorem dL_bars_57 : decode cL_bars 57 = .ok (.iconst 1, 1) := by decide +kernel
theorem dL_bars_58 : decode cL_bars 58 = .ok (.iand, 1) := by decide +kernel
theorem dL_bars_59 : decode cL_bars 59 = .ok (.iconst 1, 1) := by decide +kernel
theorem dL_bars_60 : decode cL_bars 60 = .ok (.if_icmp .ne 14, 3) := by decide +kernel
theorem dL_bars_63 : decode cL_bars 63 = .ok (.iload 8, 2) := by decide +kernel
theorem dL_bars_65 : decode cL_bars 65 = .ok (.ifCond .ge 7, 3) := by decide +kernel
theorem dL_bars_68 : decode cL_bars 68 = .ok (.iconst 1, 1) := by decide +kernel
theorem dL_bars_69 : decode cL_bars 69 = .ok (.goto 4, 3) := by decide +kernel
theorem dL_bars_72 : decode cL_bars 72 = .ok (.iconst 2, 1) := by decide +kernel
theorem dL_bars_73 : decode cL_bars 73 = .ok (.ireturn, 1) := by decide +kernel
theorem dL_bars_74 : decode cL_bars 74 = .ok (.iconst 0, 1) := by decide +kernel
theorem dL_bars_75 : decode cL_bars 75 = .ok (.istore 10, 2) := by decide +kernel
theorem dL_bars_77 : decode cL_bars 77 = .ok (.iconst 0, 1) := by decide +kernel
theorem dL_bars_78 : decode cL_bars 78 = .ok (.istore 11, 2) := by decide +kernel
theorem dL_bars_80 : decode cL_bars 80 = .ok (.iload 11, 2) := by decide +kernel
theorem dL_bars_82 : decode cL_bars 82 = .ok (.aload 6, 2) := by decide +kernel
theorem dL_bars_84 : decode cL_bars 84 = .ok (.iconst 2, 1) := by decide +kernel
theorem dL_bars_85 : decode cL_bars 85 = .ok (.iaload, 1) := by decide +kernel
theorem dL_bars_86 : decode cL_bars 86 = .ok (.if_icmp .ge 91, 3) := by decide +kernel
theorem dL_bars_89 : decode cL_bars 89 = .ok (.iload 11, 2) := by decide +kernel
theorem dL_bars_91 : decode cL_bars 91 = .ok (.iload 7, 2) := by decide +kernel
theorem dL_bars_93 : decode cL_bars 93 = .ok (.if_icmp .eq 17, 3) := by decide +kernel
theorem dL_bars_96 : decode cL_bars 96 = .ok (.aload 4, 2) := by decide +kernel
theorem dL_bars_98 : decode cL_bars 98 = .ok (.iload 11, 2) := by decide +kernel
theorem dL_bars_100 : decode cL_bars 100 = .ok (.invokestatic 112, 3) := by decide +kernel
theorem dL_bars_103 : decode cL_bars 103 = .ok (.ifCond .eq 7, 3) := by decide +kernel
theorem dL_bars_106 : decode cL_bars 106 = .ok (.iconst 1, 1) := by decide +kernel
theorem dL_bars_107 : decode cL_bars 107 = .ok (.goto 4, 3) := by decide +kernel
theorem dL_bars_110 : decode cL_bars 110 = .ok (.iconst 0, 1) := by decide +kernel
theorem dL_bars_111 : decode cL_bars 111 = .ok (.istore 12, 2) := by decide +kernel
theorem dL_bars_113 : decode cL_bars 113 = .ok (.iload 12, 2) := by decide +kernel
theorem dL_bars_115 : decode cL_bars 115 = .ok (.ifCond .eq 26, 3) := by decide +kernel
theorem dL_bars_118 : decode cL_bars 118 = .ok (.aload 4, 2) := by decide +kernel
theorem dL_bars_120 : decode cL_bars 120 = .ok (.iload 11, 2) := by decide +kernel
theorem dL_bars_122 : decode cL_bars 122 = .ok (.iaload, 1) := by decide +kernel
theorem dL_bars_123 : decode cL_bars 123 = .ok (.sipush 1024, 3) := by decide +kernel
theorem dL_bars_126 : decode cL_bars 126 = .ok (.idiv, 1) := by decide +kernel
theorem dL_bars_127 : decode cL_bars 127 = .ok (.bipush 8, 2) := by decide +kernel
theorem dL_bars_129 : decode cL_bars 129 = .ok (.irem, 1) := by decide +kernel
theorem dL_bars_130 : decode cL_bars 130 = .ok (.iconst 1, 1) := by decide +kernel
theorem dL_bars_131 : decode cL_bars 131 = .ok (.isub, 1) := by decide +kernel
theorem dL_bars_132 : decode cL_bars 132 = .ok (.iload 8, 2) := by decide +kernel
theorem dL_bars_134 : decode cL_bars 134 = .ok (.if_icmp .ne 7, 3) := by decide +kernel
theorem dL_bars_137 : decode cL_bars 137 = .ok (.iconst 3, 1) := by decide +kernel
theorem dL_bars_138 : decode cL_bars 138 = .ok (.goto 31, 3) := by decide +kernel
theorem dL_bars_141 : decode cL_bars 141 = .ok (.iload 12, 2) := by decide +kernel
theorem dL_bars_143 : decode cL_bars 143 = .ok (.ifCond .eq 24, 3) := by decide +kernel
theorem dL_bars_146 : decode cL_bars 146 = .ok (.aload 4, 2) := by decide +kernel
theorem dL_bars_148 : decode cL_bars 148 = .ok (.iload 11, 2) := by decide +kernel
theorem dL_bars_150 : decode cL_bars 150 = .ok (.iaload, 1) := by decide +kernel
theorem dL_bars_151 : decode cL_bars 151 = .ok (.iconst 4, 1) := by decide +kernel
theorem dL_bars_152 : decode cL_bars 152 = .ok (.irem, 1) := by decide +kernel
theorem dL_bars_153 : decode cL_bars 153 = .ok (.iload 9, 2) := by decide +kernel
theorem dL_bars_155 : decode cL_bars 155 = .ok (.if_icmp .ne 12, 3) := by decide +kernel
theorem dL_bars_158 : decode cL_bars 158 = .ok (.iload 10, 2) := by decide +kernel
theorem dL_bars_160 : decode cL_bars 160 = .ok (.ifCond .ne 7, 3) := by decide +kernel
theorem dL_bars_163 : decode cL_bars 163 = .ok (.iconst 4, 1) := by decide +kernel
theorem dL_bars_164 : decode cL_bars 164 = .ok (.goto 5, 3) := by decide +kernel
theorem dL_bars_167 : decode cL_bars 167 = .ok (.iload 10, 2) := by decide +kernel
theorem dL_bars_169 : decode cL_bars 169 = .ok (.istore 10, 2) := by decide +kernel
theorem dL_bars_171 : decode cL_bars 171 = .ok (.iinc 11 1, 3) := by decide +kernel
theorem dL_bars_174 : decode cL_bars 174 = .ok (.goto (-94), 3) := by decide +kernel
theorem dL_bars_177 : decode cL_bars 177 = .ok (.iload 10, 2) := by decide +kernel
theorem dL_bars_179 : decode cL_bars 179 = .ok (.ifCond .gt 20, 3) := by decide +kernel
theorem dL_bars_182 : decode cL_bars 182 = .ok (.aload 4, 2) := by decide +kernel
theorem dL_bars_184 : decode cL_bars 184 = .ok (.iload 7, 2) := by decide +kernel
theorem dL_bars_186 : decode cL_bars 186 = .ok (.aload 4, 2) := by decide +kernel
theorem dL_bars_188 : decode cL_bars 188 = .ok (.iload 7, 2) := by decide +kernel
theorem dL_bars_190 : decode cL_bars 190 = .ok (.invokestatic 101, 3) := by decide +kernel
theorem dL_bars_193 : decode cL_bars 193 = .ok (.invokestatic 91, 3) := by decide +kernel
theorem dL_bars_196 : decode cL_bars 196 = .ok (.ifCond .eq 6, 3) := by decide +kernel
theorem dL_bars_199 : decode cL_bars 199 = .ok (.iload 10, 2) := by decide +kernel
theorem dL_bars_201 : decode cL_bars 201 = .ok (.ireturn, 1) := by decide +kernel
theorem dL_bars_202 : decode cL_bars 202 = .ok (.iconst 0, 1) := by decide +kernel
theorem dL_bars_203 : decode cL_bars 203 = .ok (.istore 11, 2) := by decide +kernel
theorem dL_bars_205 : decode cL_bars 205 = .ok (.iload 11, 2) := by decide +kernel
theorem dL_bars_207 : decode cL_bars 207 = .ok (.aload_n 0, 1) := by decide +kernel
theorem dL_bars_208 : decode cL_bars 208 = .ok (.iload 9, 2) := by decide +kernel
theorem dL_bars_210 : decode cL_bars 210 = .ok (.iaload, 1) := by decide +kernel
theorem dL_bars_211 : decode cL_bars 211 = .ok (.if_icmp .ge 36, 3) := by decide +kernel
theorem dL_bars_214 : decode cL_bars 214 = .ok (.aload_n 1, 1) := by decide +kernel
theorem dL_bars_215 : decode cL_bars 215 = .ok (.iconst 3, 1) := by decide +kernel
theorem dL_bars_216 : decode cL_bars 216 = .ok (.iload 9, 2) := by decide +kernel
theorem dL_bars_218 : decode cL_bars 218 = .ok (.imul, 1) := by decide +kernel
theorem dL_bars_219 : decode cL_bars 219 = .ok (.iload 11, 2) := by decide +kernel
theorem dL_bars_221 : decode cL_bars 221 = .ok (.iadd, 1) := by decide +kernel
theorem dL_bars_222 : decode cL_bars 222 = .ok (.iaload, 1) := by decide +kernel
theorem dL_bars_223 : decode cL_bars 223 = .ok (.sipush 360, 3) := by decide +kernel
theorem dL_bars_226 : decode cL_bars 226 = .ok (.idiv, 1) := by decide +kernel
theorem dL_bars_227 : decode cL_bars 227 = .ok (.sipush 999, 3) := by decide +kernel
theorem dL_bars_230 : decode cL_bars 230 = .ok (.if_icmp .le 7, 3) := by decide +kernel
theorem dL_bars_233 : decode cL_bars 233 = .ok (.iconst 5, 1) := by decide +kernel
theorem dL_bars_234 : decode cL_bars 234 = .ok (.goto 5, 3) := by decide +kernel
theorem dL_bars_237 : decode cL_bars 237 = .ok (.iload 10, 2) := by decide +kernel
theorem dL_bars_239 : decode cL_bars 239 = .ok (.istore 10, 2) := by decide +kernel
theorem dL_bars_241 : decode cL_bars 241 = .ok (.iinc 11 1, 3) := by decide +kernel
theorem dL_bars_244 : decode cL_bars 244 = .ok (.goto (-39), 3) := by decide +kernel
theorem dL_bars_247 : decode cL_bars 247 = .ok (.aload 4, 2) := by decide +kernel
theorem dL_bars_249 : decode cL_bars 249 = .ok (.aload_n 3, 1) := by decide +kernel
theorem dL_bars_250 : decode cL_bars 250 = .ok (.aload 5, 2) := by decide +kernel
theorem dL_bars_252 : decode cL_bars 252 = .ok (.iload 7, 2) := by decide +kernel
theorem dL_bars_254 : decode cL_bars 254 = .ok (.invokestatic 116, 3) := by decide +kernel
theorem dL_bars_257 : decode cL_bars 257 = .ok (.istore 11, 2) := by decide +kernel
theorem dL_bars_259 : decode cL_bars 259 = .ok (.iload 10, 2) := by decide +kernel
theorem dL_bars_261 : decode cL_bars 261 = .ok (.ifCond .le 8, 3) := by decide +kernel
theorem dL_bars_264 : decode cL_bars 264 = .ok (.iload 10, 2) := by decide +kernel
theorem dL_bars_266 : decode cL_bars 266 = .ok (.goto 27, 3) := by decide +kernel
theorem dL_bars_269 : decode cL_bars 269 = .ok (.iload 11, 2) := by decide +kernel
theorem dL_bars_271 : decode cL_bars 271 = .ok (.ifCond .lt 21, 3) := by decide +kernel
theorem dL_bars_274 : decode cL_bars 274 = .ok (.aload_n 2, 1) := by decide +kernel
theorem dL_bars_275 : decode cL_bars 275 = .ok (.bipush 10, 2) := by decide +kernel
theorem dL_bars_277 : decode cL_bars 277 = .ok (.iload 9, 2) := by decide +kernel
theorem dL_bars_279 : decode cL_bars 279 = .ok (.imul, 1) := by decide +kernel
theorem dL_bars_280 : decode cL_bars 280 = .ok (.iload 11, 2) := by decide +kernel
theorem dL_bars_282 : decode cL_bars 282 = .ok (.iadd, 1) := by decide +kernel
theorem dL_bars_283 : decode cL_bars 283 = .ok (.iaload, 1) := by decide +kernel
theorem dL_bars_284 : decode cL_bars 284 = .ok (.ifCond .ne 8, 3) := by decide +kernel
theorem dL_bars_287 : decode cL_bars 287 = .ok (.bipush 6, 2) := by decide +kernel
theorem dL_bars_289 : decode cL_bars 289 = .ok (.goto 4, 3) := by decide +kernel
theorem dL_bars_292 : decode cL_bars 292 = .ok (.iconst 0, 1) := by decide +kernel
theorem dL_bars_293 : decode cL_bars 293 = .ok (.ireturn, 1) := by decide +kernel
theorem dL_way_0 : decode cL_way 0 = .ok (.iload_n 1, 1) := by decide +kernel
theorem dL_way_1 : decode cL_way 1 = .ok (.iload_n 0, 1) := by decide +kernel
theorem dL_way_2 : decode cL_way 2 = .ok (.isub, 1) := by decide +kernel
theorem dL_way_3 : decode cL_way 3 = .ok (.sipush 360, 3) := by decide +kernel
theorem dL_way_6 : decode cL_way 6 = .ok (.iadd, 1) := by decide +kernel
theorem dL_way_7 : decode cL_way 7 = .ok (.sipush 360, 3) := by decide +kernel
theorem dL_way_10 : decode cL_way 10 = .ok (.irem, 1) := by decide +kernel
theorem dL_way_11 : decode cL_way 11 = .ok (.istore_n 2, 1) := by decide +kernel
theorem dL_way_12 : decode cL_way 12 = .ok (.iload_n 2, 1) := by decide +kernel
theorem dL_way_13 : decode cL_way 13 = .ok (.sipush 360, 3) := by decide +kernel
theorem dL_way_16 : decode cL_way 16 = .ok (.iload_n 2, 1) := by decide +kernel
theorem dL_way_17 : decode cL_way 17 = .ok (.isub, 1) := by decide +kernel
theorem dL_way_18 : decode cL_way 18 = .ok (.if_icmp .ge 7, 3) := by decide +kernel
theorem dL_way_21 : decode cL_way 21 = .ok (.iload_n 2, 1) := by decide +kernel
theorem dL_way_22 : decode cL_way 22 = .ok (.goto 8, 3) := by decide +kernel
theorem dL_way_25 : decode cL_way 25 = .ok (.sipush 360, 3) := by decide +kernel
theorem dL_way_28 : decode cL_way 28 = .ok (.iload_n 2, 1) := by decide +kernel
theorem dL_way_29 : decode cL_way 29 = .ok (.isub, 1) := by decide +kernel
theorem dL_way_30 : decode cL_way 30 = .ok (.ireturn, 1) := by decide +kernel
theorem dL_strikes_0 : decode cL_strikes 0 = .ok (.aload 4, 2) := by decide +kernel
theorem dL_strikes_2 : decode cL_strikes 2 = .ok (.iload 10, 2) := by decide +kernel
theorem dL_strikes_4 : decode cL_strikes 4 = .ok (.invokestatic 101, 3) := by decide +kernel
theorem dL_strikes_7 : decode cL_strikes 7 = .ok (.istore 11, 2) := by decide +kernel
theorem dL_strikes_9 : decode cL_strikes 9 = .ok (.bipush 6, 2) := by decide +kernel
theorem dL_strikes_11 : decode cL_strikes 11 = .ok (.iload 10, 2) := by decide +kernel
theorem dL_strikes_13 : decode cL_strikes 13 = .ok (.imul, 1) := by decide +kernel
theorem dL_strikes_14 : decode cL_strikes 14 = .ok (.iload 11, 2) := by decide +kernel
theorem dL_strikes_16 : decode cL_strikes 16 = .ok (.iadd, 1) := by decide +kernel
theorem dL_strikes_17 : decode cL_strikes 17 = .ok (.istore 12, 2) := by decide +kernel
theorem dL_strikes_19 : decode cL_strikes 19 = .ok (.aload 4, 2) := by decide +kernel
theorem dL_strikes_21 : decode cL_strikes 21 = .ok (.iload 10, 2) := by decide +kernel
theorem dL_strikes_23 : decode cL_strikes 23 = .ok (.iaload, 1) := by decide +kernel
theorem dL_strikes_24 : decode cL_strikes 24 = .ok (.iconst 4, 1) := by decide +kernel
theorem dL_strikes_25 : decode cL_strikes 25 = .ok (.irem, 1) := by decide +kernel
theorem dL_strikes_26 : decode cL_strikes 26 = .ok (.istore 13, 2) := by decide +kernel
theorem dL_strikes_28 : decode cL_strikes 28 = .ok (.aload 4, 2) := by decide +kernel
theorem dL_strikes_30 : decode cL_strikes 30 = .ok (.iload 10, 2) := by decide +kernel
theorem dL_strikes_32 : decode cL_strikes 32 = .ok (.iload 11, 2) := by decide +kernel
theorem dL_strikes_34 : decode cL_strikes 34 = .ok (.invokestatic 91, 3) := by decide +kernel
theorem dL_strikes_37 : decode cL_strikes 37 = .ok (.istore 14, 2) := by decide +kernel
theorem dL_strikes_39 : decode cL_strikes 39 = .ok (.iload 14, 2) := by decide +kernel
theorem dL_strikes_41 : decode cL_strikes 41 = .ok (.ifCond .eq 7, 3) := by decide +kernel
theorem dL_strikes_44 : decode cL_strikes 44 = .ok (.iconst (-1), 1) := by decide +kernel
theorem dL_strikes_45 : decode cL_strikes 45 = .ok (.goto 13, 3) := by decide +kernel
theorem dL_strikes_48 : decode cL_strikes 48 = .ok (.aload 4, 2) := by decide +kernel
theorem dL_strikes_50 : decode cL_strikes 50 = .ok (.aload_n 3, 1) := by decide +kernel
theorem dL_strikes_51 : decode cL_strikes 51 = .ok (.aload 8, 2) := by decide +kernel
theorem dL_strikes_53 : decode cL_strikes 53 = .ok (.iload 10, 2) := by decide +kernel
theorem dL_strikes_55 : decode cL_strikes 55 = .ok (.invokestatic 116, 3) := by decide +kernel
theorem dL_strikes_58 : decode cL_strikes 58 = .ok (.istore 15, 2) := by decide +kernel
theorem dL_strikes_60 : decode cL_strikes 60 = .ok (.aload_n 2, 1) := by decide +kernel
theorem dL_strikes_61 : decode cL_strikes 61 = .ok (.iload 15, 2) := by decide +kernel
theorem dL_strikes_63 : decode cL_strikes 63 = .ok (.ifCond .ge 8, 3) := by decide +kernel
theorem dL_strikes_66 : decode cL_strikes 66 = .ok (.bipush 20, 2) := by decide +kernel
theorem dL_strikes_68 : decode cL_strikes 68 = .ok (.goto 11, 3) := by decide +kernel
theorem dL_strikes_71 : decode cL_strikes 71 = .ok (.bipush 10, 2) := by decide +kernel
theorem dL_strikes_73 : decode cL_strikes 73 = .ok (.iload 13, 2) := by decide +kernel
theorem dL_strikes_75 : decode cL_strikes 75 = .ok (.imul, 1) := by decide +kernel
theorem dL_strikes_76 : decode cL_strikes 76 = .ok (.iload 15, 2) := by decide +kernel
theorem dL_strikes_78 : decode cL_strikes 78 = .ok (.iadd, 1) := by decide +kernel
theorem dL_strikes_79 : decode cL_strikes 79 = .ok (.dup2, 1) := by decide +kernel
theorem dL_strikes_80 : decode cL_strikes 80 = .ok (.iaload, 1) := by decide +kernel
theorem dL_strikes_81 : decode cL_strikes 81 = .ok (.iconst 1, 1) := by decide +kernel
theorem dL_strikes_82 : decode cL_strikes 82 = .ok (.isub, 1) := by decide +kernel
theorem dL_strikes_83 : decode cL_strikes 83 = .ok (.iastore, 1) := by decide +kernel
theorem dL_strikes_84 : decode cL_strikes 84 = .ok (.iload 14, 2) := by decide +kernel
theorem dL_strikes_86 : decode cL_strikes 86 = .ok (.ifCond .eq 16, 3) := by decide +kernel
theorem dL_strikes_89 : decode cL_strikes 89 = .ok (.aload 8, 2) := by decide +kernel
theorem dL_strikes_91 : decode cL_strikes 91 = .ok (.iload 12, 2) := by decide +kernel
theorem dL_strikes_93 : decode cL_strikes 93 = .ok (.iconst 1, 1) := by decide +kernel
theorem dL_strikes_94 : decode cL_strikes 94 = .ok (.isub, 1) := by decide +kernel
theorem dL_strikes_95 : decode cL_strikes 95 = .ok (.iaload, 1) := by decide +kernel
theorem dL_strikes_96 : decode cL_strikes 96 = .ok (.bipush 16, 2) := by decide +kernel
theorem dL_strikes_98 : decode cL_strikes 98 = .ok (.irem, 1) := by decide +kernel
theorem dL_strikes_99 : decode cL_strikes 99 = .ok (.goto 15, 3) := by decide +kernel
theorem dL_strikes_102 : decode cL_strikes 102 = .ok (.aload 4, 2) := by decide +kernel
theorem dL_strikes_104 : decode cL_strikes 104 = .ok (.aload_n 3, 1) := by decide +kernel
theorem dL_strikes_105 : decode cL_strikes 105 = .ok (.iload 10, 2) := by decide +kernel
theorem dL_strikes_107 : decode cL_strikes 107 = .ok (.iload 11, 2) := by decide +kernel
theorem dL_strikes_109 : decode cL_strikes 109 = .ok (.invokestatic 108, 3) := by decide +kernel
theorem dL_strikes_112 : decode cL_strikes 112 = .ok (.iconst 1, 1) := by decide +kernel
theorem dL_strikes_113 : decode cL_strikes 113 = .ok (.iadd, 1) := by decide +kernel
theorem dL_strikes_114 : decode cL_strikes 114 = .ok (.istore 16, 2) := by decide +kernel
theorem dL_strikes_116 : decode cL_strikes 116 = .ok (.iconst 0, 1) := by decide +kernel
theorem dL_strikes_117 : decode cL_strikes 117 = .ok (.istore 17, 2) := by decide +kernel
theorem dL_strikes_119 : decode cL_strikes 119 = .ok (.iload 17, 2) := by decide +kernel
theorem dL_strikes_121 : decode cL_strikes 121 = .ok (.aload_n 0, 1) := by decide +kernel
theorem dL_strikes_122 : decode cL_strikes 122 = .ok (.iload 13, 2) := by decide +kernel
theorem dL_strikes_124 : decode cL_strikes 124 = .ok (.iaload, 1) := by decide +kernel
theorem dL_strikes_125 : decode cL_strikes 125 = .ok (.if_icmp .ge 120, 3) := by decide +kernel
theorem dL_strikes_128 : decode cL_strikes 128 = .ok (.iload 14, 2) := by decide +kernel
theorem dL_strikes_130 : decode cL_strikes 130 = .ok (.ifCond .eq 25, 3) := by decide +kernel
theorem dL_strikes_133 : decode cL_strikes 133 = .ok (.aload 7, 2) := by decide +kernel
theorem dL_strikes_135 : decode cL_strikes 135 = .ok (.bipush 18, 2) := by decide +kernel
theorem dL_strikes_137 : decode cL_strikes 137 = .ok (.iload 10, 2) := by decide +kernel
theorem dL_strikes_139 : decode cL_strikes 139 = .ok (.imul, 1) := by decide +kernel
theorem dL_strikes_140 : decode cL_strikes 140 = .ok (.bipush 6, 2) := by decide +kernel
theorem dL_strikes_142 : decode cL_strikes 142 = .ok (.iload 17, 2) := by decide +kernel
theorem dL_strikes_144 : decode cL_strikes 144 = .ok (.imul, 1) := by decide +kernel
theorem dL_strikes_145 : decode cL_strikes 145 = .ok (.iadd, 1) := by decide +kernel
theorem dL_strikes_146 : decode cL_strikes 146 = .ok (.iload 11, 2) := by decide +kernel
theorem dL_strikes_148 : decode cL_strikes 148 = .ok (.iadd, 1) := by decide +kernel
theorem dL_strikes_149 : decode cL_strikes 149 = .ok (.iconst 1, 1) := by decide +kernel
theorem dL_strikes_150 : decode cL_strikes 150 = .ok (.isub, 1) := by decide +kernel
theorem dL_strikes_151 : decode cL_strikes 151 = .ok (.iaload, 1) := by decide +kernel
theorem dL_strikes_152 : decode cL_strikes 152 = .ok (.goto 16, 3) := by decide +kernel
theorem dL_strikes_155 : decode cL_strikes 155 = .ok (.aload 4, 2) := by decide +kernel
theorem dL_strikes_157 : decode cL_strikes 157 = .ok (.aload 5, 2) := by decide +kernel
theorem dL_strikes_159 : decode cL_strikes 159 = .ok (.iload 10, 2) := by decide +kernel
theorem dL_strikes_161 : decode cL_strikes 161 = .ok (.iload 17, 2) := by decide +kernel
theorem dL_strikes_163 : decode cL_strikes 163 = .ok (.iload 11, 2) := by decide +kernel
theorem dL_strikes_165 : decode cL_strikes 165 = .ok (.invokestatic 120, 3) := by decide +kernel
theorem dL_strikes_168 : decode cL_strikes 168 = .ok (.istore 18, 2) := by decide +kernel
theorem dL_strikes_170 : decode cL_strikes 170 = .ok (.iconst 3, 1) := by decide +kernel
theorem dL_strikes_171 : decode cL_strikes 171 = .ok (.iload 13, 2) := by decide +kernel
theorem dL_strikes_173 : decode cL_strikes 173 = .ok (.imul, 1) := by decide +kernel
theorem dL_strikes_174 : decode cL_strikes 174 = .ok (.iload 17, 2) := by decide +kernel
theorem dL_strikes_176 : decode cL_strikes 176 = .ok (.iadd, 1) := by decide +kernel
theorem dL_strikes_177 : decode cL_strikes 177 = .ok (.istore 19, 2) := by decide +kernel
theorem dL_strikes_179 : decode cL_strikes 179 = .ok (.aload 7, 2) := by decide +kernel
theorem dL_strikes_181 : decode cL_strikes 181 = .ok (.bipush 18, 2) := by decide +kernel
theorem dL_strikes_183 : decode cL_strikes 183 = .ok (.iload 10, 2) := by decide +kernel
theorem dL_strikes_185 : decode cL_strikes 185 = .ok (.imul, 1) := by decide +kernel
theorem dL_strikes_186 : decode cL_strikes 186 = .ok (.bipush 6, 2) := by decide +kernel
theorem dL_strikes_188 : decode cL_strikes 188 = .ok (.iload 17, 2) := by decide +kernel
theorem dL_strikes_190 : decode cL_strikes 190 = .ok (.imul, 1) := by decide +kernel
theorem dL_strikes_191 : decode cL_strikes 191 = .ok (.iadd, 1) := by decide +kernel
theorem dL_strikes_192 : decode cL_strikes 192 = .ok (.iload 11, 2) := by decide +kernel
theorem dL_strikes_194 : decode cL_strikes 194 = .ok (.iadd, 1) := by decide +kernel
theorem dL_strikes_195 : decode cL_strikes 195 = .ok (.iload 18, 2) := by decide +kernel
theorem dL_strikes_197 : decode cL_strikes 197 = .ok (.iastore, 1) := by decide +kernel
theorem dL_strikes_198 : decode cL_strikes 198 = .ok (.iload 14, 2) := by decide +kernel
theorem dL_strikes_200 : decode cL_strikes 200 = .ok (.ifCond .ne 39, 3) := by decide +kernel
theorem dL_strikes_203 : decode cL_strikes 203 = .ok (.aload_n 1, 1) := by decide +kernel
theorem dL_strikes_204 : decode cL_strikes 204 = .ok (.iload 19, 2) := by decide +kernel
theorem dL_strikes_206 : decode cL_strikes 206 = .ok (.dup2, 1) := by decide +kernel
theorem dL_strikes_207 : decode cL_strikes 207 = .ok (.iaload, 1) := by decide +kernel
theorem dL_strikes_208 : decode cL_strikes 208 = .ok (.sipush 360, 3) := by decide +kernel
theorem dL_strikes_211 : decode cL_strikes 211 = .ok (.aload_n 1, 1) := by decide +kernel
theorem dL_strikes_212 : decode cL_strikes 212 = .ok (.iload 19, 2) := by decide +kernel
theorem dL_strikes_214 : decode cL_strikes 214 = .ok (.iaload, 1) := by decide +kernel
theorem dL_strikes_215 : decode cL_strikes 215 = .ok (.sipush 360, 3) := by decide +kernel
theorem dL_strikes_218 : decode cL_strikes 218 = .ok (.irem, 1) := by decide +kernel
theorem dL_strikes_219 : decode cL_strikes 219 = .ok (.iload 18, 2) := by decide +kernel
theorem dL_strikes_221 : decode cL_strikes 221 = .ok (.invokestatic 124, 3) := by decide +kernel
theorem dL_strikes_224 : decode cL_strikes 224 = .ok (.imul, 1) := by decide +kernel
theorem dL_strikes_225 : decode cL_strikes 225 = .ok (.iload 18, 2) := by decide +kernel
theorem dL_strikes_227 : decode cL_strikes 227 = .ok (.iadd, 1) := by decide +kernel
theorem dL_strikes_228 : decode cL_strikes 228 = .ok (.aload_n 1, 1) := by decide +kernel
theorem dL_strikes_229 : decode cL_strikes 229 = .ok (.iload 19, 2) := by decide +kernel
theorem dL_strikes_231 : decode cL_strikes 231 = .ok (.iaload, 1) := by decide +kernel
theorem dL_strikes_232 : decode cL_strikes 232 = .ok (.sipush 360, 3) := by decide +kernel
theorem dL_strikes_235 : decode cL_strikes 235 = .ok (.irem, 1) := by decide +kernel
theorem dL_strikes_236 : decode cL_strikes 236 = .ok (.isub, 1) := by decide +kernel
theorem dL_strikes_237 : decode cL_strikes 237 = .ok (.iadd, 1) := by decide +kernel
theorem dL_strikes_238 : decode cL_strikes 238 = .ok (.iastore, 1) := by decide +kernel
theorem dL_strikes_239 : decode cL_strikes 239 = .ok (.iinc 17 1, 3) := by decide +kernel
theorem dL_strikes_242 : decode cL_strikes 242 = .ok (.goto (-123), 3) := by decide +kernel
theorem dL_strikes_245 : decode cL_strikes 245 = .ok (.aload 8, 2) := by decide +kernel
theorem dL_strikes_247 : decode cL_strikes 247 = .ok (.bipush 36, 2) := by decide +kernel
theorem dL_strikes_249 : decode cL_strikes 249 = .ok (.iload 12, 2) := by decide +kernel
theorem dL_strikes_251 : decode cL_strikes 251 = .ok (.iadd, 1) := by decide +kernel
theorem dL_strikes_252 : decode cL_strikes 252 = .ok (.aload 6, 2) := by decide +kernel
theorem dL_strikes_254 : decode cL_strikes 254 = .ok (.iload 10, 2) := by decide +kernel
theorem dL_strikes_256 : decode cL_strikes 256 = .ok (.iload 11, 2) := by decide +kernel
theorem dL_strikes_258 : decode cL_strikes 258 = .ok (.invokestatic 127, 3) := by decide +kernel
theorem dL_strikes_261 : decode cL_strikes 261 = .ok (.iastore, 1) := by decide +kernel
theorem dL_strikes_262 : decode cL_strikes 262 = .ok (.iconst 0, 1) := by decide +kernel
theorem dL_strikes_263 : decode cL_strikes 263 = .ok (.istore 17, 2) := by decide +kernel
theorem dL_strikes_265 : decode cL_strikes 265 = .ok (.iconst 0, 1) := by decide +kernel
theorem dL_strikes_266 : decode cL_strikes 266 = .ok (.istore 18, 2) := by decide +kernel
theorem dL_strikes_268 : decode cL_strikes 268 = .ok (.bipush 6, 2) := by decide +kernel
theorem dL_strikes_270 : decode cL_strikes 270 = .ok (.iload 10, 2) := by decide +kernel
theorem dL_strikes_272 : decode cL_strikes 272 = .ok (.imul, 1) := by decide +kernel
theorem dL_strikes_273 : decode cL_strikes 273 = .ok (.iconst 1, 1) := by decide +kernel
theorem dL_strikes_274 : decode cL_strikes 274 = .ok (.iadd, 1) := by decide +kernel
theorem dL_strikes_275 : decode cL_strikes 275 = .ok (.istore 19, 2) := by decide +kernel
theorem dL_strikes_277 : decode cL_strikes 277 = .ok (.iload 19, 2) := by decide +kernel
theorem dL_strikes_279 : decode cL_strikes 279 = .ok (.iload 12, 2) := by decide +kernel
theorem dL_strikes_281 : decode cL_strikes 281 = .ok (.if_icmp .gt 85, 3) := by decide +kernel
theorem dL_strikes_284 : decode cL_strikes 284 = .ok (.aload 8, 2) := by decide +kernel
theorem dL_strikes_286 : decode cL_strikes 286 = .ok (.bipush 36, 2) := by decide +kernel
theorem dL_strikes_288 : decode cL_strikes 288 = .ok (.iload 19, 2) := by decide +kernel
theorem dL_strikes_290 : decode cL_strikes 290 = .ok (.iadd, 1) := by decide +kernel
theorem dL_strikes_291 : decode cL_strikes 291 = .ok (.iaload, 1) := by decide +kernel
theorem dL_strikes_292 : decode cL_strikes 292 = .ok (.aload 8, 2) := by decide +kernel
theorem dL_strikes_294 : decode cL_strikes 294 = .ok (.bipush 35, 2) := by decide +kernel
theorem dL_strikes_296 : decode cL_strikes 296 = .ok (.iload 19, 2) := by decide +kernel
theorem dL_strikes_298 : decode cL_strikes 298 = .ok (.iadd, 1) := by decide +kernel
theorem dL_strikes_299 : decode cL_strikes 299 = .ok (.iaload, 1) := by decide +kernel
theorem dL_strikes_300 : decode cL_strikes 300 = .ok (.if_icmp .le 7, 3) := by decide +kernel
theorem dL_strikes_303 : decode cL_strikes 303 = .ok (.iconst 1, 1) := by decide +kernel
theorem dL_strikes_304 : decode cL_strikes 304 = .ok (.goto 28, 3) := by decide +kernel
theorem dL_strikes_307 : decode cL_strikes 307 = .ok (.aload 8, 2) := by decide +kernel
theorem dL_strikes_309 : decode cL_strikes 309 = .ok (.bipush 36, 2) := by decide +kernel
theorem dL_strikes_311 : decode cL_strikes 311 = .ok (.iload 19, 2) := by decide +kernel
theorem dL_strikes_313 : decode cL_strikes 313 = .ok (.iadd, 1) := by decide +kernel
theorem dL_strikes_314 : decode cL_strikes 314 = .ok (.iaload, 1) := by decide +kernel
theorem dL_strikes_315 : decode cL_strikes 315 = .ok (.aload 8, 2) := by decide +kernel
theorem dL_strikes_317 : decode cL_strikes 317 = .ok (.bipush 35, 2) := by decide +kernel
theorem dL_strikes_319 : decode cL_strikes 319 = .ok (.iload 19, 2) := by decide +kernel
theorem dL_strikes_321 : decode cL_strikes 321 = .ok (.iadd, 1) := by decide +kernel
theorem dL_strikes_322 : decode cL_strikes 322 = .ok (.iaload, 1) := by decide +kernel
theorem dL_strikes_323 : decode cL_strikes 323 = .ok (.if_icmp .ge 7, 3) := by decide +kernel
theorem dL_strikes_326 : decode cL_strikes 326 = .ok (.iconst 2, 1) := by decide +kernel
theorem dL_strikes_327 : decode cL_strikes 327 = .ok (.goto 5, 3) := by decide +kernel
theorem dL_strikes_330 : decode cL_strikes 330 = .ok (.iload 17, 2) := by decide +kernel
theorem dL_strikes_332 : decode cL_strikes 332 = .ok (.istore 20, 2) := by decide +kernel
theorem dL_strikes_334 : decode cL_strikes 334 = .ok (.iload 18, 2) := by decide +kernel
theorem dL_strikes_336 : decode cL_strikes 336 = .ok (.iload 17, 2) := by decide +kernel
theorem dL_strikes_338 : decode cL_strikes 338 = .ok (.ifCond .le 14, 3) := by decide +kernel
theorem dL_strikes_341 : decode cL_strikes 341 = .ok (.iload 20, 2) := by decide +kernel
theorem dL_strikes_343 : decode cL_strikes 343 = .ok (.iload 17, 2) := by decide +kernel
theorem dL_strikes_345 : decode cL_strikes 345 = .ok (.if_icmp .eq 7, 3) := by decide +kernel
theorem dL_strikes_348 : decode cL_strikes 348 = .ok (.iconst 1, 1) := by decide +kernel
theorem dL_strikes_349 : decode cL_strikes 349 = .ok (.goto 4, 3) := by decide +kernel
theorem dL_strikes_352 : decode cL_strikes 352 = .ok (.iconst 0, 1) := by decide +kernel
theorem dL_strikes_353 : decode cL_strikes 353 = .ok (.iadd, 1) := by decide +kernel
theorem dL_strikes_354 : decode cL_strikes 354 = .ok (.istore 18, 2) := by decide +kernel
theorem dL_strikes_356 : decode cL_strikes 356 = .ok (.iload 20, 2) := by decide +kernel
theorem dL_strikes_358 : decode cL_strikes 358 = .ok (.istore 17, 2) := by decide +kernel
theorem dL_strikes_360 : decode cL_strikes 360 = .ok (.iinc 19 1, 3) := by decide +kernel
theorem dL_strikes_363 : decode cL_strikes 363 = .ok (.goto (-86), 3) := by decide +kernel
theorem dL_strikes_366 : decode cL_strikes 366 = .ok (.aload 8, 2) := by decide +kernel
theorem dL_strikes_368 : decode cL_strikes 368 = .ok (.bipush 36, 2) := by decide +kernel
theorem dL_strikes_370 : decode cL_strikes 370 = .ok (.iload 12, 2) := by decide +kernel
theorem dL_strikes_372 : decode cL_strikes 372 = .ok (.iadd, 1) := by decide +kernel
theorem dL_strikes_373 : decode cL_strikes 373 = .ok (.iaload, 1) := by decide +kernel
theorem dL_strikes_374 : decode cL_strikes 374 = .ok (.iload 18, 2) := by decide +kernel
theorem dL_strikes_376 : decode cL_strikes 376 = .ok (.ifCond .ne 7, 3) := by decide +kernel
theorem dL_strikes_379 : decode cL_strikes 379 = .ok (.iconst 0, 1) := by decide +kernel
theorem dL_strikes_380 : decode cL_strikes 380 = .ok (.goto 21, 3) := by decide +kernel
theorem dL_strikes_383 : decode cL_strikes 383 = .ok (.iload 17, 2) := by decide +kernel
theorem dL_strikes_385 : decode cL_strikes 385 = .ok (.iconst 1, 1) := by decide +kernel
theorem dL_strikes_386 : decode cL_strikes 386 = .ok (.if_icmp .ne 11, 3) := by decide +kernel
theorem dL_strikes_389 : decode cL_strikes 389 = .ok (.aload 9, 2) := by decide +kernel
theorem dL_strikes_391 : decode cL_strikes 391 = .ok (.iconst 3, 1) := by decide +kernel
theorem dL_strikes_392 : decode cL_strikes 392 = .ok (.iaload, 1) := by decide +kernel
theorem dL_strikes_393 : decode cL_strikes 393 = .ok (.ineg, 1) := by decide +kernel
theorem dL_strikes_394 : decode cL_strikes 394 = .ok (.goto 7, 3) := by decide +kernel
theorem dL_strikes_397 : decode cL_strikes 397 = .ok (.aload 9, 2) := by decide +kernel
theorem dL_strikes_399 : decode cL_strikes 399 = .ok (.iconst 3, 1) := by decide +kernel
theorem dL_strikes_400 : decode cL_strikes 400 = .ok (.iaload, 1) := by decide +kernel
theorem dL_strikes_401 : decode cL_strikes 401 = .ok (.iadd, 1) := by decide +kernel
theorem dL_strikes_402 : decode cL_strikes 402 = .ok (.istore 19, 2) := by decide +kernel
theorem dL_strikes_404 : decode cL_strikes 404 = .ok (.aload 8, 2) := by decide +kernel
theorem dL_strikes_406 : decode cL_strikes 406 = .ok (.iload 12, 2) := by decide +kernel
theorem dL_strikes_408 : decode cL_strikes 408 = .ok (.iload 16, 2) := by decide +kernel
theorem dL_strikes_410 : decode cL_strikes 410 = .ok (.bipush 16, 2) := by decide +kernel
theorem dL_strikes_412 : decode cL_strikes 412 = .ok (.iload 19, 2) := by decide +kernel
theorem dL_strikes_414 : decode cL_strikes 414 = .ok (.sipush 2000, 3) := by decide +kernel
theorem dL_strikes_417 : decode cL_strikes 417 = .ok (.iadd, 1) := by decide +kernel
theorem dL_strikes_418 : decode cL_strikes 418 = .ok (.imul, 1) := by decide +kernel
theorem dL_strikes_419 : decode cL_strikes 419 = .ok (.iadd, 1) := by decide +kernel
theorem dL_strikes_420 : decode cL_strikes 420 = .ok (.ldc 131, 2) := by decide +kernel
theorem dL_strikes_422 : decode cL_strikes 422 = .ok (.aload 9, 2) := by decide +kernel
theorem dL_strikes_424 : decode cL_strikes 424 = .ok (.invokestatic 132, 3) := by decide +kernel
theorem dL_strikes_427 : decode cL_strikes 427 = .ok (.imul, 1) := by decide +kernel
theorem dL_strikes_428 : decode cL_strikes 428 = .ok (.iadd, 1) := by decide +kernel
theorem dL_strikes_429 : decode cL_strikes 429 = .ok (.iastore, 1) := by decide +kernel
theorem dL_strikes_430 : decode cL_strikes 430 = .ok (.aload 8, 2) := by decide +kernel
theorem dL_strikes_432 : decode cL_strikes 432 = .ok (.bipush 18, 2) := by decide +kernel
theorem dL_strikes_434 : decode cL_strikes 434 = .ok (.iload 12, 2) := by decide +kernel
theorem dL_strikes_436 : decode cL_strikes 436 = .ok (.iadd, 1) := by decide +kernel
theorem dL_strikes_437 : decode cL_strikes 437 = .ok (.aload 8, 2) := by decide +kernel
theorem dL_strikes_439 : decode cL_strikes 439 = .ok (.bipush 54, 2) := by decide +kernel
theorem dL_strikes_441 : decode cL_strikes 441 = .ok (.iload 10, 2) := by decide +kernel
theorem dL_strikes_443 : decode cL_strikes 443 = .ok (.iadd, 1) := by decide +kernel
theorem dL_strikes_444 : decode cL_strikes 444 = .ok (.iaload, 1) := by decide +kernel
theorem dL_strikes_445 : decode cL_strikes 445 = .ok (.iastore, 1) := by decide +kernel
theorem dL_strikes_446 : decode cL_strikes 446 = .ok (.aload 9, 2) := by decide +kernel
theorem dL_strikes_448 : decode cL_strikes 448 = .ok (.iconst 4, 1) := by decide +kernel
theorem dL_strikes_449 : decode cL_strikes 449 = .ok (.dup2, 1) := by decide +kernel
theorem dL_strikes_450 : decode cL_strikes 450 = .ok (.iaload, 1) := by decide +kernel
theorem dL_strikes_451 : decode cL_strikes 451 = .ok (.iconst 1, 1) := by decide +kernel
theorem dL_strikes_452 : decode cL_strikes 452 = .ok (.iadd, 1) := by decide +kernel
theorem dL_strikes_453 : decode cL_strikes 453 = .ok (.iastore, 1) := by decide +kernel
theorem dL_strikes_454 : decode cL_strikes 454 = .ok (.aload 4, 2) := by decide +kernel
theorem dL_strikes_456 : decode cL_strikes 456 = .ok (.iload 10, 2) := by decide +kernel
theorem dL_strikes_458 : decode cL_strikes 458 = .ok (.dup2, 1) := by decide +kernel
theorem dL_strikes_459 : decode cL_strikes 459 = .ok (.iaload, 1) := by decide +kernel
theorem dL_strikes_460 : decode cL_strikes 460 = .ok (.sipush 8192, 3) := by decide +kernel
theorem dL_strikes_463 : decode cL_strikes 463 = .ok (.iadd, 1) := by decide +kernel
theorem dL_strikes_464 : decode cL_strikes 464 = .ok (.iastore, 1) := by decide +kernel
theorem dL_strikes_465 : decode cL_strikes 465 = .ok (.return_, 1) := by decide +kernel
theorem dL_isSo_0 : decode cL_isSo 0 = .ok (.aload_n 0, 1) := by decide +kernel
theorem dL_isSo_1 : decode cL_isSo 1 = .ok (.invokevirtual 136, 3) := by decide +kernel
theorem dL_isSo_4 : decode cL_isSo 4 = .ok (.aload 10, 2) := by decide +kernel
theorem dL_isSo_6 : decode cL_isSo 6 = .ok (.invokestatic 132, 3) := by decide +kernel
theorem dL_isSo_9 : decode cL_isSo 9 = .ok (.if_icmp .ne 7, 3) := by decide +kernel
theorem dL_isSo_12 : decode cL_isSo 12 = .ok (.iconst 1, 1) := by decide +kernel
theorem dL_isSo_13 : decode cL_isSo 13 = .ok (.goto 4, 3) := by decide +kernel
theorem dL_isSo_16 : decode cL_isSo 16 = .ok (.iconst 0, 1) := by decide +kernel
theorem dL_isSo_17 : decode cL_isSo 17 = .ok (.istore 13, 2) := by decide +kernel
theorem dL_isSo_19 : decode cL_isSo 19 = .ok (.iconst 0, 1) := by decide +kernel
theorem dL_isSo_20 : decode cL_isSo 20 = .ok (.istore 14, 2) := by decide +kernel
theorem dL_isSo_22 : decode cL_isSo 22 = .ok (.iload 14, 2) := by decide +kernel
theorem dL_isSo_24 : decode cL_isSo 24 = .ok (.aload 10, 2) := by decide +kernel
theorem dL_isSo_26 : decode cL_isSo 26 = .ok (.iconst 0, 1) := by decide +kernel
theorem dL_isSo_27 : decode cL_isSo 27 = .ok (.iaload, 1) := by decide +kernel
theorem dL_isSo_28 : decode cL_isSo 28 = .ok (.if_icmp .ge 158, 3) := by decide +kernel
theorem dL_isSo_31 : decode cL_isSo 31 = .ok (.iload 13, 2) := by decide +kernel
theorem dL_isSo_33 : decode cL_isSo 33 = .ok (.ifCond .eq 153, 3) := by decide +kernel
theorem dL_isSo_36 : decode cL_isSo 36 = .ok (.iconst 0, 1) := by decide +kernel
theorem dL_isSo_37 : decode cL_isSo 37 = .ok (.istore 15, 2) := by decide +kernel
theorem dL_isSo_39 : decode cL_isSo 39 = .ok (.iload 15, 2) := by decide +kernel
theorem dL_isSo_41 : decode cL_isSo 41 = .ok (.aload_n 1, 1) := by decide +kernel
theorem dL_isSo_42 : decode cL_isSo 42 = .ok (.iload 14, 2) := by decide +kernel
theorem dL_isSo_44 : decode cL_isSo 44 = .ok (.iaload, 1) := by decide +kernel
theorem dL_isSo_45 : decode cL_isSo 45 = .ok (.if_icmp .ge 71, 3) := by decide +kernel
theorem dL_isSo_48 : decode cL_isSo 48 = .ok (.iload 13, 2) := by decide +kernel
theorem dL_isSo_50 : decode cL_isSo 50 = .ok (.ifCond .eq 66, 3) := by decide +kernel
theorem dL_isSo_53 : decode cL_isSo 53 = .ok (.aload_n 0, 1) := by decide +kernel
theorem dL_isSo_54 : decode cL_isSo 54 = .ok (.iload 14, 2) := by decide +kernel
theorem dL_isSo_56 : decode cL_isSo 56 = .ok (.iload 15, 2) := by decide +kernel
theorem dL_isSo_58 : decode cL_isSo 58 = .ok (.iconst 0, 1) := by decide +kernel
theorem dL_isSo_59 : decode cL_isSo 59 = .ok (.invokevirtual 138, 3) := by decide +kernel
theorem dL_isSo_62 : decode cL_isSo 62 = .ok (.aload_n 2, 1) := by decide +kernel
theorem dL_isSo_63 : decode cL_isSo 63 = .ok (.iconst 3, 1) := by decide +kernel
theorem dL_isSo_64 : decode cL_isSo 64 = .ok (.iload 14, 2) := by decide +kernel
theorem dL_isSo_66 : decode cL_isSo 66 = .ok (.imul, 1) := by decide +kernel
theorem dL_isSo_67 : decode cL_isSo 67 = .ok (.iload 15, 2) := by decide +kernel
theorem dL_isSo_69 : decode cL_isSo 69 = .ok (.iadd, 1) := by decide +kernel
theorem dL_isSo_70 : decode cL_isSo 70 = .ok (.iaload, 1) := by decide +kernel
theorem dL_isSo_71 : decode cL_isSo 71 = .ok (.sipush 360, 3) := by decide +kernel
theorem dL_isSo_74 : decode cL_isSo 74 = .ok (.irem, 1) := by decide +kernel
theorem dL_isSo_75 : decode cL_isSo 75 = .ok (.if_icmp .ne 32, 3) := by decide +kernel
theorem dL_isSo_78 : decode cL_isSo 78 = .ok (.aload_n 0, 1) := by decide +kernel
theorem dL_isSo_79 : decode cL_isSo 79 = .ok (.iload 14, 2) := by decide +kernel
theorem dL_isSo_81 : decode cL_isSo 81 = .ok (.iload 15, 2) := by decide +kernel
theorem dL_isSo_83 : decode cL_isSo 83 = .ok (.iconst 1, 1) := by decide +kernel
theorem dL_isSo_84 : decode cL_isSo 84 = .ok (.invokevirtual 138, 3) := by decide +kernel
theorem dL_isSo_87 : decode cL_isSo 87 = .ok (.aload_n 2, 1) := by decide +kernel
theorem dL_isSo_88 : decode cL_isSo 88 = .ok (.iconst 3, 1) := by decide +kernel
theorem dL_isSo_89 : decode cL_isSo 89 = .ok (.iload 14, 2) := by decide +kernel
theorem dL_isSo_91 : decode cL_isSo 91 = .ok (.imul, 1) := by decide +kernel
theorem dL_isSo_92 : decode cL_isSo 92 = .ok (.iload 15, 2) := by decide +kernel
theorem dL_isSo_94 : decode cL_isSo 94 = .ok (.iadd, 1) := by decide +kernel
theorem dL_isSo_95 : decode cL_isSo 95 = .ok (.iaload, 1) := by decide +kernel
theorem dL_isSo_96 : decode cL_isSo 96 = .ok (.sipush 360, 3) := by decide +kernel
theorem dL_isSo_99 : decode cL_isSo 99 = .ok (.idiv, 1) := by decide +kernel
theorem dL_isSo_100 : decode cL_isSo 100 = .ok (.if_icmp .ne 7, 3) := by decide +kernel
theorem dL_isSo_103 : decode cL_isSo 103 = .ok (.iconst 1, 1) := by decide +kernel
theorem dL_isSo_104 : decode cL_isSo 104 = .ok (.goto 4, 3) := by decide +kernel
theorem dL_isSo_107 : decode cL_isSo 107 = .ok (.iconst 0, 1) := by decide +kernel
theorem dL_isSo_108 : decode cL_isSo 108 = .ok (.istore 13, 2) := by decide +kernel
theorem dL_isSo_110 : decode cL_isSo 110 = .ok (.iinc 15 1, 3) := by decide +kernel
theorem dL_isSo_113 : decode cL_isSo 113 = .ok (.goto (-74), 3) := by decide +kernel
theorem dL_isSo_116 : decode cL_isSo 116 = .ok (.iload 13, 2) := by decide +kernel
theorem dL_isSo_118 : decode cL_isSo 118 = .ok (.ifCond .eq 59, 3) := by decide +kernel
theorem dL_isSo_121 : decode cL_isSo 121 = .ok (.aload_n 0, 1) := by decide +kernel
theorem dL_isSo_122 : decode cL_isSo 122 = .ok (.iload 14, 2) := by decide +kernel
theorem dL_isSo_124 : decode cL_isSo 124 = .ok (.iload 11, 2) := by decide +kernel
theorem dL_isSo_126 : decode cL_isSo 126 = .ok (.bipush 10, 2) := by decide +kernel
theorem dL_isSo_128 : decode cL_isSo 128 = .ok (.irem, 1) := by decide +kernel
theorem dL_isSo_129 : decode cL_isSo 129 = .ok (.invokevirtual 141, 3) := by decide +kernel
theorem dL_isSo_132 : decode cL_isSo 132 = .ok (.aload_n 3, 1) := by decide +kernel
theorem dL_isSo_133 : decode cL_isSo 133 = .ok (.bipush 10, 2) := by decide +kernel
theorem dL_isSo_135 : decode cL_isSo 135 = .ok (.iload 14, 2) := by decide +kernel
theorem dL_isSo_137 : decode cL_isSo 137 = .ok (.imul, 1) := by decide +kernel
theorem dL_isSo_138 : decode cL_isSo 138 = .ok (.iload 11, 2) := by decide +kernel
theorem dL_isSo_140 : decode cL_isSo 140 = .ok (.bipush 10, 2) := by decide +kernel
theorem dL_isSo_142 : decode cL_isSo 142 = .ok (.irem, 1) := by decide +kernel
theorem dL_isSo_143 : decode cL_isSo 143 = .ok (.iadd, 1) := by decide +kernel
theorem dL_isSo_144 : decode cL_isSo 144 = .ok (.iaload, 1) := by decide +kernel
theorem dL_isSo_145 : decode cL_isSo 145 = .ok (.if_icmp .ne 32, 3) := by decide +kernel
theorem dL_isSo_148 : decode cL_isSo 148 = .ok (.aload_n 0, 1) := by decide +kernel
theorem dL_isSo_149 : decode cL_isSo 149 = .ok (.iload 14, 2) := by decide +kernel
theorem dL_isSo_151 : decode cL_isSo 151 = .ok (.iload 12, 2) := by decide +kernel
theorem dL_isSo_153 : decode cL_isSo 153 = .ok (.iconst 3, 1) := by decide +kernel
theorem dL_isSo_154 : decode cL_isSo 154 = .ok (.irem, 1) := by decide +kernel
theorem dL_isSo_155 : decode cL_isSo 155 = .ok (.invokevirtual 141, 3) := by decide +kernel
theorem dL_isSo_158 : decode cL_isSo 158 = .ok (.aload_n 3, 1) := by decide +kernel
theorem dL_isSo_159 : decode cL_isSo 159 = .ok (.bipush 10, 2) := by decide +kernel
theorem dL_isSo_161 : decode cL_isSo 161 = .ok (.iload 14, 2) := by decide +kernel
theorem dL_isSo_163 : decode cL_isSo 163 = .ok (.imul, 1) := by decide +kernel
theorem dL_isSo_164 : decode cL_isSo 164 = .ok (.iload 12, 2) := by decide +kernel
theorem dL_isSo_166 : decode cL_isSo 166 = .ok (.iconst 3, 1) := by decide +kernel
theorem dL_isSo_167 : decode cL_isSo 167 = .ok (.irem, 1) := by decide +kernel
theorem dL_isSo_168 : decode cL_isSo 168 = .ok (.iadd, 1) := by decide +kernel
theorem dL_isSo_169 : decode cL_isSo 169 = .ok (.iaload, 1) := by decide +kernel
theorem dL_isSo_170 : decode cL_isSo 170 = .ok (.if_icmp .ne 7, 3) := by decide +kernel
theorem dL_isSo_173 : decode cL_isSo 173 = .ok (.iconst 1, 1) := by decide +kernel
theorem dL_isSo_174 : decode cL_isSo 174 = .ok (.goto 4, 3) := by decide +kernel
theorem dL_isSo_177 : decode cL_isSo 177 = .ok (.iconst 0, 1) := by decide +kernel
theorem dL_isSo_178 : decode cL_isSo 178 = .ok (.istore 13, 2) := by decide +kernel
theorem dL_isSo_180 : decode cL_isSo 180 = .ok (.iinc 14 1, 3) := by decide +kernel
theorem dL_isSo_183 : decode cL_isSo 183 = .ok (.goto (-161), 3) := by decide +kernel
theorem dL_isSo_186 : decode cL_isSo 186 = .ok (.iconst 0, 1) := by decide +kernel
theorem dL_isSo_187 : decode cL_isSo 187 = .ok (.istore 14, 2) := by decide +kernel
theorem dL_isSo_189 : decode cL_isSo 189 = .ok (.iload 14, 2) := by decide +kernel
theorem dL_isSo_191 : decode cL_isSo 191 = .ok (.aload 10, 2) := by decide +kernel
theorem dL_isSo_193 : decode cL_isSo 193 = .ok (.iconst 2, 1) := by decide +kernel
theorem dL_isSo_194 : decode cL_isSo 194 = .ok (.iaload, 1) := by decide +kernel
theorem dL_isSo_195 : decode cL_isSo 195 = .ok (.if_icmp .ge 749, 3) := by decide +kernel
theorem dL_isSo_198 : decode cL_isSo 198 = .ok (.iload 13, 2) := by decide +kernel
theorem dL_isSo_200 : decode cL_isSo 200 = .ok (.ifCond .eq 744, 3) := by decide +kernel
theorem dL_isSo_203 : decode cL_isSo 203 = .ok (.aload 5, 2) := by decide +kernel
theorem dL_isSo_205 : decode cL_isSo 205 = .ok (.iload 14, 2) := by decide +kernel
theorem dL_isSo_207 : decode cL_isSo 207 = .ok (.iaload, 1) := by decide +kernel
theorem dL_isSo_208 : decode cL_isSo 208 = .ok (.iconst 4, 1) := by decide +kernel
theorem dL_isSo_209 : decode cL_isSo 209 = .ok (.irem, 1) := by decide +kernel
theorem dL_isSo_210 : decode cL_isSo 210 = .ok (.istore 15, 2) := by decide +kernel
theorem dL_isSo_212 : decode cL_isSo 212 = .ok (.iload 11, 2) := by decide +kernel
theorem dL_isSo_214 : decode cL_isSo 214 = .ok (.aload_n 1, 1) := by decide +kernel
theorem dL_isSo_215 : decode cL_isSo 215 = .ok (.iload 15, 2) := by decide +kernel
theorem dL_isSo_217 : decode cL_isSo 217 = .ok (.iaload, 1) := by decide +kernel
theorem dL_isSo_218 : decode cL_isSo 218 = .ok (.irem, 1) := by decide +kernel
theorem dL_isSo_219 : decode cL_isSo 219 = .ok (.istore 16, 2) := by decide +kernel
theorem dL_isSo_221 : decode cL_isSo 221 = .ok (.iconst 0, 1) := by decide +kernel
theorem dL_isSo_222 : decode cL_isSo 222 = .ok (.istore 17, 2) := by decide +kernel
theorem dL_isSo_224 : decode cL_isSo 224 = .ok (.iconst 0, 1) := by decide +kernel
theorem dL_isSo_225 : decode cL_isSo 225 = .ok (.istore 18, 2) := by decide +kernel
theorem dL_isSo_227 : decode cL_isSo 227 = .ok (.aload_n 2, 1) := by decide +kernel
theorem dL_isSo_228 : decode cL_isSo 228 = .ok (.iconst 3, 1) := by decide +kernel
theorem dL_isSo_229 : decode cL_isSo 229 = .ok (.iload 15, 2) := by decide +kernel
theorem dL_isSo_231 : decode cL_isSo 231 = .ok (.imul, 1) := by decide +kernel
theorem dL_isSo_232 : decode cL_isSo 232 = .ok (.iload 16, 2) := by decide +kernel
theorem dL_isSo_234 : decode cL_isSo 234 = .ok (.iadd, 1) := by decide +kernel
theorem dL_isSo_235 : decode cL_isSo 235 = .ok (.iaload, 1) := by decide +kernel
theorem dL_isSo_236 : decode cL_isSo 236 = .ok (.sipush 360, 3) := by decide +kernel
theorem dL_isSo_239 : decode cL_isSo 239 = .ok (.irem, 1) := by decide +kernel
theorem dL_isSo_240 : decode cL_isSo 240 = .ok (.istore 19, 2) := by decide +kernel
theorem dL_isSo_242 : decode cL_isSo 242 = .ok (.iconst (-1), 1) := by decide +kernel
theorem dL_isSo_243 : decode cL_isSo 243 = .ok (.istore 20, 2) := by decide +kernel
theorem dL_isSo_245 : decode cL_isSo 245 = .ok (.iconst 0, 1) := by decide +kernel
theorem dL_isSo_246 : decode cL_isSo 246 = .ok (.istore 21, 2) := by decide +kernel
theorem dL_isSo_248 : decode cL_isSo 248 = .ok (.iload 21, 2) := by decide +kernel
theorem dL_isSo_250 : decode cL_isSo 250 = .ok (.aload 5, 2) := by decide +kernel
theorem dL_isSo_252 : decode cL_isSo 252 = .ok (.iload 14, 2) := by decide +kernel
theorem dL_isSo_254 : decode cL_isSo 254 = .ok (.invokestatic 105, 3) := by decide +kernel
theorem dL_isSo_257 : decode cL_isSo 257 = .ok (.if_icmp .ge 167, 3) := by decide +kernel
theorem dL_isSo_260 : decode cL_isSo 260 = .ok (.iload 13, 2) := by decide +kernel
theorem dL_isSo_262 : decode cL_isSo 262 = .ok (.ifCond .eq 162, 3) := by decide +kernel
theorem dL_isSo_265 : decode cL_isSo 265 = .ok (.aload 5, 2) := by decide +kernel
theorem dL_isSo_267 : decode cL_isSo 267 = .ok (.aload 6, 2) := by decide +kernel
theorem dL_isSo_269 : decode cL_isSo 269 = .ok (.iload 14, 2) := by decide +kernel
theorem dL_isSo_271 : decode cL_isSo 271 = .ok (.iload 16, 2) := by decide +kernel
theorem dL_isSo_273 : decode cL_isSo 273 = .ok (.iload 21, 2) := by decide +kernel
theorem dL_isSo_275 : decode cL_isSo 275 = .ok (.invokestatic 120, 3) := by decide +kernel
theorem dL_isSo_278 : decode cL_isSo 278 = .ok (.istore 22, 2) := by decide +kernel
theorem dL_isSo_280 : decode cL_isSo 280 = .ok (.aload 5, 2) := by decide +kernel
theorem dL_isSo_282 : decode cL_isSo 282 = .ok (.aload 4, 2) := by decide +kernel
theorem dL_isSo_284 : decode cL_isSo 284 = .ok (.iload 14, 2) := by decide +kernel
theorem dL_isSo_286 : decode cL_isSo 286 = .ok (.iload 21, 2) := by decide +kernel
theorem dL_isSo_288 : decode cL_isSo 288 = .ok (.invokestatic 108, 3) := by decide +kernel
theorem dL_isSo_291 : decode cL_isSo 291 = .ok (.istore 23, 2) := by decide +kernel
theorem dL_isSo_293 : decode cL_isSo 293 = .ok (.aload_n 0, 1) := by decide +kernel
theorem dL_isSo_294 : decode cL_isSo 294 = .ok (.iload 14, 2) := by decide +kernel
theorem dL_isSo_296 : decode cL_isSo 296 = .ok (.iload 16, 2) := by decide +kernel
theorem dL_isSo_298 : decode cL_isSo 298 = .ok (.iload 21, 2) := by decide +kernel
theorem dL_isSo_300 : decode cL_isSo 300 = .ok (.invokevirtual 144, 3) := by decide +kernel
theorem dL_isSo_303 : decode cL_isSo 303 = .ok (.iload 22, 2) := by decide +kernel
theorem dL_isSo_305 : decode cL_isSo 305 = .ok (.if_icmp .ne 40, 3) := by decide +kernel
theorem dL_isSo_308 : decode cL_isSo 308 = .ok (.aload_n 0, 1) := by decide +kernel
theorem dL_isSo_309 : decode cL_isSo 309 = .ok (.iload 14, 2) := by decide +kernel
theorem dL_isSo_311 : decode cL_isSo 311 = .ok (.iload 21, 2) := by decide +kernel
theorem dL_isSo_313 : decode cL_isSo 313 = .ok (.invokevirtual 146, 3) := by decide +kernel
theorem dL_isSo_316 : decode cL_isSo 316 = .ok (.iload 23, 2) := by decide +kernel
theorem dL_isSo_318 : decode cL_isSo 318 = .ok (.if_icmp .ne 27, 3) := by decide +kernel
theorem dL_isSo_321 : decode cL_isSo 321 = .ok (.aload_n 0, 1) := by decide +kernel
theorem dL_isSo_322 : decode cL_isSo 322 = .ok (.iload 14, 2) := by decide +kernel
theorem dL_isSo_324 : decode cL_isSo 324 = .ok (.iload 21, 2) := by decide +kernel
theorem dL_isSo_326 : decode cL_isSo 326 = .ok (.invokevirtual 148, 3) := by decide +kernel
theorem dL_isSo_329 : decode cL_isSo 329 = .ok (.aload 7, 2) := by decide +kernel
theorem dL_isSo_331 : decode cL_isSo 331 = .ok (.iload 14, 2) := by decide +kernel
theorem dL_isSo_333 : decode cL_isSo 333 = .ok (.iload 21, 2) := by decide +kernel
theorem dL_isSo_335 : decode cL_isSo 335 = .ok (.invokestatic 127, 3) := by decide +kernel
theorem dL_isSo_338 : decode cL_isSo 338 = .ok (.if_icmp .ne 7, 3) := by decide +kernel
theorem dL_isSo_341 : decode cL_isSo 341 = .ok (.iconst 1, 1) := by decide +kernel
theorem dL_isSo_342 : decode cL_isSo 342 = .ok (.goto 4, 3) := by decide +kernel
theorem dL_isSo_345 : decode cL_isSo 345 = .ok (.iconst 0, 1) := by decide +kernel
theorem dL_isSo_346 : decode cL_isSo 346 = .ok (.istore 13, 2) := by decide +kernel
theorem dL_isSo_348 : decode cL_isSo 348 = .ok (.iload 17, 2) := by decide +kernel
theorem dL_isSo_350 : decode cL_isSo 350 = .ok (.iload 23, 2) := by decide +kernel
theorem dL_isSo_352 : decode cL_isSo 352 = .ok (.iload 12, 2) := by decide +kernel
theorem dL_isSo_354 : decode cL_isSo 354 = .ok (.iconst 3, 1) := by decide +kernel
theorem dL_isSo_355 : decode cL_isSo 355 = .ok (.irem, 1) := by decide +kernel
theorem dL_isSo_356 : decode cL_isSo 356 = .ok (.if_icmp .ne 14, 3) := by decide +kernel
theorem dL_isSo_359 : decode cL_isSo 359 = .ok (.iload 20, 2) := by decide +kernel
theorem dL_isSo_361 : decode cL_isSo 361 = .ok (.iload 23, 2) := by decide +kernel
theorem dL_isSo_363 : decode cL_isSo 363 = .ok (.if_icmp .eq 7, 3) := by decide +kernel
theorem dL_isSo_366 : decode cL_isSo 366 = .ok (.iconst 1, 1) := by decide +kernel
theorem dL_isSo_367 : decode cL_isSo 367 = .ok (.goto 4, 3) := by decide +kernel
theorem dL_isSo_370 : decode cL_isSo 370 = .ok (.iconst 0, 1) := by decide +kernel
theorem dL_isSo_371 : decode cL_isSo 371 = .ok (.iadd, 1) := by decide +kernel
theorem dL_isSo_372 : decode cL_isSo 372 = .ok (.istore 17, 2) := by decide +kernel
theorem dL_isSo_374 : decode cL_isSo 374 = .ok (.iload 23, 2) := by decide +kernel
theorem dL_isSo_376 : decode cL_isSo 376 = .ok (.istore 20, 2) := by decide +kernel
theorem dL_isSo_378 : decode cL_isSo 378 = .ok (.iload 21, 2) := by decide +kernel
theorem dL_isSo_380 : decode cL_isSo 380 = .ok (.aload 5, 2) := by decide +kernel
theorem dL_isSo_382 : decode cL_isSo 382 = .ok (.iload 14, 2) := by decide +kernel
theorem dL_isSo_384 : decode cL_isSo 384 = .ok (.invokestatic 101, 3) := by decide +kernel
theorem dL_isSo_387 : decode cL_isSo 387 = .ok (.if_icmp .lt 31, 3) := by decide +kernel
theorem dL_isSo_390 : decode cL_isSo 390 = .ok (.aload 5, 2) := by decide +kernel
theorem dL_isSo_392 : decode cL_isSo 392 = .ok (.iload 14, 2) := by decide +kernel
theorem dL_isSo_394 : decode cL_isSo 394 = .ok (.iload 21, 2) := by decide +kernel
theorem dL_isSo_396 : decode cL_isSo 396 = .ok (.invokestatic 91, 3) := by decide +kernel
theorem dL_isSo_399 : decode cL_isSo 399 = .ok (.ifCond .ne 19, 3) := by decide +kernel
theorem dL_isSo_402 : decode cL_isSo 402 = .ok (.iload 18, 2) := by decide +kernel
theorem dL_isSo_404 : decode cL_isSo 404 = .ok (.iload 19, 2) := by decide +kernel
theorem dL_isSo_406 : decode cL_isSo 406 = .ok (.iload 22, 2) := by decide +kernel
theorem dL_isSo_408 : decode cL_isSo 408 = .ok (.invokestatic 124, 3) := by decide +kernel
theorem dL_isSo_411 : decode cL_isSo 411 = .ok (.iadd, 1) := by decide +kernel
theorem dL_isSo_412 : decode cL_isSo 412 = .ok (.istore 18, 2) := by decide +kernel
theorem dL_isSo_414 : decode cL_isSo 414 = .ok (.iload 22, 2) := by decide +kernel
theorem dL_isSo_416 : decode cL_isSo 416 = .ok (.istore 19, 2) := by decide +kernel
theorem dL_isSo_418 : decode cL_isSo 418 = .ok (.iinc 21 1, 3) := by decide +kernel
theorem dL_isSo_421 : decode cL_isSo 421 = .ok (.goto (-173), 3) := by decide +kernel
theorem dL_isSo_424 : decode cL_isSo 424 = .ok (.iload 13, 2) := by decide +kernel
theorem dL_isSo_426 : decode cL_isSo 426 = .ok (.ifCond .eq 76, 3) := by decide +kernel
theorem dL_isSo_429 : decode cL_isSo 429 = .ok (.aload_n 0, 1) := by decide +kernel
theorem dL_isSo_430 : decode cL_isSo 430 = .ok (.iload 14, 2) := by decide +kernel
theorem dL_isSo_432 : decode cL_isSo 432 = .ok (.iload 12, 2) := by decide +kernel
theorem dL_isSo_434 : decode cL_isSo 434 = .ok (.iconst 3, 1) := by decide +kernel
theorem dL_isSo_435 : decode cL_isSo 435 = .ok (.irem, 1) := by decide +kernel
theorem dL_isSo_436 : decode cL_isSo 436 = .ok (.invokevirtual 150, 3) := by decide +kernel
theorem dL_isSo_439 : decode cL_isSo 439 = .ok (.iload 17, 2) := by decide +kernel
theorem dL_isSo_441 : decode cL_isSo 441 = .ok (.if_icmp .ne 61, 3) := by decide +kernel
theorem dL_isSo_444 : decode cL_isSo 444 = .ok (.aload_n 0, 1) := by decide +kernel
theorem dL_isSo_445 : decode cL_isSo 445 = .ok (.iload 14, 2) := by decide +kernel
theorem dL_isSo_447 : decode cL_isSo 447 = .ok (.iload 16, 2) := by decide +kernel
theorem dL_isSo_449 : decode cL_isSo 449 = .ok (.invokevirtual 153, 3) := by decide +kernel
theorem dL_isSo_452 : decode cL_isSo 452 = .ok (.iload 18, 2) := by decide +kernel
theorem dL_isSo_454 : decode cL_isSo 454 = .ok (.if_icmp .ne 48, 3) := by decide +kernel
theorem dL_isSo_457 : decode cL_isSo 457 = .ok (.aload_n 0, 1) := by decide +kernel
theorem dL_isSo_458 : decode cL_isSo 458 = .ok (.iload 14, 2) := by decide +kernel
theorem dL_isSo_460 : decode cL_isSo 460 = .ok (.invokevirtual 156, 3) := by decide +kernel
theorem dL_isSo_463 : decode cL_isSo 463 = .ok (.aload 5, 2) := by decide +kernel
theorem dL_isSo_465 : decode cL_isSo 465 = .ok (.iload 14, 2) := by decide +kernel
theorem dL_isSo_467 : decode cL_isSo 467 = .ok (.invokestatic 101, 3) := by decide +kernel
theorem dL_isSo_470 : decode cL_isSo 470 = .ok (.if_icmp .ne 32, 3) := by decide +kernel
theorem dL_isSo_473 : decode cL_isSo 473 = .ok (.aload_n 0, 1) := by decide +kernel
theorem dL_isSo_474 : decode cL_isSo 474 = .ok (.iload 14, 2) := by decide +kernel
theorem dL_isSo_476 : decode cL_isSo 476 = .ok (.invokevirtual 70, 3) := by decide +kernel
theorem dL_isSo_479 : decode cL_isSo 479 = .ok (.aload_n 1, 1) := by decide +kernel
theorem dL_isSo_480 : decode cL_isSo 480 = .ok (.aload_n 2, 1) := by decide +kernel
theorem dL_isSo_481 : decode cL_isSo 481 = .ok (.aload_n 3, 1) := by decide +kernel
theorem dL_isSo_482 : decode cL_isSo 482 = .ok (.aload 4, 2) := by decide +kernel
theorem dL_isSo_484 : decode cL_isSo 484 = .ok (.aload 5, 2) := by decide +kernel
theorem dL_isSo_486 : decode cL_isSo 486 = .ok (.aload 9, 2) := by decide +kernel
theorem dL_isSo_488 : decode cL_isSo 488 = .ok (.aload 10, 2) := by decide +kernel
theorem dL_isSo_490 : decode cL_isSo 490 = .ok (.iload 14, 2) := by decide +kernel
theorem dL_isSo_492 : decode cL_isSo 492 = .ok (.invokestatic 158, 3) := by decide +kernel
theorem dL_isSo_495 : decode cL_isSo 495 = .ok (.if_icmp .ne 7, 3) := by decide +kernel
theorem dL_isSo_498 : decode cL_isSo 498 = .ok (.iconst 1, 1) := by decide +kernel
theorem dL_isSo_499 : decode cL_isSo 499 = .ok (.goto 4, 3) := by decide +kernel
theorem dL_isSo_502 : decode cL_isSo 502 = .ok (.iconst 0, 1) := by decide +kernel
theorem dL_isSo_503 : decode cL_isSo 503 = .ok (.istore 13, 2) := by decide +kernel
theorem dL_isSo_505 : decode cL_isSo 505 = .ok (.iconst 0, 1) := by decide +kernel
theorem dL_isSo_506 : decode cL_isSo 506 = .ok (.istore 21, 2) := by decide +kernel
theorem dL_isSo_508 : decode cL_isSo 508 = .ok (.iload 21, 2) := by decide +kernel
theorem dL_isSo_510 : decode cL_isSo 510 = .ok (.aload 5, 2) := by decide +kernel
theorem dL_isSo_512 : decode cL_isSo 512 = .ok (.iload 14, 2) := by decide +kernel
theorem dL_isSo_514 : decode cL_isSo 514 = .ok (.invokestatic 101, 3) := by decide +kernel
theorem dL_isSo_517 : decode cL_isSo 517 = .ok (.if_icmp .ge 387, 3) := by decide +kernel
theorem dL_isSo_520 : decode cL_isSo 520 = .ok (.iload 13, 2) := by decide +kernel
theorem dL_isSo_522 : decode cL_isSo 522 = .ok (.ifCond .eq 382, 3) := by decide +kernel
theorem dL_isSo_525 : decode cL_isSo 525 = .ok (.aload 9, 2) := by decide +kernel
theorem dL_isSo_527 : decode cL_isSo 527 = .ok (.bipush 6, 2) := by decide +kernel
theorem dL_isSo_529 : decode cL_isSo 529 = .ok (.iload 14, 2) := by decide +kernel
theorem dL_isSo_531 : decode cL_isSo 531 = .ok (.imul, 1) := by decide +kernel
theorem dL_isSo_532 : decode cL_isSo 532 = .ok (.iload 21, 2) := by decide +kernel
theorem dL_isSo_534 : decode cL_isSo 534 = .ok (.iadd, 1) := by decide +kernel
theorem dL_isSo_535 : decode cL_isSo 535 = .ok (.iaload, 1) := by decide +kernel
theorem dL_isSo_536 : decode cL_isSo 536 = .ok (.istore 22, 2) := by decide +kernel
theorem dL_isSo_538 : decode cL_isSo 538 = .ok (.iconst 0, 1) := by decide +kernel
theorem dL_isSo_539 : decode cL_isSo 539 = .ok (.istore 23, 2) := by decide +kernel
theorem dL_isSo_541 : decode cL_isSo 541 = .ok (.iconst 0, 1) := by decide +kernel
theorem dL_isSo_542 : decode cL_isSo 542 = .ok (.istore 24, 2) := by decide +kernel
theorem dL_isSo_544 : decode cL_isSo 544 = .ok (.iload 24, 2) := by decide +kernel
theorem dL_isSo_546 : decode cL_isSo 546 = .ok (.aload_n 1, 1) := by decide +kernel
theorem dL_isSo_547 : decode cL_isSo 547 = .ok (.iload 15, 2) := by decide +kernel
theorem dL_isSo_549 : decode cL_isSo 549 = .ok (.iaload, 1) := by decide +kernel
theorem dL_isSo_550 : decode cL_isSo 550 = .ok (.if_icmp .ge 92, 3) := by decide +kernel
theorem dL_isSo_553 : decode cL_isSo 553 = .ok (.aload 8, 2) := by decide +kernel
theorem dL_isSo_555 : decode cL_isSo 555 = .ok (.bipush 18, 2) := by decide +kernel
theorem dL_isSo_557 : decode cL_isSo 557 = .ok (.iload 14, 2) := by decide +kernel
theorem dL_isSo_559 : decode cL_isSo 559 = .ok (.imul, 1) := by decide +kernel
theorem dL_isSo_560 : decode cL_isSo 560 = .ok (.bipush 6, 2) := by decide +kernel
theorem dL_isSo_562 : decode cL_isSo 562 = .ok (.iload 24, 2) := by decide +kernel
theorem dL_isSo_564 : decode cL_isSo 564 = .ok (.imul, 1) := by decide +kernel
theorem dL_isSo_565 : decode cL_isSo 565 = .ok (.iadd, 1) := by decide +kernel
theorem dL_isSo_566 : decode cL_isSo 566 = .ok (.iload 21, 2) := by decide +kernel
theorem dL_isSo_568 : decode cL_isSo 568 = .ok (.iadd, 1) := by decide +kernel
theorem dL_isSo_569 : decode cL_isSo 569 = .ok (.iaload, 1) := by decide +kernel
theorem dL_isSo_570 : decode cL_isSo 570 = .ok (.aload 5, 2) := by decide +kernel
theorem dL_isSo_572 : decode cL_isSo 572 = .ok (.aload 6, 2) := by decide +kernel
theorem dL_isSo_574 : decode cL_isSo 574 = .ok (.iload 14, 2) := by decide +kernel
theorem dL_isSo_576 : decode cL_isSo 576 = .ok (.iload 24, 2) := by decide +kernel
theorem dL_isSo_578 : decode cL_isSo 578 = .ok (.iload 21, 2) := by decide +kernel
theorem dL_isSo_580 : decode cL_isSo 580 = .ok (.invokestatic 120, 3) := by decide +kernel
theorem dL_isSo_583 : decode cL_isSo 583 = .ok (.if_icmp .eq 7, 3) := by decide +kernel
theorem dL_isSo_586 : decode cL_isSo 586 = .ok (.iconst 1, 1) := by decide +kernel
theorem dL_isSo_587 : decode cL_isSo 587 = .ok (.goto 5, 3) := by decide +kernel
theorem dL_isSo_590 : decode cL_isSo 590 = .ok (.iload 23, 2) := by decide +kernel
theorem dL_isSo_592 : decode cL_isSo 592 = .ok (.istore 23, 2) := by decide +kernel
theorem dL_isSo_594 : decode cL_isSo 594 = .ok (.iload 13, 2) := by decide +kernel
theorem dL_isSo_596 : decode cL_isSo 596 = .ok (.ifCond .eq 37, 3) := by decide +kernel
theorem dL_isSo_599 : decode cL_isSo 599 = .ok (.aload_n 0, 1) := by decide +kernel
theorem dL_isSo_600 : decode cL_isSo 600 = .ok (.iload 14, 2) := by decide +kernel
theorem dL_isSo_602 : decode cL_isSo 602 = .ok (.iload 24, 2) := by decide +kernel
theorem dL_isSo_604 : decode cL_isSo 604 = .ok (.iload 21, 2) := by decide +kernel
theorem dL_isSo_606 : decode cL_isSo 606 = .ok (.invokevirtual 73, 3) := by decide +kernel
theorem dL_isSo_609 : decode cL_isSo 609 = .ok (.aload 8, 2) := by decide +kernel
theorem dL_isSo_611 : decode cL_isSo 611 = .ok (.bipush 18, 2) := by decide +kernel
theorem dL_isSo_613 : decode cL_isSo 613 = .ok (.iload 14, 2) := by decide +kernel
theorem dL_isSo_615 : decode cL_isSo 615 = .ok (.imul, 1) := by decide +kernel
theorem dL_isSo_616 : decode cL_isSo 616 = .ok (.bipush 6, 2) := by decide +kernel
theorem dL_isSo_618 : decode cL_isSo 618 = .ok (.iload 24, 2) := by decide +kernel
theorem dL_isSo_620 : decode cL_isSo 620 = .ok (.imul, 1) := by decide +kernel
theorem dL_isSo_621 : decode cL_isSo 621 = .ok (.iadd, 1) := by decide +kernel
theorem dL_isSo_622 : decode cL_isSo 622 = .ok (.iload 21, 2) := by decide +kernel
theorem dL_isSo_624 : decode cL_isSo 624 = .ok (.iadd, 1) := by decide +kernel
theorem dL_isSo_625 : decode cL_isSo 625 = .ok (.iaload, 1) := by decide +kernel
theorem dL_isSo_626 : decode cL_isSo 626 = .ok (.if_icmp .ne 7, 3) := by decide +kernel
theorem dL_isSo_629 : decode cL_isSo 629 = .ok (.iconst 1, 1) := by decide +kernel
theorem dL_isSo_630 : decode cL_isSo 630 = .ok (.goto 4, 3) := by decide +kernel
theorem dL_isSo_633 : decode cL_isSo 633 = .ok (.iconst 0, 1) := by decide +kernel
theorem dL_isSo_634 : decode cL_isSo 634 = .ok (.istore 13, 2) := by decide +kernel
theorem dL_isSo_636 : decode cL_isSo 636 = .ok (.iinc 24 1, 3) := by decide +kernel
theorem dL_isSo_639 : decode cL_isSo 639 = .ok (.goto (-95), 3) := by decide +kernel
theorem dL_isSo_642 : decode cL_isSo 642 = .ok (.iload 23, 2) := by decide +kernel
theorem dL_isSo_644 : decode cL_isSo 644 = .ok (.iload 22, 2) := by decide +kernel
theorem dL_isSo_646 : decode cL_isSo 646 = .ok (.bipush 16, 2) := by decide +kernel
theorem dL_isSo_648 : decode cL_isSo 648 = .ok (.irem, 1) := by decide +kernel
theorem dL_isSo_649 : decode cL_isSo 649 = .ok (.iconst 1, 1) := by decide +kernel
theorem dL_isSo_650 : decode cL_isSo 650 = .ok (.isub, 1) := by decide +kernel
theorem dL_isSo_651 : decode cL_isSo 651 = .ok (.aload 5, 2) := by decide +kernel
theorem dL_isSo_653 : decode cL_isSo 653 = .ok (.aload 4, 2) := by decide +kernel
theorem dL_isSo_655 : decode cL_isSo 655 = .ok (.iload 14, 2) := by decide +kernel
theorem dL_isSo_657 : decode cL_isSo 657 = .ok (.iload 21, 2) := by decide +kernel
theorem dL_isSo_659 : decode cL_isSo 659 = .ok (.invokestatic 108, 3) := by decide +kernel
theorem dL_isSo_662 : decode cL_isSo 662 = .ok (.if_icmp .eq 7, 3) := by decide +kernel
theorem dL_isSo_665 : decode cL_isSo 665 = .ok (.iconst 2, 1) := by decide +kernel
theorem dL_isSo_666 : decode cL_isSo 666 = .ok (.goto 4, 3) := by decide +kernel
theorem dL_isSo_669 : decode cL_isSo 669 = .ok (.iconst 0, 1) := by decide +kernel
theorem dL_isSo_670 : decode cL_isSo 670 = .ok (.aload 9, 2) := by decide +kernel
theorem dL_isSo_672 : decode cL_isSo 672 = .ok (.bipush 18, 2) := by decide +kernel
theorem dL_isSo_674 : decode cL_isSo 674 = .ok (.bipush 6, 2) := by decide +kernel
theorem dL_isSo_676 : decode cL_isSo 676 = .ok (.iload 14, 2) := by decide +kernel
theorem dL_isSo_678 : decode cL_isSo 678 = .ok (.imul, 1) := by decide +kernel
theorem dL_isSo_679 : decode cL_isSo 679 = .ok (.iadd, 1) := by decide +kernel
theorem dL_isSo_680 : decode cL_isSo 680 = .ok (.iload 21, 2) := by decide +kernel
theorem dL_isSo_682 : decode cL_isSo 682 = .ok (.iadd, 1) := by decide +kernel
theorem dL_isSo_683 : decode cL_isSo 683 = .ok (.iaload, 1) := by decide +kernel
theorem dL_isSo_684 : decode cL_isSo 684 = .ok (.ifCond .eq 7, 3) := by decide +kernel
theorem dL_isSo_687 : decode cL_isSo 687 = .ok (.iconst 4, 1) := by decide +kernel
theorem dL_isSo_688 : decode cL_isSo 688 = .ok (.goto 4, 3) := by decide +kernel
theorem dL_isSo_691 : decode cL_isSo 691 = .ok (.iconst 0, 1) := by decide +kernel
theorem dL_isSo_692 : decode cL_isSo 692 = .ok (.iadd, 1) := by decide +kernel
theorem dL_isSo_693 : decode cL_isSo 693 = .ok (.iload 22, 2) := by decide +kernel
theorem dL_isSo_695 : decode cL_isSo 695 = .ok (.bipush 16, 2) := by decide +kernel
theorem dL_isSo_697 : decode cL_isSo 697 = .ok (.idiv, 1) := by decide +kernel
theorem dL_isSo_698 : decode cL_isSo 698 = .ok (.sipush 4096, 3) := by decide +kernel
theorem dL_isSo_701 : decode cL_isSo 701 = .ok (.irem, 1) := by decide +kernel
theorem dL_isSo_702 : decode cL_isSo 702 = .ok (.sipush 2000, 3) := by decide +kernel
theorem dL_isSo_705 : decode cL_isSo 705 = .ok (.isub, 1) := by decide +kernel
theorem dL_isSo_706 : decode cL_isSo 706 = .ok (.aload 7, 2) := by decide +kernel
theorem dL_isSo_708 : decode cL_isSo 708 = .ok (.iload 14, 2) := by decide +kernel
theorem dL_isSo_710 : decode cL_isSo 710 = .ok (.iload 21, 2) := by decide +kernel
theorem dL_isSo_712 : decode cL_isSo 712 = .ok (.invokestatic 127, 3) := by decide +kernel
theorem dL_isSo_715 : decode cL_isSo 715 = .ok (.if_icmp .eq 8, 3) := by decide +kernel
theorem dL_isSo_718 : decode cL_isSo 718 = .ok (.bipush 16, 2) := by decide +kernel
theorem dL_isSo_720 : decode cL_isSo 720 = .ok (.goto 4, 3) := by decide +kernel
theorem dL_isSo_723 : decode cL_isSo 723 = .ok (.iconst 0, 1) := by decide +kernel
theorem dL_isSo_724 : decode cL_isSo 724 = .ok (.iadd, 1) := by decide +kernel
theorem dL_isSo_725 : decode cL_isSo 725 = .ok (.iadd, 1) := by decide +kernel
theorem dL_isSo_726 : decode cL_isSo 726 = .ok (.istore 23, 2) := by decide +kernel
theorem dL_isSo_728 : decode cL_isSo 728 = .ok (.iload 21, 2) := by decide +kernel
theorem dL_isSo_730 : decode cL_isSo 730 = .ok (.ifCond .ne 7, 3) := by decide +kernel
theorem dL_isSo_733 : decode cL_isSo 733 = .ok (.iconst 0, 1) := by decide +kernel
theorem dL_isSo_734 : decode cL_isSo 734 = .ok (.goto 25, 3) := by decide +kernel
theorem dL_isSo_737 : decode cL_isSo 737 = .ok (.iload 22, 2) := by decide +kernel
theorem dL_isSo_739 : decode cL_isSo 739 = .ok (.ldc 131, 2) := by decide +kernel
theorem dL_isSo_741 : decode cL_isSo 741 = .ok (.idiv, 1) := by decide +kernel
theorem dL_isSo_742 : decode cL_isSo 742 = .ok (.aload 9, 2) := by decide +kernel
theorem dL_isSo_744 : decode cL_isSo 744 = .ok (.bipush 6, 2) := by decide +kernel
theorem dL_isSo_746 : decode cL_isSo 746 = .ok (.iload 14, 2) := by decide +kernel
theorem dL_isSo_748 : decode cL_isSo 748 = .ok (.imul, 1) := by decide +kernel
theorem dL_isSo_749 : decode cL_isSo 749 = .ok (.iload 21, 2) := by decide +kernel
theorem dL_isSo_751 : decode cL_isSo 751 = .ok (.iadd, 1) := by decide +kernel
theorem dL_isSo_752 : decode cL_isSo 752 = .ok (.iconst 1, 1) := by decide +kernel
theorem dL_isSo_753 : decode cL_isSo 753 = .ok (.isub, 1) := by decide +kernel
theorem dL_isSo_754 : decode cL_isSo 754 = .ok (.iaload, 1) := by decide +kernel
theorem dL_isSo_755 : decode cL_isSo 755 = .ok (.ldc 131, 2) := by decide +kernel
theorem dL_isSo_757 : decode cL_isSo 757 = .ok (.idiv, 1) := by decide +kernel
theorem dL_isSo_758 : decode cL_isSo 758 = .ok (.isub, 1) := by decide +kernel
theorem dL_isSo_759 : decode cL_isSo 759 = .ok (.istore 24, 2) := by decide +kernel
theorem dL_isSo_761 : decode cL_isSo 761 = .ok (.iload 23, 2) := by decide +kernel
theorem dL_isSo_763 : decode cL_isSo 763 = .ok (.iload 24, 2) := by decide +kernel
theorem dL_isSo_765 : decode cL_isSo 765 = .ok (.bipush 20, 2) := by decide +kernel
theorem dL_isSo_767 : decode cL_isSo 767 = .ok (.if_icmp .gt 10, 3) := by decide +kernel
theorem dL_isSo_770 : decode cL_isSo 770 = .ok (.iload 24, 2) := by decide +kernel
theorem dL_isSo_772 : decode cL_isSo 772 = .ok (.bipush (-20), 2) := by decide +kernel
theorem dL_isSo_774 : decode cL_isSo 774 = .ok (.if_icmp .ge 8, 3) := by decide +kernel
theorem dL_isSo_777 : decode cL_isSo 777 = .ok (.bipush 8, 2) := by decide +kernel
theorem dL_isSo_779 : decode cL_isSo 779 = .ok (.goto 4, 3) := by decide +kernel
theorem dL_isSo_782 : decode cL_isSo 782 = .ok (.iconst 0, 1) := by decide +kernel
theorem dL_isSo_783 : decode cL_isSo 783 = .ok (.iadd, 1) := by decide +kernel
theorem dL_isSo_784 : decode cL_isSo 784 = .ok (.istore 23, 2) := by decide +kernel
theorem dL_isSo_786 : decode cL_isSo 786 = .ok (.iload 13, 2) := by decide +kernel
theorem dL_isSo_788 : decode cL_isSo 788 = .ok (.ifCond .eq 107, 3) := by decide +kernel
theorem dL_isSo_791 : decode cL_isSo 791 = .ok (.aload_n 0, 1) := by decide +kernel
theorem dL_isSo_792 : decode cL_isSo 792 = .ok (.iload 14, 2) := by decide +kernel
theorem dL_isSo_794 : decode cL_isSo 794 = .ok (.iload 21, 2) := by decide +kernel
theorem dL_isSo_796 : decode cL_isSo 796 = .ok (.iconst 0, 1) := by decide +kernel
theorem dL_isSo_797 : decode cL_isSo 797 = .ok (.invokevirtual 76, 3) := by decide +kernel
theorem dL_isSo_800 : decode cL_isSo 800 = .ok (.iload 22, 2) := by decide +kernel
theorem dL_isSo_802 : decode cL_isSo 802 = .ok (.bipush 16, 2) := by decide +kernel
theorem dL_isSo_804 : decode cL_isSo 804 = .ok (.irem, 1) := by decide +kernel
theorem dL_isSo_805 : decode cL_isSo 805 = .ok (.iconst 1, 1) := by decide +kernel
theorem dL_isSo_806 : decode cL_isSo 806 = .ok (.isub, 1) := by decide +kernel
theorem dL_isSo_807 : decode cL_isSo 807 = .ok (.if_icmp .ne 88, 3) := by decide +kernel
theorem dL_isSo_810 : decode cL_isSo 810 = .ok (.aload_n 0, 1) := by decide +kernel
theorem dL_isSo_811 : decode cL_isSo 811 = .ok (.iload 14, 2) := by decide +kernel
theorem dL_isSo_813 : decode cL_isSo 813 = .ok (.iload 21, 2) := by decide +kernel
theorem dL_isSo_815 : decode cL_isSo 815 = .ok (.iconst 1, 1) := by decide +kernel
theorem dL_isSo_816 : decode cL_isSo 816 = .ok (.invokevirtual 76, 3) := by decide +kernel
theorem dL_isSo_819 : decode cL_isSo 819 = .ok (.iload 22, 2) := by decide +kernel
theorem dL_isSo_821 : decode cL_isSo 821 = .ok (.bipush 16, 2) := by decide +kernel
theorem dL_isSo_823 : decode cL_isSo 823 = .ok (.idiv, 1) := by decide +kernel
theorem dL_isSo_824 : decode cL_isSo 824 = .ok (.sipush 4096, 3) := by decide +kernel
theorem dL_isSo_827 : decode cL_isSo 827 = .ok (.irem, 1) := by decide +kernel
theorem dL_isSo_828 : decode cL_isSo 828 = .ok (.sipush 2000, 3) := by decide +kernel
theorem dL_isSo_831 : decode cL_isSo 831 = .ok (.isub, 1) := by decide +kernel
theorem dL_isSo_832 : decode cL_isSo 832 = .ok (.if_icmp .ne 63, 3) := by decide +kernel
theorem dL_isSo_835 : decode cL_isSo 835 = .ok (.aload_n 0, 1) := by decide +kernel
theorem dL_isSo_836 : decode cL_isSo 836 = .ok (.iload 14, 2) := by decide +kernel
theorem dL_isSo_838 : decode cL_isSo 838 = .ok (.iload 21, 2) := by decide +kernel
theorem dL_isSo_840 : decode cL_isSo 840 = .ok (.iconst 2, 1) := by decide +kernel
theorem dL_isSo_841 : decode cL_isSo 841 = .ok (.invokevirtual 76, 3) := by decide +kernel
theorem dL_isSo_844 : decode cL_isSo 844 = .ok (.iload 22, 2) := by decide +kernel
theorem dL_isSo_846 : decode cL_isSo 846 = .ok (.ldc 131, 2) := by decide +kernel
theorem dL_isSo_848 : decode cL_isSo 848 = .ok (.idiv, 1) := by decide +kernel
theorem dL_isSo_849 : decode cL_isSo 849 = .ok (.if_icmp .ne 46, 3) := by decide +kernel
theorem dL_isSo_852 : decode cL_isSo 852 = .ok (.aload_n 0, 1) := by decide +kernel
theorem dL_isSo_853 : decode cL_isSo 853 = .ok (.iload 14, 2) := by decide +kernel
theorem dL_isSo_855 : decode cL_isSo 855 = .ok (.iload 21, 2) := by decide +kernel
theorem dL_isSo_857 : decode cL_isSo 857 = .ok (.iconst 3, 1) := by decide +kernel
theorem dL_isSo_858 : decode cL_isSo 858 = .ok (.invokevirtual 76, 3) := by decide +kernel
theorem dL_isSo_861 : decode cL_isSo 861 = .ok (.aload 9, 2) := by decide +kernel
theorem dL_isSo_863 : decode cL_isSo 863 = .ok (.bipush 18, 2) := by decide +kernel
theorem dL_isSo_865 : decode cL_isSo 865 = .ok (.bipush 6, 2) := by decide +kernel
theorem dL_isSo_867 : decode cL_isSo 867 = .ok (.iload 14, 2) := by decide +kernel
theorem dL_isSo_869 : decode cL_isSo 869 = .ok (.imul, 1) := by decide +kernel
theorem dL_isSo_870 : decode cL_isSo 870 = .ok (.iadd, 1) := by decide +kernel
theorem dL_isSo_871 : decode cL_isSo 871 = .ok (.iload 21, 2) := by decide +kernel
theorem dL_isSo_873 : decode cL_isSo 873 = .ok (.iadd, 1) := by decide +kernel
theorem dL_isSo_874 : decode cL_isSo 874 = .ok (.iaload, 1) := by decide +kernel
theorem dL_isSo_875 : decode cL_isSo 875 = .ok (.if_icmp .ne 20, 3) := by decide +kernel
theorem dL_isSo_878 : decode cL_isSo 878 = .ok (.aload_n 0, 1) := by decide +kernel
theorem dL_isSo_879 : decode cL_isSo 879 = .ok (.iload 14, 2) := by decide +kernel
theorem dL_isSo_881 : decode cL_isSo 881 = .ok (.iload 21, 2) := by decide +kernel
theorem dL_isSo_883 : decode cL_isSo 883 = .ok (.invokevirtual 79, 3) := by decide +kernel
theorem dL_isSo_886 : decode cL_isSo 886 = .ok (.iload 23, 2) := by decide +kernel
theorem dL_isSo_888 : decode cL_isSo 888 = .ok (.if_icmp .ne 7, 3) := by decide +kernel
theorem dL_isSo_891 : decode cL_isSo 891 = .ok (.iconst 1, 1) := by decide +kernel
theorem dL_isSo_892 : decode cL_isSo 892 = .ok (.goto 4, 3) := by decide +kernel
theorem dL_isSo_895 : decode cL_isSo 895 = .ok (.iconst 0, 1) := by decide +kernel
theorem dL_isSo_896 : decode cL_isSo 896 = .ok (.istore 13, 2) := by decide +kernel
theorem dL_isSo_898 : decode cL_isSo 898 = .ok (.iinc 21 1, 3) := by decide +kernel
theorem dL_isSo_901 : decode cL_isSo 901 = .ok (.goto (-393), 3) := by decide +kernel
theorem dL_isSo_904 : decode cL_isSo 904 = .ok (.iload 13, 2) := by decide +kernel
theorem dL_isSo_906 : decode cL_isSo 906 = .ok (.ifCond .eq 29, 3) := by decide +kernel
theorem dL_isSo_909 : decode cL_isSo 909 = .ok (.aload_n 0, 1) := by decide +kernel
theorem dL_isSo_910 : decode cL_isSo 910 = .ok (.bipush 21, 2) := by decide +kernel
theorem dL_isSo_912 : decode cL_isSo 912 = .ok (.iload 14, 2) := by decide +kernel
theorem dL_isSo_914 : decode cL_isSo 914 = .ok (.aload 5, 2) := by decide +kernel
theorem dL_isSo_916 : decode cL_isSo 916 = .ok (.iload 14, 2) := by decide +kernel
theorem dL_isSo_918 : decode cL_isSo 918 = .ok (.invokestatic 101, 3) := by decide +kernel
theorem dL_isSo_921 : decode cL_isSo 921 = .ok (.iconst 0, 1) := by decide +kernel
theorem dL_isSo_922 : decode cL_isSo 922 = .ok (.iconst 0, 1) := by decide +kernel
theorem dL_isSo_923 : decode cL_isSo 923 = .ok (.invokestatic 161, 3) := by decide +kernel
theorem dL_isSo_926 : decode cL_isSo 926 = .ok (.ldc 84, 2) := by decide +kernel
theorem dL_isSo_928 : decode cL_isSo 928 = .ok (.if_icmp .ne 7, 3) := by decide +kernel
theorem dL_isSo_931 : decode cL_isSo 931 = .ok (.iconst 1, 1) := by decide +kernel
theorem dL_isSo_932 : decode cL_isSo 932 = .ok (.goto 4, 3) := by decide +kernel
theorem dL_isSo_935 : decode cL_isSo 935 = .ok (.iconst 0, 1) := by decide +kernel
theorem dL_isSo_936 : decode cL_isSo 936 = .ok (.istore 13, 2) := by decide +kernel
theorem dL_isSo_938 : decode cL_isSo 938 = .ok (.iinc 14 1, 3) := by decide +kernel
theorem dL_isSo_941 : decode cL_isSo 941 = .ok (.goto (-752), 3) := by decide +kernel
theorem dL_isSo_944 : decode cL_isSo 944 = .ok (.iconst 0, 1) := by decide +kernel
theorem dL_isSo_945 : decode cL_isSo 945 = .ok (.istore 14, 2) := by decide +kernel
theorem dL_isSo_947 : decode cL_isSo 947 = .ok (.aload 10, 2) := by decide +kernel
theorem dL_isSo_949 : decode cL_isSo 949 = .ok (.bipush 6, 2) := by decide +kernel
theorem dL_isSo_951 : decode cL_isSo 951 = .ok (.iaload, 1) := by decide +kernel
theorem dL_isSo_952 : decode cL_isSo 952 = .ok (.istore 15, 2) := by decide +kernel
theorem dL_isSo_954 : decode cL_isSo 954 = .ok (.iload 15, 2) := by decide +kernel
theorem dL_isSo_956 : decode cL_isSo 956 = .ok (.ifCond .le 94, 3) := by decide +kernel
theorem dL_isSo_959 : decode cL_isSo 959 = .ok (.iload 13, 2) := by decide +kernel
theorem dL_isSo_961 : decode cL_isSo 961 = .ok (.ifCond .eq 89, 3) := by decide +kernel
theorem dL_isSo_964 : decode cL_isSo 964 = .ok (.iload 15, 2) := by decide +kernel
theorem dL_isSo_966 : decode cL_isSo 966 = .ok (.bipush 10, 2) := by decide +kernel
theorem dL_isSo_968 : decode cL_isSo 968 = .ok (.irem, 1) := by decide +kernel
theorem dL_isSo_969 : decode cL_isSo 969 = .ok (.iconst 1, 1) := by decide +kernel
theorem dL_isSo_970 : decode cL_isSo 970 = .ok (.isub, 1) := by decide +kernel
theorem dL_isSo_971 : decode cL_isSo 971 = .ok (.istore 16, 2) := by decide +kernel
theorem dL_isSo_973 : decode cL_isSo 973 = .ok (.aload_n 0, 1) := by decide +kernel
theorem dL_isSo_974 : decode cL_isSo 974 = .ok (.iload 14, 2) := by decide +kernel
theorem dL_isSo_976 : decode cL_isSo 976 = .ok (.invokevirtual 165, 3) := by decide +kernel
theorem dL_isSo_979 : decode cL_isSo 979 = .ok (.bipush 100, 2) := by decide +kernel
theorem dL_isSo_981 : decode cL_isSo 981 = .ok (.iload 16, 2) := by decide +kernel

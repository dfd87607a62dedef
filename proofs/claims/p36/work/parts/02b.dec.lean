theorem dX0_init_0 : decode cX0_init 0 = .ok (.aload_n 0, 1) := by decide +kernel
theorem dX0_init_1 : decode cX0_init 1 = .ok (.invokespecial 3, 3) := by decide +kernel
theorem dX0_init_4 : decode cX0_init 4 = .ok (.aload_n 0, 1) := by decide +kernel
theorem dX0_init_5 : decode cX0_init 5 = .ok (.bipush 10, 2) := by decide +kernel
theorem dX0_init_7 : decode cX0_init 7 = .ok (.newarray .int, 2) := by decide +kernel
theorem dX0_init_9 : decode cX0_init 9 = .ok (.putfield 9, 3) := by decide +kernel
theorem dX0_init_12 : decode cX0_init 12 = .ok (.aload_n 0, 1) := by decide +kernel
theorem dX0_init_13 : decode cX0_init 13 = .ok (.iload_n 1, 1) := by decide +kernel
theorem dX0_init_14 : decode cX0_init 14 = .ok (.putfield 15, 3) := by decide +kernel
theorem dX0_init_17 : decode cX0_init 17 = .ok (.aload_n 0, 1) := by decide +kernel
theorem dX0_init_18 : decode cX0_init 18 = .ok (.iload_n 1, 1) := by decide +kernel
theorem dX0_init_19 : decode cX0_init 19 = .ok (.newarray .int, 2) := by decide +kernel
theorem dX0_init_21 : decode cX0_init 21 = .ok (.putfield 19, 3) := by decide +kernel
theorem dX0_init_24 : decode cX0_init 24 = .ok (.aload_n 0, 1) := by decide +kernel
theorem dX0_init_25 : decode cX0_init 25 = .ok (.iload_n 1, 1) := by decide +kernel
theorem dX0_init_26 : decode cX0_init 26 = .ok (.newarray .int, 2) := by decide +kernel
theorem dX0_init_28 : decode cX0_init 28 = .ok (.putfield 22, 3) := by decide +kernel
theorem dX0_init_31 : decode cX0_init 31 = .ok (.return_, 1) := by decide +kernel
theorem dX0_turn_0 : decode cX0_turn 0 = .ok (.aload_n 0, 1) := by decide +kernel
theorem dX0_turn_1 : decode cX0_turn 1 = .ok (.getfield 22, 3) := by decide +kernel
theorem dX0_turn_4 : decode cX0_turn 4 = .ok (.iload_n 1, 1) := by decide +kernel
theorem dX0_turn_5 : decode cX0_turn 5 = .ok (.dup2, 1) := by decide +kernel
theorem dX0_turn_6 : decode cX0_turn 6 = .ok (.iaload, 1) := by decide +kernel
theorem dX0_turn_7 : decode cX0_turn 7 = .ok (.aload_n 0, 1) := by decide +kernel
theorem dX0_turn_8 : decode cX0_turn 8 = .ok (.getfield 19, 3) := by decide +kernel
theorem dX0_turn_11 : decode cX0_turn 11 = .ok (.iload_n 1, 1) := by decide +kernel
theorem dX0_turn_12 : decode cX0_turn 12 = .ok (.iaload, 1) := by decide +kernel
theorem dX0_turn_13 : decode cX0_turn 13 = .ok (.iload_n 2, 1) := by decide +kernel
theorem dX0_turn_14 : decode cX0_turn 14 = .ok (.invokestatic 25, 3) := by decide +kernel
theorem dX0_turn_17 : decode cX0_turn 17 = .ok (.invokestatic 29, 3) := by decide +kernel
theorem dX0_turn_20 : decode cX0_turn 20 = .ok (.iadd, 1) := by decide +kernel
theorem dX0_turn_21 : decode cX0_turn 21 = .ok (.iastore, 1) := by decide +kernel
theorem dX0_turn_22 : decode cX0_turn 22 = .ok (.aload_n 0, 1) := by decide +kernel
theorem dX0_turn_23 : decode cX0_turn 23 = .ok (.getfield 19, 3) := by decide +kernel
theorem dX0_turn_26 : decode cX0_turn 26 = .ok (.iload_n 1, 1) := by decide +kernel
theorem dX0_turn_27 : decode cX0_turn 27 = .ok (.iload_n 2, 1) := by decide +kernel
theorem dX0_turn_28 : decode cX0_turn 28 = .ok (.iastore, 1) := by decide +kernel
theorem dX0_turn_29 : decode cX0_turn 29 = .ok (.return_, 1) := by decide +kernel
theorem dX0_isBroken_0 : decode cX0_isBroken 0 = .ok (.iconst 0, 1) := by decide +kernel
theorem dX0_isBroken_1 : decode cX0_isBroken 1 = .ok (.istore_n 1, 1) := by decide +kernel
theorem dX0_isBroken_2 : decode cX0_isBroken 2 = .ok (.iload_n 1, 1) := by decide +kernel
theorem dX0_isBroken_3 : decode cX0_isBroken 3 = .ok (.aload_n 0, 1) := by decide +kernel
theorem dX0_isBroken_4 : decode cX0_isBroken 4 = .ok (.getfield 15, 3) := by decide +kernel
theorem dX0_isBroken_7 : decode cX0_isBroken 7 = .ok (.if_icmp .ge 23, 3) := by decide +kernel
theorem dX0_isBroken_10 : decode cX0_isBroken 10 = .ok (.aload_n 0, 1) := by decide +kernel
theorem dX0_isBroken_11 : decode cX0_isBroken 11 = .ok (.getfield 22, 3) := by decide +kernel
theorem dX0_isBroken_14 : decode cX0_isBroken 14 = .ok (.iload_n 1, 1) := by decide +kernel
theorem dX0_isBroken_15 : decode cX0_isBroken 15 = .ok (.iaload, 1) := by decide +kernel
theorem dX0_isBroken_16 : decode cX0_isBroken 16 = .ok (.sipush 1000, 3) := by decide +kernel
theorem dX0_isBroken_19 : decode cX0_isBroken 19 = .ok (.if_icmp .lt 5, 3) := by decide +kernel
theorem dX0_isBroken_22 : decode cX0_isBroken 22 = .ok (.iconst 1, 1) := by decide +kernel
theorem dX0_isBroken_23 : decode cX0_isBroken 23 = .ok (.ireturn, 1) := by decide +kernel
theorem dX0_isBroken_24 : decode cX0_isBroken 24 = .ok (.iinc 1 1, 3) := by decide +kernel
theorem dX0_isBroken_27 : decode cX0_isBroken 27 = .ok (.goto (-25), 3) := by decide +kernel
theorem dX0_isBroken_30 : decode cX0_isBroken 30 = .ok (.iconst 0, 1) := by decide +kernel
theorem dX0_isBroken_31 : decode cX0_isBroken 31 = .ok (.ireturn, 1) := by decide +kernel
theorem dX1_init_0 : decode cX1_init 0 = .ok (.aload_n 0, 1) := by decide +kernel
theorem dX1_init_1 : decode cX1_init 1 = .ok (.invokespecial 3, 3) := by decide +kernel
theorem dX1_init_4 : decode cX1_init 4 = .ok (.aload_n 0, 1) := by decide +kernel
theorem dX1_init_5 : decode cX1_init 5 = .ok (.iconst 0, 1) := by decide +kernel
theorem dX1_init_6 : decode cX1_init 6 = .ok (.putfield 9, 3) := by decide +kernel
theorem dX1_init_9 : decode cX1_init 9 = .ok (.aload_n 0, 1) := by decide +kernel
theorem dX1_init_10 : decode cX1_init 10 = .ok (.iload_n 1, 1) := by decide +kernel
theorem dX1_init_11 : decode cX1_init 11 = .ok (.iload_n 2, 1) := by decide +kernel
theorem dX1_init_12 : decode cX1_init 12 = .ok (.multianewarray 15 2, 4) := by decide +kernel
theorem dX1_init_16 : decode cX1_init 16 = .ok (.putfield 17, 3) := by decide +kernel
theorem dX1_init_19 : decode cX1_init 19 = .ok (.aload_n 0, 1) := by decide +kernel
theorem dX1_init_20 : decode cX1_init 20 = .ok (.iload_n 2, 1) := by decide +kernel
theorem dX1_init_21 : decode cX1_init 21 = .ok (.newarray .int, 2) := by decide +kernel
theorem dX1_init_23 : decode cX1_init 23 = .ok (.putfield 20, 3) := by decide +kernel
theorem dX1_init_26 : decode cX1_init 26 = .ok (.aload_n 0, 1) := by decide +kernel
theorem dX1_init_27 : decode cX1_init 27 = .ok (.iload_n 2, 1) := by decide +kernel
theorem dX1_init_28 : decode cX1_init 28 = .ok (.newarray .int, 2) := by decide +kernel
theorem dX1_init_30 : decode cX1_init 30 = .ok (.putfield 24, 3) := by decide +kernel
theorem dX1_init_33 : decode cX1_init 33 = .ok (.aload_n 0, 1) := by decide +kernel
theorem dX1_init_34 : decode cX1_init 34 = .ok (.iload_n 2, 1) := by decide +kernel
theorem dX1_init_35 : decode cX1_init 35 = .ok (.newarray .int, 2) := by decide +kernel
theorem dX1_init_37 : decode cX1_init 37 = .ok (.putfield 27, 3) := by decide +kernel
theorem dX1_init_40 : decode cX1_init 40 = .ok (.aload_n 0, 1) := by decide +kernel
theorem dX1_init_41 : decode cX1_init 41 = .ok (.iload_n 2, 1) := by decide +kernel
theorem dX1_init_42 : decode cX1_init 42 = .ok (.newarray .int, 2) := by decide +kernel
theorem dX1_init_44 : decode cX1_init 44 = .ok (.putfield 30, 3) := by decide +kernel
theorem dX1_init_47 : decode cX1_init 47 = .ok (.aload_n 0, 1) := by decide +kernel
theorem dX1_init_48 : decode cX1_init 48 = .ok (.iload_n 2, 1) := by decide +kernel
theorem dX1_init_49 : decode cX1_init 49 = .ok (.newarray .int, 2) := by decide +kernel
theorem dX1_init_51 : decode cX1_init 51 = .ok (.putfield 33, 3) := by decide +kernel
theorem dX1_init_54 : decode cX1_init 54 = .ok (.return_, 1) := by decide +kernel
theorem dX1_lastMouth_0 : decode cX1_lastMouth 0 = .ok (.aload_n 0, 1) := by decide +kernel
theorem dX1_lastMouth_1 : decode cX1_lastMouth 1 = .ok (.getfield 9, 3) := by decide +kernel
theorem dX1_lastMouth_4 : decode cX1_lastMouth 4 = .ok (.ifCond .ne 7, 3) := by decide +kernel
theorem dX1_lastMouth_7 : decode cX1_lastMouth 7 = .ok (.iconst (-1), 1) := by decide +kernel
theorem dX1_lastMouth_8 : decode cX1_lastMouth 8 = .ok (.goto 14, 3) := by decide +kernel
theorem dX1_lastMouth_11 : decode cX1_lastMouth 11 = .ok (.aload_n 0, 1) := by decide +kernel
theorem dX1_lastMouth_12 : decode cX1_lastMouth 12 = .ok (.getfield 20, 3) := by decide +kernel
theorem dX1_lastMouth_15 : decode cX1_lastMouth 15 = .ok (.aload_n 0, 1) := by decide +kernel
theorem dX1_lastMouth_16 : decode cX1_lastMouth 16 = .ok (.getfield 9, 3) := by decide +kernel
theorem dX1_lastMouth_19 : decode cX1_lastMouth 19 = .ok (.iconst 1, 1) := by decide +kernel
theorem dX1_lastMouth_20 : decode cX1_lastMouth 20 = .ok (.isub, 1) := by decide +kernel
theorem dX1_lastMouth_21 : decode cX1_lastMouth 21 = .ok (.iaload, 1) := by decide +kernel
theorem dX1_lastMouth_22 : decode cX1_lastMouth 22 = .ok (.ireturn, 1) := by decide +kernel
theorem dX1_repeatPoseAndMouth_0 : decode cX1_repeatPoseAndMouth 0 = .ok (.aload_n 0, 1) := by decide +kernel
theorem dX1_repeatPoseAndMouth_1 : decode cX1_repeatPoseAndMouth 1 = .ok (.getfield 20, 3) := by decide +kernel
theorem dX1_repeatPoseAndMouth_4 : decode cX1_repeatPoseAndMouth 4 = .ok (.aload_n 0, 1) := by decide +kernel
theorem dX1_repeatPoseAndMouth_5 : decode cX1_repeatPoseAndMouth 5 = .ok (.getfield 9, 3) := by decide +kernel
theorem dX1_repeatPoseAndMouth_8 : decode cX1_repeatPoseAndMouth 8 = .ok (.aload_n 0, 1) := by decide +kernel
theorem dX1_repeatPoseAndMouth_9 : decode cX1_repeatPoseAndMouth 9 = .ok (.invokevirtual 36, 3) := by decide +kernel
theorem dX1_repeatPoseAndMouth_12 : decode cX1_repeatPoseAndMouth 12 = .ok (.iastore, 1) := by decide +kernel
theorem dX1_repeatPoseAndMouth_13 : decode cX1_repeatPoseAndMouth 13 = .ok (.aload_n 0, 1) := by decide +kernel
theorem dX1_repeatPoseAndMouth_14 : decode cX1_repeatPoseAndMouth 14 = .ok (.getfield 9, 3) := by decide +kernel
theorem dX1_repeatPoseAndMouth_17 : decode cX1_repeatPoseAndMouth 17 = .ok (.ifCond .ne 4, 3) := by decide +kernel
theorem dX1_repeatPoseAndMouth_20 : decode cX1_repeatPoseAndMouth 20 = .ok (.return_, 1) := by decide +kernel
theorem dX1_repeatPoseAndMouth_21 : decode cX1_repeatPoseAndMouth 21 = .ok (.iconst 0, 1) := by decide +kernel
theorem dX1_repeatPoseAndMouth_22 : decode cX1_repeatPoseAndMouth 22 = .ok (.istore_n 1, 1) := by decide +kernel
theorem dX1_repeatPoseAndMouth_23 : decode cX1_repeatPoseAndMouth 23 = .ok (.iload_n 1, 1) := by decide +kernel
theorem dX1_repeatPoseAndMouth_24 : decode cX1_repeatPoseAndMouth 24 = .ok (.aload_n 0, 1) := by decide +kernel
theorem dX1_repeatPoseAndMouth_25 : decode cX1_repeatPoseAndMouth 25 = .ok (.getfield 17, 3) := by decide +kernel
theorem dX1_repeatPoseAndMouth_28 : decode cX1_repeatPoseAndMouth 28 = .ok (.arraylength, 1) := by decide +kernel
theorem dX1_repeatPoseAndMouth_29 : decode cX1_repeatPoseAndMouth 29 = .ok (.if_icmp .ge 33, 3) := by decide +kernel
theorem dX1_repeatPoseAndMouth_32 : decode cX1_repeatPoseAndMouth 32 = .ok (.aload_n 0, 1) := by decide +kernel
theorem dX1_repeatPoseAndMouth_33 : decode cX1_repeatPoseAndMouth 33 = .ok (.getfield 17, 3) := by decide +kernel
theorem dX1_repeatPoseAndMouth_36 : decode cX1_repeatPoseAndMouth 36 = .ok (.iload_n 1, 1) := by decide +kernel
theorem dX1_repeatPoseAndMouth_37 : decode cX1_repeatPoseAndMouth 37 = .ok (.aaload, 1) := by decide +kernel
theorem dX1_repeatPoseAndMouth_38 : decode cX1_repeatPoseAndMouth 38 = .ok (.aload_n 0, 1) := by decide +kernel
theorem dX1_repeatPoseAndMouth_39 : decode cX1_repeatPoseAndMouth 39 = .ok (.getfield 9, 3) := by decide +kernel
theorem dX1_repeatPoseAndMouth_42 : decode cX1_repeatPoseAndMouth 42 = .ok (.aload_n 0, 1) := by decide +kernel
theorem dX1_repeatPoseAndMouth_43 : decode cX1_repeatPoseAndMouth 43 = .ok (.getfield 17, 3) := by decide +kernel
theorem dX1_repeatPoseAndMouth_46 : decode cX1_repeatPoseAndMouth 46 = .ok (.iload_n 1, 1) := by decide +kernel
theorem dX1_repeatPoseAndMouth_47 : decode cX1_repeatPoseAndMouth 47 = .ok (.aaload, 1) := by decide +kernel
theorem dX1_repeatPoseAndMouth_48 : decode cX1_repeatPoseAndMouth 48 = .ok (.aload_n 0, 1) := by decide +kernel
theorem dX1_repeatPoseAndMouth_49 : decode cX1_repeatPoseAndMouth 49 = .ok (.getfield 9, 3) := by decide +kernel
theorem dX1_repeatPoseAndMouth_52 : decode cX1_repeatPoseAndMouth 52 = .ok (.iconst 1, 1) := by decide +kernel
theorem dX1_repeatPoseAndMouth_53 : decode cX1_repeatPoseAndMouth 53 = .ok (.isub, 1) := by decide +kernel
theorem dX1_repeatPoseAndMouth_54 : decode cX1_repeatPoseAndMouth 54 = .ok (.iaload, 1) := by decide +kernel
theorem dX1_repeatPoseAndMouth_55 : decode cX1_repeatPoseAndMouth 55 = .ok (.iastore, 1) := by decide +kernel
theorem dX1_repeatPoseAndMouth_56 : decode cX1_repeatPoseAndMouth 56 = .ok (.iinc 1 1, 3) := by decide +kernel
theorem dX1_repeatPoseAndMouth_59 : decode cX1_repeatPoseAndMouth 59 = .ok (.goto (-36), 3) := by decide +kernel
theorem dX1_repeatPoseAndMouth_62 : decode cX1_repeatPoseAndMouth 62 = .ok (.return_, 1) := by decide +kernel
theorem dX1_keepNext_0 : decode cX1_keepNext 0 = .ok (.aload_n 0, 1) := by decide +kernel
theorem dX1_keepNext_1 : decode cX1_keepNext 1 = .ok (.getfield 33, 3) := by decide +kernel
theorem dX1_keepNext_4 : decode cX1_keepNext 4 = .ok (.aload_n 0, 1) := by decide +kernel
theorem dX1_keepNext_5 : decode cX1_keepNext 5 = .ok (.getfield 9, 3) := by decide +kernel
theorem dX1_keepNext_8 : decode cX1_keepNext 8 = .ok (.iload_n 1, 1) := by decide +kernel
theorem dX1_keepNext_9 : decode cX1_keepNext 9 = .ok (.iastore, 1) := by decide +kernel
theorem dX1_keepNext_10 : decode cX1_keepNext 10 = .ok (.aload_n 0, 1) := by decide +kernel
theorem dX1_keepNext_11 : decode cX1_keepNext 11 = .ok (.getfield 24, 3) := by decide +kernel
theorem dX1_keepNext_14 : decode cX1_keepNext 14 = .ok (.aload_n 0, 1) := by decide +kernel
theorem dX1_keepNext_15 : decode cX1_keepNext 15 = .ok (.getfield 9, 3) := by decide +kernel
theorem dX1_keepNext_18 : decode cX1_keepNext 18 = .ok (.aload_n 0, 1) := by decide +kernel
theorem dX1_keepNext_19 : decode cX1_keepNext 19 = .ok (.iload_n 2, 1) := by decide +kernel
theorem dX1_keepNext_20 : decode cX1_keepNext 20 = .ok (.invokevirtual 40, 3) := by decide +kernel
theorem dX1_keepNext_23 : decode cX1_keepNext 23 = .ok (.iastore, 1) := by decide +kernel
theorem dX1_keepNext_24 : decode cX1_keepNext 24 = .ok (.aload_n 0, 1) := by decide +kernel
theorem dX1_keepNext_25 : decode cX1_keepNext 25 = .ok (.getfield 27, 3) := by decide +kernel
theorem dX1_keepNext_28 : decode cX1_keepNext 28 = .ok (.aload_n 0, 1) := by decide +kernel
theorem dX1_keepNext_29 : decode cX1_keepNext 29 = .ok (.getfield 9, 3) := by decide +kernel
theorem dX1_keepNext_32 : decode cX1_keepNext 32 = .ok (.iload_n 3, 1) := by decide +kernel
theorem dX1_keepNext_33 : decode cX1_keepNext 33 = .ok (.iastore, 1) := by decide +kernel
theorem dX1_keepNext_34 : decode cX1_keepNext 34 = .ok (.aload_n 0, 1) := by decide +kernel
theorem dX1_keepNext_35 : decode cX1_keepNext 35 = .ok (.getfield 30, 3) := by decide +kernel
theorem dX1_keepNext_38 : decode cX1_keepNext 38 = .ok (.aload_n 0, 1) := by decide +kernel
theorem dX1_keepNext_39 : decode cX1_keepNext 39 = .ok (.getfield 9, 3) := by decide +kernel
theorem dX1_keepNext_42 : decode cX1_keepNext 42 = .ok (.iload 4, 2) := by decide +kernel
theorem dX1_keepNext_44 : decode cX1_keepNext 44 = .ok (.iastore, 1) := by decide +kernel
theorem dX1_keepNext_45 : decode cX1_keepNext 45 = .ok (.aload_n 0, 1) := by decide +kernel
theorem dX1_keepNext_46 : decode cX1_keepNext 46 = .ok (.dup, 1) := by decide +kernel
theorem dX1_keepNext_47 : decode cX1_keepNext 47 = .ok (.getfield 9, 3) := by decide +kernel
theorem dX1_keepNext_50 : decode cX1_keepNext 50 = .ok (.iconst 1, 1) := by decide +kernel
theorem dX1_keepNext_51 : decode cX1_keepNext 51 = .ok (.iadd, 1) := by decide +kernel
theorem dX1_keepNext_52 : decode cX1_keepNext 52 = .ok (.putfield 9, 3) := by decide +kernel
theorem dX1_keepNext_55 : decode cX1_keepNext 55 = .ok (.return_, 1) := by decide +kernel
theorem dX1_cameraOfNext_0 : decode cX1_cameraOfNext 0 = .ok (.iconst 0, 1) := by decide +kernel
theorem dX1_cameraOfNext_1 : decode cX1_cameraOfNext 1 = .ok (.istore_n 2, 1) := by decide +kernel
theorem dX1_cameraOfNext_2 : decode cX1_cameraOfNext 2 = .ok (.iconst 0, 1) := by decide +kernel
theorem dX1_cameraOfNext_3 : decode cX1_cameraOfNext 3 = .ok (.istore_n 3, 1) := by decide +kernel
theorem dX1_cameraOfNext_4 : decode cX1_cameraOfNext 4 = .ok (.iconst 1, 1) := by decide +kernel
theorem dX1_cameraOfNext_5 : decode cX1_cameraOfNext 5 = .ok (.istore 4, 2) := by decide +kernel
theorem dX1_cameraOfNext_7 : decode cX1_cameraOfNext 7 = .ok (.iload 4, 2) := by decide +kernel
theorem dX1_cameraOfNext_9 : decode cX1_cameraOfNext 9 = .ok (.aload_n 0, 1) := by decide +kernel
theorem dX1_cameraOfNext_10 : decode cX1_cameraOfNext 10 = .ok (.getfield 9, 3) := by decide +kernel
theorem dX1_cameraOfNext_13 : decode cX1_cameraOfNext 13 = .ok (.if_icmp .gt 55, 3) := by decide +kernel
theorem dX1_cameraOfNext_16 : decode cX1_cameraOfNext 16 = .ok (.aload_n 0, 1) := by decide +kernel
theorem dX1_cameraOfNext_17 : decode cX1_cameraOfNext 17 = .ok (.getfield 33, 3) := by decide +kernel
theorem dX1_cameraOfNext_20 : decode cX1_cameraOfNext 20 = .ok (.iload 4, 2) := by decide +kernel
theorem dX1_cameraOfNext_22 : decode cX1_cameraOfNext 22 = .ok (.iaload, 1) := by decide +kernel
theorem dX1_cameraOfNext_23 : decode cX1_cameraOfNext 23 = .ok (.aload_n 0, 1) := by decide +kernel
theorem dX1_cameraOfNext_24 : decode cX1_cameraOfNext 24 = .ok (.getfield 33, 3) := by decide +kernel
theorem dX1_cameraOfNext_27 : decode cX1_cameraOfNext 27 = .ok (.iload 4, 2) := by decide +kernel
theorem dX1_cameraOfNext_29 : decode cX1_cameraOfNext 29 = .ok (.iconst 1, 1) := by decide +kernel
theorem dX1_cameraOfNext_30 : decode cX1_cameraOfNext 30 = .ok (.isub, 1) := by decide +kernel
theorem dX1_cameraOfNext_31 : decode cX1_cameraOfNext 31 = .ok (.iaload, 1) := by decide +kernel
theorem dX1_cameraOfNext_32 : decode cX1_cameraOfNext 32 = .ok (.invokestatic 44, 3) := by decide +kernel
theorem dX1_cameraOfNext_35 : decode cX1_cameraOfNext 35 = .ok (.istore 5, 2) := by decide +kernel
theorem dX1_cameraOfNext_37 : decode cX1_cameraOfNext 37 = .ok (.iload 5, 2) := by decide +kernel
theorem dX1_cameraOfNext_39 : decode cX1_cameraOfNext 39 = .ok (.ifCond .eq 23, 3) := by decide +kernel
theorem dX1_cameraOfNext_42 : decode cX1_cameraOfNext 42 = .ok (.iload_n 3, 1) := by decide +kernel
theorem dX1_cameraOfNext_43 : decode cX1_cameraOfNext 43 = .ok (.ifCond .ne 10, 3) := by decide +kernel
theorem dX1_cameraOfNext_46 : decode cX1_cameraOfNext 46 = .ok (.iload_n 2, 1) := by decide +kernel
theorem dX1_cameraOfNext_47 : decode cX1_cameraOfNext 47 = .ok (.iload 5, 2) := by decide +kernel
theorem dX1_cameraOfNext_49 : decode cX1_cameraOfNext 49 = .ok (.imul, 1) := by decide +kernel
theorem dX1_cameraOfNext_50 : decode cX1_cameraOfNext 50 = .ok (.ifCond .ge 7, 3) := by decide +kernel
theorem dX1_cameraOfNext_53 : decode cX1_cameraOfNext 53 = .ok (.iconst 1, 1) := by decide +kernel
theorem dX1_cameraOfNext_54 : decode cX1_cameraOfNext 54 = .ok (.goto 4, 3) := by decide +kernel
theorem dX1_cameraOfNext_57 : decode cX1_cameraOfNext 57 = .ok (.iconst 0, 1) := by decide +kernel
theorem dX1_cameraOfNext_58 : decode cX1_cameraOfNext 58 = .ok (.istore_n 3, 1) := by decide +kernel
theorem dX1_cameraOfNext_59 : decode cX1_cameraOfNext 59 = .ok (.iload 5, 2) := by decide +kernel
theorem dX1_cameraOfNext_61 : decode cX1_cameraOfNext 61 = .ok (.istore_n 2, 1) := by decide +kernel
theorem dX1_cameraOfNext_62 : decode cX1_cameraOfNext 62 = .ok (.iinc 4 1, 3) := by decide +kernel
theorem dX1_cameraOfNext_65 : decode cX1_cameraOfNext 65 = .ok (.goto (-58), 3) := by decide +kernel
theorem dX1_cameraOfNext_68 : decode cX1_cameraOfNext 68 = .ok (.iload_n 3, 1) := by decide +kernel
theorem dX1_cameraOfNext_69 : decode cX1_cameraOfNext 69 = .ok (.ifCond .ne 13, 3) := by decide +kernel
theorem dX1_cameraOfNext_72 : decode cX1_cameraOfNext 72 = .ok (.aload_n 0, 1) := by decide +kernel
theorem dX1_cameraOfNext_73 : decode cX1_cameraOfNext 73 = .ok (.getfield 33, 3) := by decide +kernel
theorem dX1_cameraOfNext_76 : decode cX1_cameraOfNext 76 = .ok (.aload_n 0, 1) := by decide +kernel
theorem dX1_cameraOfNext_77 : decode cX1_cameraOfNext 77 = .ok (.getfield 9, 3) := by decide +kernel
theorem dX1_cameraOfNext_80 : decode cX1_cameraOfNext 80 = .ok (.iaload, 1) := by decide +kernel
theorem dX1_cameraOfNext_81 : decode cX1_cameraOfNext 81 = .ok (.ireturn, 1) := by decide +kernel
theorem dX1_cameraOfNext_82 : decode cX1_cameraOfNext 82 = .ok (.iload_n 2, 1) := by decide +kernel
theorem dX1_cameraOfNext_83 : decode cX1_cameraOfNext 83 = .ok (.ifCond .le 17, 3) := by decide +kernel
theorem dX1_cameraOfNext_86 : decode cX1_cameraOfNext 86 = .ok (.aload_n 0, 1) := by decide +kernel
theorem dX1_cameraOfNext_87 : decode cX1_cameraOfNext 87 = .ok (.getfield 33, 3) := by decide +kernel
theorem dX1_cameraOfNext_90 : decode cX1_cameraOfNext 90 = .ok (.aload_n 0, 1) := by decide +kernel
theorem dX1_cameraOfNext_91 : decode cX1_cameraOfNext 91 = .ok (.getfield 9, 3) := by decide +kernel
theorem dX1_cameraOfNext_94 : decode cX1_cameraOfNext 94 = .ok (.iaload, 1) := by decide +kernel
theorem dX1_cameraOfNext_95 : decode cX1_cameraOfNext 95 = .ok (.iload_n 1, 1) := by decide +kernel
theorem dX1_cameraOfNext_96 : decode cX1_cameraOfNext 96 = .ok (.isub, 1) := by decide +kernel
theorem dX1_cameraOfNext_97 : decode cX1_cameraOfNext 97 = .ok (.goto 14, 3) := by decide +kernel
theorem dX1_cameraOfNext_100 : decode cX1_cameraOfNext 100 = .ok (.aload_n 0, 1) := by decide +kernel
theorem dX1_cameraOfNext_101 : decode cX1_cameraOfNext 101 = .ok (.getfield 33, 3) := by decide +kernel
theorem dX1_cameraOfNext_104 : decode cX1_cameraOfNext 104 = .ok (.aload_n 0, 1) := by decide +kernel
theorem dX1_cameraOfNext_105 : decode cX1_cameraOfNext 105 = .ok (.getfield 9, 3) := by decide +kernel
theorem dX1_cameraOfNext_108 : decode cX1_cameraOfNext 108 = .ok (.iaload, 1) := by decide +kernel
theorem dX1_cameraOfNext_109 : decode cX1_cameraOfNext 109 = .ok (.iload_n 1, 1) := by decide +kernel
theorem dX1_cameraOfNext_110 : decode cX1_cameraOfNext 110 = .ok (.iadd, 1) := by decide +kernel
theorem dX1_cameraOfNext_111 : decode cX1_cameraOfNext 111 = .ok (.ireturn, 1) := by decide +kernel
theorem dX2_init_0 : decode cX2_init 0 = .ok (.aload_n 0, 1) := by decide +kernel
theorem dX2_init_1 : decode cX2_init 1 = .ok (.invokespecial 3, 3) := by decide +kernel
theorem dX2_init_4 : decode cX2_init 4 = .ok (.aload_n 0, 1) := by decide +kernel
theorem dX2_init_5 : decode cX2_init 5 = .ok (.iconst (-1), 1) := by decide +kernel
theorem dX2_init_6 : decode cX2_init 6 = .ok (.putfield 9, 3) := by decide +kernel
theorem dX2_init_9 : decode cX2_init 9 = .ok (.aload_n 0, 1) := by decide +kernel
theorem dX2_init_10 : decode cX2_init 10 = .ok (.iconst 0, 1) := by decide +kernel
theorem dX2_init_11 : decode cX2_init 11 = .ok (.putfield 15, 3) := by decide +kernel
theorem dX2_init_14 : decode cX2_init 14 = .ok (.aload_n 0, 1) := by decide +kernel
theorem dX2_init_15 : decode cX2_init 15 = .ok (.aload_n 1, 1) := by decide +kernel
theorem dX2_init_16 : decode cX2_init 16 = .ok (.putfield 18, 3) := by decide +kernel
theorem dX2_init_19 : decode cX2_init 19 = .ok (.aload_n 0, 1) := by decide +kernel
theorem dX2_init_20 : decode cX2_init 20 = .ok (.iload_n 2, 1) := by decide +kernel
theorem dX2_init_21 : decode cX2_init 21 = .ok (.putfield 22, 3) := by decide +kernel
theorem dX2_init_24 : decode cX2_init 24 = .ok (.aload_n 0, 1) := by decide +kernel
theorem dX2_init_25 : decode cX2_init 25 = .ok (.iload_n 3, 1) := by decide +kernel
theorem dX2_init_26 : decode cX2_init 26 = .ok (.putfield 25, 3) := by decide +kernel
theorem dX2_init_29 : decode cX2_init 29 = .ok (.aload_n 0, 1) := by decide +kernel
theorem dX2_init_30 : decode cX2_init 30 = .ok (.iload 4, 2) := by decide +kernel
theorem dX2_init_32 : decode cX2_init 32 = .ok (.putfield 28, 3) := by decide +kernel
theorem dX2_init_35 : decode cX2_init 35 = .ok (.aload_n 0, 1) := by decide +kernel
theorem dX2_init_36 : decode cX2_init 36 = .ok (.aload_n 1, 1) := by decide +kernel
theorem dX2_init_37 : decode cX2_init 37 = .ok (.getfield 31, 3) := by decide +kernel
theorem dX2_init_40 : decode cX2_init 40 = .ok (.anewarray 36, 3) := by decide +kernel
theorem dX2_init_43 : decode cX2_init 43 = .ok (.putfield 38, 3) := by decide +kernel
theorem dX2_init_46 : decode cX2_init 46 = .ok (.iconst 0, 1) := by decide +kernel
theorem dX2_init_47 : decode cX2_init 47 = .ok (.istore 5, 2) := by decide +kernel
theorem dX2_init_49 : decode cX2_init 49 = .ok (.iload 5, 2) := by decide +kernel
theorem dX2_init_51 : decode cX2_init 51 = .ok (.aload_n 1, 1) := by decide +kernel
theorem dX2_init_52 : decode cX2_init 52 = .ok (.getfield 31, 3) := by decide +kernel
theorem dX2_init_55 : decode cX2_init 55 = .ok (.if_icmp .ge 25, 3) := by decide +kernel
theorem dX2_init_58 : decode cX2_init 58 = .ok (.aload_n 0, 1) := by decide +kernel
theorem dX2_init_59 : decode cX2_init 59 = .ok (.getfield 38, 3) := by decide +kernel
theorem dX2_init_62 : decode cX2_init 62 = .ok (.iload 5, 2) := by decide +kernel
theorem dX2_init_64 : decode cX2_init 64 = .ok (.new 36, 3) := by decide +kernel
theorem dX2_init_67 : decode cX2_init 67 = .ok (.dup, 1) := by decide +kernel
theorem dX2_init_68 : decode cX2_init 68 = .ok (.iload_n 2, 1) := by decide +kernel
theorem dX2_init_69 : decode cX2_init 69 = .ok (.iconst 1, 1) := by decide +kernel
theorem dX2_init_70 : decode cX2_init 70 = .ok (.invokespecial 42, 3) := by decide +kernel
theorem dX2_init_73 : decode cX2_init 73 = .ok (.aastore, 1) := by decide +kernel
theorem dX2_init_74 : decode cX2_init 74 = .ok (.iinc 5 1, 3) := by decide +kernel
theorem dX2_init_77 : decode cX2_init 77 = .ok (.goto (-28), 3) := by decide +kernel
theorem dX2_init_80 : decode cX2_init 80 = .ok (.aload_n 0, 1) := by decide +kernel
theorem dX2_init_81 : decode cX2_init 81 = .ok (.new 36, 3) := by decide +kernel
theorem dX2_init_84 : decode cX2_init 84 = .ok (.dup, 1) := by decide +kernel
theorem dX2_init_85 : decode cX2_init 85 = .ok (.iload_n 2, 1) := by decide +kernel
theorem dX2_init_86 : decode cX2_init 86 = .ok (.iconst 0, 1) := by decide +kernel
theorem dX2_init_87 : decode cX2_init 87 = .ok (.invokespecial 42, 3) := by decide +kernel
theorem dX2_init_90 : decode cX2_init 90 = .ok (.putfield 45, 3) := by decide +kernel
theorem dX2_init_93 : decode cX2_init 93 = .ok (.aload_n 0, 1) := by decide +kernel
theorem dX2_init_94 : decode cX2_init 94 = .ok (.new 49, 3) := by decide +kernel
theorem dX2_init_97 : decode cX2_init 97 = .ok (.dup, 1) := by decide +kernel
theorem dX2_init_98 : decode cX2_init 98 = .ok (.aload_n 1, 1) := by decide +kernel
theorem dX2_init_99 : decode cX2_init 99 = .ok (.getfield 31, 3) := by decide +kernel
theorem dX2_init_102 : decode cX2_init 102 = .ok (.iload_n 2, 1) := by decide +kernel
theorem dX2_init_103 : decode cX2_init 103 = .ok (.invokespecial 51, 3) := by decide +kernel
theorem dX2_init_106 : decode cX2_init 106 = .ok (.putfield 54, 3) := by decide +kernel
theorem dX2_init_109 : decode cX2_init 109 = .ok (.return_, 1) := by decide +kernel
theorem dX2_isHeld_0 : decode cX2_isHeld 0 = .ok (.aload_n 0, 1) := by decide +kernel
theorem dX2_isHeld_1 : decode cX2_isHeld 1 = .ok (.iload_n 1, 1) := by decide +kernel
theorem dX2_isHeld_2 : decode cX2_isHeld 2 = .ok (.invokevirtual 58, 3) := by decide +kernel
theorem dX2_isHeld_5 : decode cX2_isHeld 5 = .ok (.iload_n 1, 1) := by decide +kernel
theorem dX2_isHeld_6 : decode cX2_isHeld 6 = .ok (.if_icmp .eq 7, 3) := by decide +kernel
theorem dX2_isHeld_9 : decode cX2_isHeld 9 = .ok (.iconst 1, 1) := by decide +kernel
theorem dX2_isHeld_10 : decode cX2_isHeld 10 = .ok (.goto 4, 3) := by decide +kernel
theorem dX2_isHeld_13 : decode cX2_isHeld 13 = .ok (.iconst 0, 1) := by decide +kernel
theorem dX2_isHeld_14 : decode cX2_isHeld 14 = .ok (.ireturn, 1) := by decide +kernel
theorem dX2_posedFrame_0 : decode cX2_posedFrame 0 = .ok (.aload_n 0, 1) := by decide +kernel
theorem dX2_posedFrame_1 : decode cX2_posedFrame 1 = .ok (.getfield 25, 3) := by decide +kernel
theorem dX2_posedFrame_4 : decode cX2_posedFrame 4 = .ok (.iconst 2, 1) := by decide +kernel
theorem dX2_posedFrame_5 : decode cX2_posedFrame 5 = .ok (.if_icmp .ne 16, 3) := by decide +kernel
theorem dX2_posedFrame_8 : decode cX2_posedFrame 8 = .ok (.iload_n 1, 1) := by decide +kernel
theorem dX2_posedFrame_9 : decode cX2_posedFrame 9 = .ok (.iconst 2, 1) := by decide +kernel
theorem dX2_posedFrame_10 : decode cX2_posedFrame 10 = .ok (.irem, 1) := by decide +kernel
theorem dX2_posedFrame_11 : decode cX2_posedFrame 11 = .ok (.iconst 1, 1) := by decide +kernel
theorem dX2_posedFrame_12 : decode cX2_posedFrame 12 = .ok (.if_icmp .ne 9, 3) := by decide +kernel
theorem dX2_posedFrame_15 : decode cX2_posedFrame 15 = .ok (.iload_n 1, 1) := by decide +kernel
theorem dX2_posedFrame_16 : decode cX2_posedFrame 16 = .ok (.iconst 1, 1) := by decide +kernel
theorem dX2_posedFrame_17 : decode cX2_posedFrame 17 = .ok (.isub, 1) := by decide +kernel
theorem dX2_posedFrame_18 : decode cX2_posedFrame 18 = .ok (.goto 4, 3) := by decide +kernel
theorem dX2_posedFrame_21 : decode cX2_posedFrame 21 = .ok (.iload_n 1, 1) := by decide +kernel
theorem dX2_posedFrame_22 : decode cX2_posedFrame 22 = .ok (.ireturn, 1) := by decide +kernel
theorem dX2_isStruck_0 : decode cX2_isStruck 0 = .ok (.iload_n 1, 1) := by decide +kernel
theorem dX2_isStruck_1 : decode cX2_isStruck 1 = .ok (.aload_n 0, 1) := by decide +kernel
theorem dX2_isStruck_2 : decode cX2_isStruck 2 = .ok (.getfield 54, 3) := by decide +kernel
theorem dX2_isStruck_5 : decode cX2_isStruck 5 = .ok (.getfield 62, 3) := by decide +kernel
theorem dX2_isStruck_8 : decode cX2_isStruck 8 = .ok (.if_icmp .ge 7, 3) := by decide +kernel
theorem dX2_isStruck_11 : decode cX2_isStruck 11 = .ok (.iconst 1, 1) := by decide +kernel
theorem dX2_isStruck_12 : decode cX2_isStruck 12 = .ok (.goto 4, 3) := by decide +kernel
theorem dX2_isStruck_15 : decode cX2_isStruck 15 = .ok (.iconst 0, 1) := by decide +kernel
theorem dX2_isStruck_16 : decode cX2_isStruck 16 = .ok (.ireturn, 1) := by decide +kernel
theorem dX2_hasBegun_0 : decode cX2_hasBegun 0 = .ok (.aload_n 0, 1) := by decide +kernel
theorem dX2_hasBegun_1 : decode cX2_hasBegun 1 = .ok (.getfield 54, 3) := by decide +kernel
theorem dX2_hasBegun_4 : decode cX2_hasBegun 4 = .ok (.getfield 62, 3) := by decide +kernel
theorem dX2_hasBegun_7 : decode cX2_hasBegun 7 = .ok (.ifCond .le 7, 3) := by decide +kernel
theorem dX2_hasBegun_10 : decode cX2_hasBegun 10 = .ok (.iconst 1, 1) := by decide +kernel
theorem dX2_hasBegun_11 : decode cX2_hasBegun 11 = .ok (.goto 4, 3) := by decide +kernel
theorem dX2_hasBegun_14 : decode cX2_hasBegun 14 = .ok (.iconst 0, 1) := by decide +kernel
theorem dX2_hasBegun_15 : decode cX2_hasBegun 15 = .ok (.ireturn, 1) := by decide +kernel
theorem dX2_isDone_0 : decode cX2_isDone 0 = .ok (.aload_n 0, 1) := by decide +kernel
theorem dX2_isDone_1 : decode cX2_isDone 1 = .ok (.getfield 54, 3) := by decide +kernel
theorem dX2_isDone_4 : decode cX2_isDone 4 = .ok (.getfield 62, 3) := by decide +kernel
theorem dX2_isDone_7 : decode cX2_isDone 7 = .ok (.aload_n 0, 1) := by decide +kernel
theorem dX2_isDone_8 : decode cX2_isDone 8 = .ok (.getfield 22, 3) := by decide +kernel
theorem dX2_isDone_11 : decode cX2_isDone 11 = .ok (.if_icmp .lt 7, 3) := by decide +kernel
theorem dX2_isDone_14 : decode cX2_isDone 14 = .ok (.iconst 1, 1) := by decide +kernel
theorem dX2_isDone_15 : decode cX2_isDone 15 = .ok (.goto 4, 3) := by decide +kernel
theorem dX2_isDone_18 : decode cX2_isDone 18 = .ok (.iconst 0, 1) := by decide +kernel
theorem dX2_isDone_19 : decode cX2_isDone 19 = .ok (.ireturn, 1) := by decide +kernel
theorem dX2_isUnderWay_0 : decode cX2_isUnderWay 0 = .ok (.aload_n 0, 1) := by decide +kernel
theorem dX2_isUnderWay_1 : decode cX2_isUnderWay 1 = .ok (.invokevirtual 65, 3) := by decide +kernel
theorem dX2_isUnderWay_4 : decode cX2_isUnderWay 4 = .ok (.ifCond .eq 14, 3) := by decide +kernel
theorem dX2_isUnderWay_7 : decode cX2_isUnderWay 7 = .ok (.aload_n 0, 1) := by decide +kernel
theorem dX2_isUnderWay_8 : decode cX2_isUnderWay 8 = .ok (.invokevirtual 69, 3) := by decide +kernel
theorem dX2_isUnderWay_11 : decode cX2_isUnderWay 11 = .ok (.ifCond .ne 7, 3) := by decide +kernel
theorem dX2_isUnderWay_14 : decode cX2_isUnderWay 14 = .ok (.iconst 1, 1) := by decide +kernel
theorem dX2_isUnderWay_15 : decode cX2_isUnderWay 15 = .ok (.goto 4, 3) := by decide +kernel
theorem dX2_isUnderWay_18 : decode cX2_isUnderWay 18 = .ok (.iconst 0, 1) := by decide +kernel
theorem dX2_isUnderWay_19 : decode cX2_isUnderWay 19 = .ok (.ireturn, 1) := by decide +kernel
theorem dX2_sheetDegree_0 : decode cX2_sheetDegree 0 = .ok (.aload_n 0, 1) := by decide +kernel
theorem dX2_sheetDegree_1 : decode cX2_sheetDegree 1 = .ok (.getfield 38, 3) := by decide +kernel
theorem dX2_sheetDegree_4 : decode cX2_sheetDegree 4 = .ok (.iload_n 1, 1) := by decide +kernel
theorem dX2_sheetDegree_5 : decode cX2_sheetDegree 5 = .ok (.aaload, 1) := by decide +kernel
theorem dX2_sheetDegree_6 : decode cX2_sheetDegree 6 = .ok (.aload_n 0, 1) := by decide +kernel
theorem dX2_sheetDegree_7 : decode cX2_sheetDegree 7 = .ok (.iload_n 2, 1) := by decide +kernel
theorem dX2_sheetDegree_8 : decode cX2_sheetDegree 8 = .ok (.invokevirtual 58, 3) := by decide +kernel
theorem dX2_sheetDegree_11 : decode cX2_sheetDegree 11 = .ok (.invokevirtual 72, 3) := by decide +kernel
theorem dX2_sheetDegree_14 : decode cX2_sheetDegree 14 = .ok (.ireturn, 1) := by decide +kernel
theorem dX2_posedAsSheet_0 : decode cX2_posedAsSheet 0 = .ok (.iconst 0, 1) := by decide +kernel
theorem dX2_posedAsSheet_1 : decode cX2_posedAsSheet 1 = .ok (.istore_n 2, 1) := by decide +kernel
theorem dX2_posedAsSheet_2 : decode cX2_posedAsSheet 2 = .ok (.iload_n 2, 1) := by decide +kernel
theorem dX2_posedAsSheet_3 : decode cX2_posedAsSheet 3 = .ok (.aload_n 0, 1) := by decide +kernel
theorem dX2_posedAsSheet_4 : decode cX2_posedAsSheet 4 = .ok (.getfield 38, 3) := by decide +kernel
theorem dX2_posedAsSheet_7 : decode cX2_posedAsSheet 7 = .ok (.arraylength, 1) := by decide +kernel
theorem dX2_posedAsSheet_8 : decode cX2_posedAsSheet 8 = .ok (.if_icmp .ge 31, 3) := by decide +kernel
theorem dX2_posedAsSheet_11 : decode cX2_posedAsSheet 11 = .ok (.aload_n 0, 1) := by decide +kernel
theorem dX2_posedAsSheet_12 : decode cX2_posedAsSheet 12 = .ok (.getfield 54, 3) := by decide +kernel
theorem dX2_posedAsSheet_15 : decode cX2_posedAsSheet 15 = .ok (.getfield 75, 3) := by decide +kernel
theorem dX2_posedAsSheet_18 : decode cX2_posedAsSheet 18 = .ok (.iload_n 2, 1) := by decide +kernel
theorem dX2_posedAsSheet_19 : decode cX2_posedAsSheet 19 = .ok (.aaload, 1) := by decide +kernel
theorem dX2_posedAsSheet_20 : decode cX2_posedAsSheet 20 = .ok (.iload_n 1, 1) := by decide +kernel
theorem dX2_posedAsSheet_21 : decode cX2_posedAsSheet 21 = .ok (.iaload, 1) := by decide +kernel
theorem dX2_posedAsSheet_22 : decode cX2_posedAsSheet 22 = .ok (.aload_n 0, 1) := by decide +kernel
theorem dX2_posedAsSheet_23 : decode cX2_posedAsSheet 23 = .ok (.iload_n 2, 1) := by decide +kernel
theorem dX2_posedAsSheet_24 : decode cX2_posedAsSheet 24 = .ok (.iload_n 1, 1) := by decide +kernel
theorem dX2_posedAsSheet_25 : decode cX2_posedAsSheet 25 = .ok (.invokevirtual 79, 3) := by decide +kernel
theorem dX2_posedAsSheet_28 : decode cX2_posedAsSheet 28 = .ok (.if_icmp .eq 5, 3) := by decide +kernel
theorem dX2_posedAsSheet_31 : decode cX2_posedAsSheet 31 = .ok (.iconst 0, 1) := by decide +kernel
theorem dX2_posedAsSheet_32 : decode cX2_posedAsSheet 32 = .ok (.ireturn, 1) := by decide +kernel
theorem dX2_posedAsSheet_33 : decode cX2_posedAsSheet 33 = .ok (.iinc 2 1, 3) := by decide +kernel
theorem dX2_posedAsSheet_36 : decode cX2_posedAsSheet 36 = .ok (.goto (-34), 3) := by decide +kernel
theorem dX2_posedAsSheet_39 : decode cX2_posedAsSheet 39 = .ok (.iconst 1, 1) := by decide +kernel
theorem dX2_posedAsSheet_40 : decode cX2_posedAsSheet 40 = .ok (.ireturn, 1) := by decide +kernel
theorem dX3_init_0 : decode cX3_init 0 = .ok (.aload_n 0, 1) := by decide +kernel
theorem dX3_init_1 : decode cX3_init 1 = .ok (.invokespecial 3, 3) := by decide +kernel
theorem dX3_init_4 : decode cX3_init 4 = .ok (.aload_n 0, 1) := by decide +kernel
theorem dX3_init_5 : decode cX3_init 5 = .ok (.iload_n 2, 1) := by decide +kernel
theorem dX3_init_6 : decode cX3_init 6 = .ok (.putfield 9, 3) := by decide +kernel
theorem dX3_init_9 : decode cX3_init 9 = .ok (.aload_n 0, 1) := by decide +kernel
theorem dX3_init_10 : decode cX3_init 10 = .ok (.iload_n 1, 1) := by decide +kernel
theorem dX3_init_11 : decode cX3_init 11 = .ok (.newarray .int, 2) := by decide +kernel
theorem dX3_init_13 : decode cX3_init 13 = .ok (.putfield 15, 3) := by decide +kernel
theorem dX3_init_16 : decode cX3_init 16 = .ok (.aload_n 0, 1) := by decide +kernel
theorem dX3_init_17 : decode cX3_init 17 = .ok (.iload_n 1, 1) := by decide +kernel
theorem dX3_init_18 : decode cX3_init 18 = .ok (.newarray .boolean, 2) := by decide +kernel
theorem dX3_init_20 : decode cX3_init 20 = .ok (.putfield 19, 3) := by decide +kernel
theorem dX3_init_23 : decode cX3_init 23 = .ok (.return_, 1) := by decide +kernel
theorem dX3_tell_0 : decode cX3_tell 0 = .ok (.aload_n 0, 1) := by decide +kernel
theorem dX3_tell_1 : decode cX3_tell 1 = .ok (.getfield 15, 3) := by decide +kernel
theorem dX3_tell_4 : decode cX3_tell 4 = .ok (.iload_n 1, 1) := by decide +kernel
theorem dX3_tell_5 : decode cX3_tell 5 = .ok (.iload_n 2, 1) := by decide +kernel
theorem dX3_tell_6 : decode cX3_tell 6 = .ok (.iastore, 1) := by decide +kernel
theorem dX3_tell_7 : decode cX3_tell 7 = .ok (.aload_n 0, 1) := by decide +kernel
theorem dX3_tell_8 : decode cX3_tell 8 = .ok (.getfield 19, 3) := by decide +kernel
theorem dX3_tell_11 : decode cX3_tell 11 = .ok (.iload_n 1, 1) := by decide +kernel
theorem dX3_tell_12 : decode cX3_tell 12 = .ok (.iconst 1, 1) := by decide +kernel
theorem dX3_tell_13 : decode cX3_tell 13 = .ok (.bastore, 1) := by decide +kernel
theorem dX3_tell_14 : decode cX3_tell 14 = .ok (.return_, 1) := by decide +kernel
theorem dX3_valueAt_0 : decode cX3_valueAt 0 = .ok (.aload_n 0, 1) := by decide +kernel
theorem dX3_valueAt_1 : decode cX3_valueAt 1 = .ok (.iload_n 1, 1) := by decide +kernel
theorem dX3_valueAt_2 : decode cX3_valueAt 2 = .ok (.invokevirtual 23, 3) := by decide +kernel
theorem dX3_valueAt_5 : decode cX3_valueAt 5 = .ok (.istore_n 2, 1) := by decide +kernel
theorem dX3_valueAt_6 : decode cX3_valueAt 6 = .ok (.aload_n 0, 1) := by decide +kernel
theorem dX3_valueAt_7 : decode cX3_valueAt 7 = .ok (.iload_n 1, 1) := by decide +kernel
theorem dX3_valueAt_8 : decode cX3_valueAt 8 = .ok (.invokevirtual 27, 3) := by decide +kernel
theorem dX3_valueAt_11 : decode cX3_valueAt 11 = .ok (.istore_n 3, 1) := by decide +kernel
theorem dX3_valueAt_12 : decode cX3_valueAt 12 = .ok (.iload_n 2, 1) := by decide +kernel
theorem dX3_valueAt_13 : decode cX3_valueAt 13 = .ok (.iconst (-1), 1) := by decide +kernel
theorem dX3_valueAt_14 : decode cX3_valueAt 14 = .ok (.if_icmp .ne 19, 3) := by decide +kernel
theorem dX3_valueAt_17 : decode cX3_valueAt 17 = .ok (.iload_n 3, 1) := by decide +kernel
theorem dX3_valueAt_18 : decode cX3_valueAt 18 = .ok (.iconst (-1), 1) := by decide +kernel
theorem dX3_valueAt_19 : decode cX3_valueAt 19 = .ok (.if_icmp .ne 7, 3) := by decide +kernel
theorem dX3_valueAt_22 : decode cX3_valueAt 22 = .ok (.iconst 0, 1) := by decide +kernel
theorem dX3_valueAt_23 : decode cX3_valueAt 23 = .ok (.goto 9, 3) := by decide +kernel
theorem dX3_valueAt_26 : decode cX3_valueAt 26 = .ok (.aload_n 0, 1) := by decide +kernel
theorem dX3_valueAt_27 : decode cX3_valueAt 27 = .ok (.getfield 15, 3) := by decide +kernel
theorem dX3_valueAt_30 : decode cX3_valueAt 30 = .ok (.iload_n 3, 1) := by decide +kernel
theorem dX3_valueAt_31 : decode cX3_valueAt 31 = .ok (.iaload, 1) := by decide +kernel
theorem dX3_valueAt_32 : decode cX3_valueAt 32 = .ok (.ireturn, 1) := by decide +kernel
theorem dX3_valueAt_33 : decode cX3_valueAt 33 = .ok (.iload_n 3, 1) := by decide +kernel
theorem dX3_valueAt_34 : decode cX3_valueAt 34 = .ok (.iload_n 2, 1) := by decide +kernel
theorem dX3_valueAt_35 : decode cX3_valueAt 35 = .ok (.if_icmp .gt 10, 3) := by decide +kernel
theorem dX3_valueAt_38 : decode cX3_valueAt 38 = .ok (.aload_n 0, 1) := by decide +kernel
theorem dX3_valueAt_39 : decode cX3_valueAt 39 = .ok (.getfield 15, 3) := by decide +kernel
theorem dX3_valueAt_42 : decode cX3_valueAt 42 = .ok (.iload_n 2, 1) := by decide +kernel
theorem dX3_valueAt_43 : decode cX3_valueAt 43 = .ok (.iaload, 1) := by decide +kernel
theorem dX3_valueAt_44 : decode cX3_valueAt 44 = .ok (.ireturn, 1) := by decide +kernel
theorem dX3_valueAt_45 : decode cX3_valueAt 45 = .ok (.aload_n 0, 1) := by decide +kernel
theorem dX3_valueAt_46 : decode cX3_valueAt 46 = .ok (.iload_n 2, 1) := by decide +kernel
theorem dX3_valueAt_47 : decode cX3_valueAt 47 = .ok (.iload_n 3, 1) := by decide +kernel
theorem dX3_valueAt_48 : decode cX3_valueAt 48 = .ok (.iload_n 1, 1) := by decide +kernel
theorem dX3_valueAt_49 : decode cX3_valueAt 49 = .ok (.invokevirtual 30, 3) := by decide +kernel
theorem dX3_valueAt_52 : decode cX3_valueAt 52 = .ok (.ireturn, 1) := by decide +kernel
theorem dX3_keyUpTo_0 : decode cX3_keyUpTo 0 = .ok (.iload_n 1, 1) := by decide +kernel
theorem dX3_keyUpTo_1 : decode cX3_keyUpTo 1 = .ok (.istore_n 2, 1) := by decide +kernel
theorem dX3_keyUpTo_2 : decode cX3_keyUpTo 2 = .ok (.iload_n 2, 1) := by decide +kernel
theorem dX3_keyUpTo_3 : decode cX3_keyUpTo 3 = .ok (.ifCond .lt 20, 3) := by decide +kernel
theorem dX3_keyUpTo_6 : decode cX3_keyUpTo 6 = .ok (.aload_n 0, 1) := by decide +kernel
theorem dX3_keyUpTo_7 : decode cX3_keyUpTo 7 = .ok (.getfield 19, 3) := by decide +kernel
theorem dX3_keyUpTo_10 : decode cX3_keyUpTo 10 = .ok (.iload_n 2, 1) := by decide +kernel
theorem dX3_keyUpTo_11 : decode cX3_keyUpTo 11 = .ok (.baload, 1) := by decide +kernel
theorem dX3_keyUpTo_12 : decode cX3_keyUpTo 12 = .ok (.ifCond .eq 5, 3) := by decide +kernel
theorem dX3_keyUpTo_15 : decode cX3_keyUpTo 15 = .ok (.iload_n 2, 1) := by decide +kernel
theorem dX3_keyUpTo_16 : decode cX3_keyUpTo 16 = .ok (.ireturn, 1) := by decide +kernel
theorem dX3_keyUpTo_17 : decode cX3_keyUpTo 17 = .ok (.iinc 2 (-1), 3) := by decide +kernel
theorem dX3_keyUpTo_20 : decode cX3_keyUpTo 20 = .ok (.goto (-18), 3) := by decide +kernel
theorem dX3_keyUpTo_23 : decode cX3_keyUpTo 23 = .ok (.iconst (-1), 1) := by decide +kernel
theorem dX3_keyUpTo_24 : decode cX3_keyUpTo 24 = .ok (.ireturn, 1) := by decide +kernel
theorem dX3_keyFrom_0 : decode cX3_keyFrom 0 = .ok (.iload_n 1, 1) := by decide +kernel
theorem dX3_keyFrom_1 : decode cX3_keyFrom 1 = .ok (.istore_n 2, 1) := by decide +kernel
theorem dX3_keyFrom_2 : decode cX3_keyFrom 2 = .ok (.iload_n 2, 1) := by decide +kernel
theorem dX3_keyFrom_3 : decode cX3_keyFrom 3 = .ok (.aload_n 0, 1) := by decide +kernel
theorem dX3_keyFrom_4 : decode cX3_keyFrom 4 = .ok (.getfield 19, 3) := by decide +kernel
theorem dX3_keyFrom_7 : decode cX3_keyFrom 7 = .ok (.arraylength, 1) := by decide +kernel
theorem dX3_keyFrom_8 : decode cX3_keyFrom 8 = .ok (.if_icmp .ge 20, 3) := by decide +kernel
theorem dX3_keyFrom_11 : decode cX3_keyFrom 11 = .ok (.aload_n 0, 1) := by decide +kernel
theorem dX3_keyFrom_12 : decode cX3_keyFrom 12 = .ok (.getfield 19, 3) := by decide +kernel
theorem dX3_keyFrom_15 : decode cX3_keyFrom 15 = .ok (.iload_n 2, 1) := by decide +kernel
theorem dX3_keyFrom_16 : decode cX3_keyFrom 16 = .ok (.baload, 1) := by decide +kernel
theorem dX3_keyFrom_17 : decode cX3_keyFrom 17 = .ok (.ifCond .eq 5, 3) := by decide +kernel
theorem dX3_keyFrom_20 : decode cX3_keyFrom 20 = .ok (.iload_n 2, 1) := by decide +kernel
theorem dX3_keyFrom_21 : decode cX3_keyFrom 21 = .ok (.ireturn, 1) := by decide +kernel
theorem dX3_keyFrom_22 : decode cX3_keyFrom 22 = .ok (.iinc 2 1, 3) := by decide +kernel
theorem dX3_keyFrom_25 : decode cX3_keyFrom 25 = .ok (.goto (-23), 3) := by decide +kernel
theorem dX3_keyFrom_28 : decode cX3_keyFrom 28 = .ok (.iconst (-1), 1) := by decide +kernel
theorem dX3_keyFrom_29 : decode cX3_keyFrom 29 = .ok (.ireturn, 1) := by decide +kernel
theorem dX3_between_0 : decode cX3_between 0 = .ok (.iload_n 2, 1) := by decide +kernel
theorem dX3_between_1 : decode cX3_between 1 = .ok (.iload_n 1, 1) := by decide +kernel
theorem dX3_between_2 : decode cX3_between 2 = .ok (.isub, 1) := by decide +kernel
theorem dX3_between_3 : decode cX3_between 3 = .ok (.istore 4, 2) := by decide +kernel
theorem dX3_between_5 : decode cX3_between 5 = .ok (.iload 4, 2) := by decide +kernel
theorem dX3_between_7 : decode cX3_between 7 = .ok (.ifCond .gt 10, 3) := by decide +kernel
theorem dX3_between_10 : decode cX3_between 10 = .ok (.aload_n 0, 1) := by decide +kernel
theorem dX3_between_11 : decode cX3_between 11 = .ok (.getfield 15, 3) := by decide +kernel
theorem dX3_between_14 : decode cX3_between 14 = .ok (.iload_n 1, 1) := by decide +kernel
theorem dX3_between_15 : decode cX3_between 15 = .ok (.iaload, 1) := by decide +kernel
theorem dX3_between_16 : decode cX3_between 16 = .ok (.ireturn, 1) := by decide +kernel
theorem dX3_between_17 : decode cX3_between 17 = .ok (.aload_n 0, 1) := by decide +kernel
theorem dX3_between_18 : decode cX3_between 18 = .ok (.getfield 9, 3) := by decide +kernel
theorem dX3_between_21 : decode cX3_between 21 = .ok (.ifCond .eq 21, 3) := by decide +kernel
theorem dX3_between_24 : decode cX3_between 24 = .ok (.aload_n 0, 1) := by decide +kernel
theorem dX3_between_25 : decode cX3_between 25 = .ok (.getfield 15, 3) := by decide +kernel
theorem dX3_between_28 : decode cX3_between 28 = .ok (.iload_n 1, 1) := by decide +kernel
theorem dX3_between_29 : decode cX3_between 29 = .ok (.iaload, 1) := by decide +kernel
theorem dX3_between_30 : decode cX3_between 30 = .ok (.aload_n 0, 1) := by decide +kernel
theorem dX3_between_31 : decode cX3_between 31 = .ok (.getfield 15, 3) := by decide +kernel
theorem dX3_between_34 : decode cX3_between 34 = .ok (.iload_n 2, 1) := by decide +kernel
theorem dX3_between_35 : decode cX3_between 35 = .ok (.iaload, 1) := by decide +kernel
theorem dX3_between_36 : decode cX3_between 36 = .ok (.invokestatic 34, 3) := by decide +kernel
theorem dX3_between_39 : decode cX3_between 39 = .ok (.goto 16, 3) := by decide +kernel
theorem dX3_between_42 : decode cX3_between 42 = .ok (.aload_n 0, 1) := by decide +kernel
theorem dX3_between_43 : decode cX3_between 43 = .ok (.getfield 15, 3) := by decide +kernel
theorem dX3_between_46 : decode cX3_between 46 = .ok (.iload_n 2, 1) := by decide +kernel
theorem dX3_between_47 : decode cX3_between 47 = .ok (.iaload, 1) := by decide +kernel
theorem dX3_between_48 : decode cX3_between 48 = .ok (.aload_n 0, 1) := by decide +kernel
theorem dX3_between_49 : decode cX3_between 49 = .ok (.getfield 15, 3) := by decide +kernel
theorem dX3_between_52 : decode cX3_between 52 = .ok (.iload_n 1, 1) := by decide +kernel
theorem dX3_between_53 : decode cX3_between 53 = .ok (.iaload, 1) := by decide +kernel
theorem dX3_between_54 : decode cX3_between 54 = .ok (.isub, 1) := by decide +kernel
theorem dX3_between_55 : decode cX3_between 55 = .ok (.istore 5, 2) := by decide +kernel
theorem dX3_between_57 : decode cX3_between 57 = .ok (.aload_n 0, 1) := by decide +kernel
theorem dX3_between_58 : decode cX3_between 58 = .ok (.getfield 15, 3) := by decide +kernel
theorem dX3_between_61 : decode cX3_between 61 = .ok (.iload_n 1, 1) := by decide +kernel
theorem dX3_between_62 : decode cX3_between 62 = .ok (.iaload, 1) := by decide +kernel
theorem dX3_between_63 : decode cX3_between 63 = .ok (.iload 5, 2) := by decide +kernel
theorem dX3_between_65 : decode cX3_between 65 = .ok (.iload_n 3, 1) := by decide +kernel
theorem dX3_between_66 : decode cX3_between 66 = .ok (.iload_n 1, 1) := by decide +kernel
theorem dX3_between_67 : decode cX3_between 67 = .ok (.isub, 1) := by decide +kernel
theorem dX3_between_68 : decode cX3_between 68 = .ok (.imul, 1) := by decide +kernel
theorem dX3_between_69 : decode cX3_between 69 = .ok (.iload 4, 2) := by decide +kernel
theorem dX3_between_71 : decode cX3_between 71 = .ok (.idiv, 1) := by decide +kernel
theorem dX3_between_72 : decode cX3_between 72 = .ok (.iadd, 1) := by decide +kernel
theorem dX3_between_73 : decode cX3_between 73 = .ok (.istore 6, 2) := by decide +kernel
theorem dX3_between_75 : decode cX3_between 75 = .ok (.aload_n 0, 1) := by decide +kernel
theorem dX3_between_76 : decode cX3_between 76 = .ok (.getfield 9, 3) := by decide +kernel
theorem dX3_between_79 : decode cX3_between 79 = .ok (.ifCond .eq 14, 3) := by decide +kernel
theorem dX3_between_82 : decode cX3_between 82 = .ok (.iload 6, 2) := by decide +kernel
theorem dX3_between_84 : decode cX3_between 84 = .ok (.sipush 360, 3) := by decide +kernel
theorem dX3_between_87 : decode cX3_between 87 = .ok (.invokestatic 38, 3) := by decide +kernel
theorem dX3_between_90 : decode cX3_between 90 = .ok (.goto 5, 3) := by decide +kernel
theorem dX3_between_93 : decode cX3_between 93 = .ok (.iload 6, 2) := by decide +kernel
theorem dX3_between_95 : decode cX3_between 95 = .ok (.ireturn, 1) := by decide +kernel
theorem dX4_init_0 : decode cX4_init 0 = .ok (.aload_n 0, 1) := by decide +kernel
theorem dX4_init_1 : decode cX4_init 1 = .ok (.invokespecial 3, 3) := by decide +kernel
theorem dX4_init_4 : decode cX4_init 4 = .ok (.aload_n 0, 1) := by decide +kernel
theorem dX4_init_5 : decode cX4_init 5 = .ok (.bipush 12, 2) := by decide +kernel
theorem dX4_init_7 : decode cX4_init 7 = .ok (.newarray .int, 2) := by decide +kernel
theorem dX4_init_9 : decode cX4_init 9 = .ok (.putfield 9, 3) := by decide +kernel
theorem dX4_init_12 : decode cX4_init 12 = .ok (.aload_n 0, 1) := by decide +kernel
theorem dX4_init_13 : decode cX4_init 13 = .ok (.bipush 12, 2) := by decide +kernel
theorem dX4_init_15 : decode cX4_init 15 = .ok (.newarray .int, 2) := by decide +kernel
theorem dX4_init_17 : decode cX4_init 17 = .ok (.putfield 15, 3) := by decide +kernel
theorem dX4_init_20 : decode cX4_init 20 = .ok (.aload_n 0, 1) := by decide +kernel
theorem dX4_init_21 : decode cX4_init 21 = .ok (.iconst 0, 1) := by decide +kernel
theorem dX4_init_22 : decode cX4_init 22 = .ok (.putfield 18, 3) := by decide +kernel
theorem dX4_init_25 : decode cX4_init 25 = .ok (.return_, 1) := by decide +kernel
theorem dX4_add_0 : decode cX4_add 0 = .ok (.aload_n 0, 1) := by decide +kernel
theorem dX4_add_1 : decode cX4_add 1 = .ok (.getfield 9, 3) := by decide +kernel
theorem dX4_add_4 : decode cX4_add 4 = .ok (.aload_n 0, 1) := by decide +kernel
theorem dX4_add_5 : decode cX4_add 5 = .ok (.getfield 18, 3) := by decide +kernel
theorem dX4_add_8 : decode cX4_add 8 = .ok (.iload_n 1, 1) := by decide +kernel
theorem dX4_add_9 : decode cX4_add 9 = .ok (.iastore, 1) := by decide +kernel
theorem dX4_add_10 : decode cX4_add 10 = .ok (.aload_n 0, 1) := by decide +kernel
theorem dX4_add_11 : decode cX4_add 11 = .ok (.getfield 15, 3) := by decide +kernel
theorem dX4_add_14 : decode cX4_add 14 = .ok (.aload_n 0, 1) := by decide +kernel
theorem dX4_add_15 : decode cX4_add 15 = .ok (.getfield 18, 3) := by decide +kernel
theorem dX4_add_18 : decode cX4_add 18 = .ok (.aload_n 0, 1) := by decide +kernel
theorem dX4_add_19 : decode cX4_add 19 = .ok (.getfield 18, 3) := by decide +kernel
theorem dX4_add_22 : decode cX4_add 22 = .ok (.ifCond .ne 7, 3) := by decide +kernel
theorem dX4_add_25 : decode cX4_add 25 = .ok (.iload_n 2, 1) := by decide +kernel
theorem dX4_add_26 : decode cX4_add 26 = .ok (.goto 16, 3) := by decide +kernel
theorem dX4_add_29 : decode cX4_add 29 = .ok (.aload_n 0, 1) := by decide +kernel
theorem dX4_add_30 : decode cX4_add 30 = .ok (.getfield 15, 3) := by decide +kernel
theorem dX4_add_33 : decode cX4_add 33 = .ok (.aload_n 0, 1) := by decide +kernel
theorem dX4_add_34 : decode cX4_add 34 = .ok (.getfield 18, 3) := by decide +kernel
theorem dX4_add_37 : decode cX4_add 37 = .ok (.iconst 1, 1) := by decide +kernel
theorem dX4_add_38 : decode cX4_add 38 = .ok (.isub, 1) := by decide +kernel
theorem dX4_add_39 : decode cX4_add 39 = .ok (.iaload, 1) := by decide +kernel
theorem dX4_add_40 : decode cX4_add 40 = .ok (.iload_n 2, 1) := by decide +kernel
theorem dX4_add_41 : decode cX4_add 41 = .ok (.iadd, 1) := by decide +kernel
theorem dX4_add_42 : decode cX4_add 42 = .ok (.iastore, 1) := by decide +kernel
theorem dX4_add_43 : decode cX4_add 43 = .ok (.aload_n 0, 1) := by decide +kernel
theorem dX4_add_44 : decode cX4_add 44 = .ok (.dup, 1) := by decide +kernel
theorem dX4_add_45 : decode cX4_add 45 = .ok (.getfield 18, 3) := by decide +kernel
theorem dX4_add_48 : decode cX4_add 48 = .ok (.iconst 1, 1) := by decide +kernel
theorem dX4_add_49 : decode cX4_add 49 = .ok (.iadd, 1) := by decide +kernel
theorem dX4_add_50 : decode cX4_add 50 = .ok (.putfield 18, 3) := by decide +kernel
theorem dX4_add_53 : decode cX4_add 53 = .ok (.return_, 1) := by decide +kernel
theorem dX4_soundAt_0 : decode cX4_soundAt 0 = .ok (.iconst 0, 1) := by decide +kernel
theorem dX4_soundAt_1 : decode cX4_soundAt 1 = .ok (.istore_n 2, 1) := by decide +kernel
theorem dX4_soundAt_2 : decode cX4_soundAt 2 = .ok (.iload_n 2, 1) := by decide +kernel
theorem dX4_soundAt_3 : decode cX4_soundAt 3 = .ok (.aload_n 0, 1) := by decide +kernel
theorem dX4_soundAt_4 : decode cX4_soundAt 4 = .ok (.getfield 18, 3) := by decide +kernel
theorem dX4_soundAt_7 : decode cX4_soundAt 7 = .ok (.if_icmp .ge 26, 3) := by decide +kernel
theorem dX4_soundAt_10 : decode cX4_soundAt 10 = .ok (.iload_n 1, 1) := by decide +kernel
theorem dX4_soundAt_11 : decode cX4_soundAt 11 = .ok (.aload_n 0, 1) := by decide +kernel
theorem dX4_soundAt_12 : decode cX4_soundAt 12 = .ok (.getfield 15, 3) := by decide +kernel
theorem dX4_soundAt_15 : decode cX4_soundAt 15 = .ok (.iload_n 2, 1) := by decide +kernel
theorem dX4_soundAt_16 : decode cX4_soundAt 16 = .ok (.iaload, 1) := by decide +kernel
theorem dX4_soundAt_17 : decode cX4_soundAt 17 = .ok (.if_icmp .ge 10, 3) := by decide +kernel
theorem dX4_soundAt_20 : decode cX4_soundAt 20 = .ok (.aload_n 0, 1) := by decide +kernel
theorem dX4_soundAt_21 : decode cX4_soundAt 21 = .ok (.getfield 9, 3) := by decide +kernel
theorem dX4_soundAt_24 : decode cX4_soundAt 24 = .ok (.iload_n 2, 1) := by decide +kernel
theorem dX4_soundAt_25 : decode cX4_soundAt 25 = .ok (.iaload, 1) := by decide +kernel
theorem dX4_soundAt_26 : decode cX4_soundAt 26 = .ok (.ireturn, 1) := by decide +kernel
theorem dX4_soundAt_27 : decode cX4_soundAt 27 = .ok (.iinc 2 1, 3) := by decide +kernel
theorem dX4_soundAt_30 : decode cX4_soundAt 30 = .ok (.goto (-28), 3) := by decide +kernel
theorem dX4_soundAt_33 : decode cX4_soundAt 33 = .ok (.iconst (-1), 1) := by decide +kernel
theorem dX4_soundAt_34 : decode cX4_soundAt 34 = .ok (.ireturn, 1) := by decide +kernel
theorem dX5_init_0 : decode cX5_init 0 = .ok (.aload_n 0, 1) := by decide +kernel
theorem dX5_init_1 : decode cX5_init 1 = .ok (.invokespecial 1, 3) := by decide +kernel
theorem dX5_init_4 : decode cX5_init 4 = .ok (.aload_n 0, 1) := by decide +kernel
theorem dX5_init_5 : decode cX5_init 5 = .ok (.iconst 5, 1) := by decide +kernel
theorem dX5_init_6 : decode cX5_init 6 = .ok (.anewarray 9, 3) := by decide +kernel
theorem dX5_init_9 : decode cX5_init 9 = .ok (.putfield 11, 3) := by decide +kernel
theorem dX5_init_12 : decode cX5_init 12 = .ok (.aload_n 0, 1) := by decide +kernel
theorem dX5_init_13 : decode cX5_init 13 = .ok (.iconst 0, 1) := by decide +kernel
theorem dX5_init_14 : decode cX5_init 14 = .ok (.putfield 15, 3) := by decide +kernel
theorem dX5_init_17 : decode cX5_init 17 = .ok (.aload_n 0, 1) := by decide +kernel
theorem dX5_init_18 : decode cX5_init 18 = .ok (.bipush 6, 2) := by decide +kernel
theorem dX5_init_20 : decode cX5_init 20 = .ok (.anewarray 19, 3) := by decide +kernel
theorem dX5_init_23 : decode cX5_init 23 = .ok (.putfield 21, 3) := by decide +kernel
theorem dX5_init_26 : decode cX5_init 26 = .ok (.aload_n 0, 1) := by decide +kernel
theorem dX5_init_27 : decode cX5_init 27 = .ok (.iconst 0, 1) := by decide +kernel
theorem dX5_init_28 : decode cX5_init 28 = .ok (.putfield 25, 3) := by decide +kernel
theorem dX5_init_31 : decode cX5_init 31 = .ok (.aload_n 0, 1) := by decide +kernel
theorem dX5_init_32 : decode cX5_init 32 = .ok (.new 19, 3) := by decide +kernel
theorem dX5_init_35 : decode cX5_init 35 = .ok (.dup, 1) := by decide +kernel
theorem dX5_init_36 : decode cX5_init 36 = .ok (.invokespecial 28, 3) := by decide +kernel
theorem dX5_init_39 : decode cX5_init 39 = .ok (.putfield 29, 3) := by decide +kernel
theorem dX5_init_42 : decode cX5_init 42 = .ok (.aload_n 0, 1) := by decide +kernel
theorem dX5_init_43 : decode cX5_init 43 = .ok (.bipush 8, 2) := by decide +kernel
theorem dX5_init_45 : decode cX5_init 45 = .ok (.anewarray 33, 3) := by decide +kernel
theorem dX5_init_48 : decode cX5_init 48 = .ok (.putfield 35, 3) := by decide +kernel
theorem dX5_init_51 : decode cX5_init 51 = .ok (.aload_n 0, 1) := by decide +kernel
theorem dX5_init_52 : decode cX5_init 52 = .ok (.iconst 0, 1) := by decide +kernel
theorem dX5_init_53 : decode cX5_init 53 = .ok (.putfield 39, 3) := by decide +kernel
theorem dX5_init_56 : decode cX5_init 56 = .ok (.aload_n 0, 1) := by decide +kernel
theorem dX5_init_57 : decode cX5_init 57 = .ok (.iconst 5, 1) := by decide +kernel
theorem dX5_init_58 : decode cX5_init 58 = .ok (.newarray .boolean, 2) := by decide +kernel
theorem dX5_init_60 : decode cX5_init 60 = .ok (.putfield 42, 3) := by decide +kernel
theorem dX5_init_63 : decode cX5_init 63 = .ok (.aload_n 0, 1) := by decide +kernel
theorem dX5_init_64 : decode cX5_init 64 = .ok (.bipush 8, 2) := by decide +kernel
theorem dX5_init_66 : decode cX5_init 66 = .ok (.newarray .int, 2) := by decide +kernel
theorem dX5_init_68 : decode cX5_init 68 = .ok (.putfield 46, 3) := by decide +kernel
theorem dX5_init_71 : decode cX5_init 71 = .ok (.aload_n 0, 1) := by decide +kernel
theorem dX5_init_72 : decode cX5_init 72 = .ok (.iconst 0, 1) := by decide +kernel
theorem dX5_init_73 : decode cX5_init 73 = .ok (.putfield 50, 3) := by decide +kernel
theorem dX5_init_76 : decode cX5_init 76 = .ok (.aload_n 0, 1) := by decide +kernel
theorem dX5_init_77 : decode cX5_init 77 = .ok (.iconst 0, 1) := by decide +kernel
theorem dX5_init_78 : decode cX5_init 78 = .ok (.putfield 53, 3) := by decide +kernel
theorem dX5_init_81 : decode cX5_init 81 = .ok (.aload_n 0, 1) := by decide +kernel
theorem dX5_init_82 : decode cX5_init 82 = .ok (.iconst 0, 1) := by decide +kernel
theorem dX5_init_83 : decode cX5_init 83 = .ok (.putfield 56, 3) := by decide +kernel
theorem dX5_init_86 : decode cX5_init 86 = .ok (.return_, 1) := by decide +kernel
theorem dX5_puppet_0 : decode cX5_puppet 0 = .ok (.iload_n 1, 1) := by decide +kernel
theorem dX5_puppet_1 : decode cX5_puppet 1 = .ok (.iconst 1, 1) := by decide +kernel
theorem dX5_puppet_2 : decode cX5_puppet 2 = .ok (.bipush 6, 2) := by decide +kernel
theorem dX5_puppet_4 : decode cX5_puppet 4 = .ok (.invokestatic 59, 3) := by decide +kernel
theorem dX5_puppet_7 : decode cX5_puppet 7 = .ok (.aload_n 0, 1) := by decide +kernel
theorem dX5_puppet_8 : decode cX5_puppet 8 = .ok (.getfield 15, 3) := by decide +kernel
theorem dX5_puppet_11 : decode cX5_puppet 11 = .ok (.iconst 5, 1) := by decide +kernel
theorem dX5_puppet_12 : decode cX5_puppet 12 = .ok (.if_icmp .lt 13, 3) := by decide +kernel
theorem dX5_puppet_15 : decode cX5_puppet 15 = .ok (.new 63, 3) := by decide +kernel
theorem dX5_puppet_18 : decode cX5_puppet 18 = .ok (.dup, 1) := by decide +kernel
theorem dX5_puppet_19 : decode cX5_puppet 19 = .ok (.ldc 65, 2) := by decide +kernel
theorem dX5_puppet_21 : decode cX5_puppet 21 = .ok (.invokespecial 67, 3) := by decide +kernel
theorem dX5_puppet_24 : decode cX5_puppet 24 = .ok (.athrow, 1) := by decide +kernel
theorem dX5_puppet_25 : decode cX5_puppet 25 = .ok (.aload_n 0, 1) := by decide +kernel
theorem dX5_puppet_26 : decode cX5_puppet 26 = .ok (.getfield 11, 3) := by decide +kernel
theorem dX5_puppet_29 : decode cX5_puppet 29 = .ok (.aload_n 0, 1) := by decide +kernel
theorem dX5_puppet_30 : decode cX5_puppet 30 = .ok (.getfield 15, 3) := by decide +kernel
theorem dX5_puppet_33 : decode cX5_puppet 33 = .ok (.new 9, 3) := by decide +kernel
theorem dX5_puppet_36 : decode cX5_puppet 36 = .ok (.dup, 1) := by decide +kernel
theorem dX5_puppet_37 : decode cX5_puppet 37 = .ok (.iload_n 1, 1) := by decide +kernel
theorem dX5_puppet_38 : decode cX5_puppet 38 = .ok (.invokespecial 70, 3) := by decide +kernel
theorem dX5_puppet_41 : decode cX5_puppet 41 = .ok (.aastore, 1) := by decide +kernel
theorem dX5_puppet_42 : decode cX5_puppet 42 = .ok (.aload_n 0, 1) := by decide +kernel
theorem dX5_puppet_43 : decode cX5_puppet 43 = .ok (.dup, 1) := by decide +kernel
theorem dX5_puppet_44 : decode cX5_puppet 44 = .ok (.getfield 15, 3) := by decide +kernel
theorem dX5_puppet_47 : decode cX5_puppet 47 = .ok (.dup_x1, 1) := by decide +kernel
theorem dX5_puppet_48 : decode cX5_puppet 48 = .ok (.iconst 1, 1) := by decide +kernel
theorem dX5_puppet_49 : decode cX5_puppet 49 = .ok (.iadd, 1) := by decide +kernel
theorem dX5_puppet_50 : decode cX5_puppet 50 = .ok (.putfield 15, 3) := by decide +kernel
theorem dX5_puppet_53 : decode cX5_puppet 53 = .ok (.ireturn, 1) := by decide +kernel
theorem dX5_mouths_0 : decode cX5_mouths 0 = .ok (.aload_n 0, 1) := by decide +kernel
theorem dX5_mouths_1 : decode cX5_mouths 1 = .ok (.iload_n 1, 1) := by decide +kernel
theorem dX5_mouths_2 : decode cX5_mouths 2 = .ok (.invokevirtual 73, 3) := by decide +kernel
theorem dX5_mouths_5 : decode cX5_mouths 5 = .ok (.astore 4, 2) := by decide +kernel
theorem dX5_mouths_7 : decode cX5_mouths 7 = .ok (.iload_n 2, 1) := by decide +kernel
theorem dX5_mouths_8 : decode cX5_mouths 8 = .ok (.invokestatic 77, 3) := by decide +kernel
theorem dX5_mouths_11 : decode cX5_mouths 11 = .ok (.iload_n 3, 1) := by decide +kernel
theorem dX5_mouths_12 : decode cX5_mouths 12 = .ok (.iconst 1, 1) := by decide +kernel
theorem dX5_mouths_13 : decode cX5_mouths 13 = .ok (.bipush 9, 2) := by decide +kernel
theorem dX5_mouths_15 : decode cX5_mouths 15 = .ok (.invokestatic 59, 3) := by decide +kernel
theorem dX5_mouths_18 : decode cX5_mouths 18 = .ok (.aload 4, 2) := by decide +kernel
theorem dX5_mouths_20 : decode cX5_mouths 20 = .ok (.getfield 80, 3) := by decide +kernel
theorem dX5_mouths_23 : decode cX5_mouths 23 = .ok (.iload_n 2, 1) := by decide +kernel
theorem dX5_mouths_24 : decode cX5_mouths 24 = .ok (.iaload, 1) := by decide +kernel
theorem dX5_mouths_25 : decode cX5_mouths 25 = .ok (.iload_n 3, 1) := by decide +kernel
theorem dX5_mouths_26 : decode cX5_mouths 26 = .ok (.iadd, 1) := by decide +kernel
theorem dX5_mouths_27 : decode cX5_mouths 27 = .ok (.bipush 9, 2) := by decide +kernel
theorem dX5_mouths_29 : decode cX5_mouths 29 = .ok (.if_icmp .le 13, 3) := by decide +kernel
theorem dX5_mouths_32 : decode cX5_mouths 32 = .ok (.new 63, 3) := by decide +kernel
theorem dX5_mouths_35 : decode cX5_mouths 35 = .ok (.dup, 1) := by decide +kernel
theorem dX5_mouths_36 : decode cX5_mouths 36 = .ok (.ldc 83, 2) := by decide +kernel
theorem dX5_mouths_38 : decode cX5_mouths 38 = .ok (.invokespecial 67, 3) := by decide +kernel
theorem dX5_mouths_41 : decode cX5_mouths 41 = .ok (.athrow, 1) := by decide +kernel
theorem dX5_mouths_42 : decode cX5_mouths 42 = .ok (.aload 4, 2) := by decide +kernel
theorem dX5_mouths_44 : decode cX5_mouths 44 = .ok (.getfield 80, 3) := by decide +kernel
theorem dX5_mouths_47 : decode cX5_mouths 47 = .ok (.iload_n 2, 1) := by decide +kernel
theorem dX5_mouths_48 : decode cX5_mouths 48 = .ok (.dup2, 1) := by decide +kernel
theorem dX5_mouths_49 : decode cX5_mouths 49 = .ok (.iaload, 1) := by decide +kernel
theorem dX5_mouths_50 : decode cX5_mouths 50 = .ok (.iload_n 3, 1) := by decide +kernel
theorem dX5_mouths_51 : decode cX5_mouths 51 = .ok (.iadd, 1) := by decide +kernel
theorem dX5_mouths_52 : decode cX5_mouths 52 = .ok (.iastore, 1) := by decide +kernel
theorem dX5_mouths_53 : decode cX5_mouths 53 = .ok (.aload 4, 2) := by decide +kernel
theorem dX5_mouths_55 : decode cX5_mouths 55 = .ok (.getfield 80, 3) := by decide +kernel
theorem dX5_mouths_58 : decode cX5_mouths 58 = .ok (.iload_n 2, 1) := by decide +kernel
theorem dX5_mouths_59 : decode cX5_mouths 59 = .ok (.iaload, 1) := by decide +kernel
theorem dX5_mouths_60 : decode cX5_mouths 60 = .ok (.ireturn, 1) := by decide +kernel
theorem dX5_sound_0 : decode cX5_sound 0 = .ok (.iload_n 1, 1) := by decide +kernel
theorem dX5_sound_1 : decode cX5_sound 1 = .ok (.invokestatic 77, 3) := by decide +kernel
theorem dX5_sound_4 : decode cX5_sound 4 = .ok (.iload_n 2, 1) := by decide +kernel
theorem dX5_sound_5 : decode cX5_sound 5 = .ok (.iconst 1, 1) := by decide +kernel
theorem dX5_sound_6 : decode cX5_sound 6 = .ok (.bipush 24, 2) := by decide +kernel
theorem dX5_sound_8 : decode cX5_sound 8 = .ok (.invokestatic 59, 3) := by decide +kernel
theorem dX5_sound_11 : decode cX5_sound 11 = .ok (.aload_n 0, 1) := by decide +kernel
theorem dX5_sound_12 : decode cX5_sound 12 = .ok (.getfield 29, 3) := by decide +kernel
theorem dX5_sound_15 : decode cX5_sound 15 = .ok (.getfield 85, 3) := by decide +kernel
theorem dX5_sound_18 : decode cX5_sound 18 = .ok (.bipush 12, 2) := by decide +kernel
theorem dX5_sound_20 : decode cX5_sound 20 = .ok (.if_icmp .lt 13, 3) := by decide +kernel
theorem dX5_sound_23 : decode cX5_sound 23 = .ok (.new 63, 3) := by decide +kernel
theorem dX5_sound_26 : decode cX5_sound 26 = .ok (.dup, 1) := by decide +kernel
theorem dX5_sound_27 : decode cX5_sound 27 = .ok (.ldc 88, 2) := by decide +kernel
theorem dX5_sound_29 : decode cX5_sound 29 = .ok (.invokespecial 67, 3) := by decide +kernel
theorem dX5_sound_32 : decode cX5_sound 32 = .ok (.athrow, 1) := by decide +kernel
theorem dX5_sound_33 : decode cX5_sound 33 = .ok (.aload_n 0, 1) := by decide +kernel
theorem dX5_sound_34 : decode cX5_sound 34 = .ok (.getfield 29, 3) := by decide +kernel
theorem dX5_sound_37 : decode cX5_sound 37 = .ok (.iload_n 1, 1) := by decide +kernel
theorem dX5_sound_38 : decode cX5_sound 38 = .ok (.iload_n 2, 1) := by decide +kernel
theorem dX5_sound_39 : decode cX5_sound 39 = .ok (.invokevirtual 90, 3) := by decide +kernel
theorem dX5_sound_42 : decode cX5_sound 42 = .ok (.aload_n 0, 1) := by decide +kernel
theorem dX5_sound_43 : decode cX5_sound 43 = .ok (.getfield 29, 3) := by decide +kernel
theorem dX5_sound_46 : decode cX5_sound 46 = .ok (.getfield 85, 3) := by decide +kernel
theorem dX5_sound_49 : decode cX5_sound 49 = .ok (.ireturn, 1) := by decide +kernel
theorem dX5_voice_0 : decode cX5_voice 0 = .ok (.aload_n 0, 1) := by decide +kernel
theorem dX5_voice_1 : decode cX5_voice 1 = .ok (.getfield 29, 3) := by decide +kernel
theorem dX5_voice_4 : decode cX5_voice 4 = .ok (.getfield 85, 3) := by decide +kernel
theorem dX5_voice_7 : decode cX5_voice 7 = .ok (.ifCond .ne 13, 3) := by decide +kernel
theorem dX5_voice_10 : decode cX5_voice 10 = .ok (.new 63, 3) := by decide +kernel
theorem dX5_voice_13 : decode cX5_voice 13 = .ok (.dup, 1) := by decide +kernel
theorem dX5_voice_14 : decode cX5_voice 14 = .ok (.ldc 94, 2) := by decide +kernel
theorem dX5_voice_16 : decode cX5_voice 16 = .ok (.invokespecial 67, 3) := by decide +kernel
theorem dX5_voice_19 : decode cX5_voice 19 = .ok (.athrow, 1) := by decide +kernel
theorem dX5_voice_20 : decode cX5_voice 20 = .ok (.aload_n 0, 1) := by decide +kernel
theorem dX5_voice_21 : decode cX5_voice 21 = .ok (.getfield 25, 3) := by decide +kernel
theorem dX5_voice_24 : decode cX5_voice 24 = .ok (.bipush 6, 2) := by decide +kernel
theorem dX5_voice_26 : decode cX5_voice 26 = .ok (.if_icmp .lt 13, 3) := by decide +kernel
theorem dX5_voice_29 : decode cX5_voice 29 = .ok (.new 63, 3) := by decide +kernel
theorem dX5_voice_32 : decode cX5_voice 32 = .ok (.dup, 1) := by decide +kernel
theorem dX5_voice_33 : decode cX5_voice 33 = .ok (.ldc 96, 2) := by decide +kernel
theorem dX5_voice_35 : decode cX5_voice 35 = .ok (.invokespecial 67, 3) := by decide +kernel
theorem dX5_voice_38 : decode cX5_voice 38 = .ok (.athrow, 1) := by decide +kernel
theorem dX5_voice_39 : decode cX5_voice 39 = .ok (.aload_n 0, 1) := by decide +kernel
theorem dX5_voice_40 : decode cX5_voice 40 = .ok (.getfield 21, 3) := by decide +kernel
theorem dX5_voice_43 : decode cX5_voice 43 = .ok (.aload_n 0, 1) := by decide +kernel
theorem dX5_voice_44 : decode cX5_voice 44 = .ok (.getfield 25, 3) := by decide +kernel
theorem dX5_voice_47 : decode cX5_voice 47 = .ok (.aload_n 0, 1) := by decide +kernel
theorem dX5_voice_48 : decode cX5_voice 48 = .ok (.getfield 29, 3) := by decide +kernel
theorem dX5_voice_51 : decode cX5_voice 51 = .ok (.aastore, 1) := by decide +kernel
theorem dX5_voice_52 : decode cX5_voice 52 = .ok (.aload_n 0, 1) := by decide +kernel
theorem dX5_voice_53 : decode cX5_voice 53 = .ok (.new 19, 3) := by decide +kernel
theorem dX5_voice_56 : decode cX5_voice 56 = .ok (.dup, 1) := by decide +kernel
theorem dX5_voice_57 : decode cX5_voice 57 = .ok (.invokespecial 28, 3) := by decide +kernel
theorem dX5_voice_60 : decode cX5_voice 60 = .ok (.putfield 29, 3) := by decide +kernel
theorem dX5_voice_63 : decode cX5_voice 63 = .ok (.aload_n 0, 1) := by decide +kernel
theorem dX5_voice_64 : decode cX5_voice 64 = .ok (.dup, 1) := by decide +kernel
theorem dX5_voice_65 : decode cX5_voice 65 = .ok (.getfield 25, 3) := by decide +kernel
theorem dX5_voice_68 : decode cX5_voice 68 = .ok (.dup_x1, 1) := by decide +kernel
theorem dX5_voice_69 : decode cX5_voice 69 = .ok (.iconst 1, 1) := by decide +kernel
theorem dX5_voice_70 : decode cX5_voice 70 = .ok (.iadd, 1) := by decide +kernel
theorem dX5_voice_71 : decode cX5_voice 71 = .ok (.putfield 25, 3) := by decide +kernel
theorem dX5_voice_74 : decode cX5_voice 74 = .ok (.ireturn, 1) := by decide +kernel
theorem dX5_shot_0 : decode cX5_shot 0 = .ok (.aload_n 0, 1) := by decide +kernel
theorem dX5_shot_1 : decode cX5_shot 1 = .ok (.iload_n 1, 1) := by decide +kernel
theorem dX5_shot_2 : decode cX5_shot 2 = .ok (.invokevirtual 73, 3) := by decide +kernel
theorem dX5_shot_5 : decode cX5_shot 5 = .ok (.astore 5, 2) := by decide +kernel
theorem dX5_shot_7 : decode cX5_shot 7 = .ok (.aload_n 0, 1) := by decide +kernel
theorem dX5_shot_8 : decode cX5_shot 8 = .ok (.iload 4, 2) := by decide +kernel
theorem dX5_shot_10 : decode cX5_shot 10 = .ok (.invokevirtual 98, 3) := by decide +kernel
theorem dX5_shot_13 : decode cX5_shot 13 = .ok (.iload_n 2, 1) := by decide +kernel
theorem dX5_shot_14 : decode cX5_shot 14 = .ok (.iconst 1, 1) := by decide +kernel
theorem dX5_shot_15 : decode cX5_shot 15 = .ok (.bipush 48, 2) := by decide +kernel
theorem dX5_shot_17 : decode cX5_shot 17 = .ok (.invokestatic 59, 3) := by decide +kernel
theorem dX5_shot_20 : decode cX5_shot 20 = .ok (.iload_n 3, 1) := by decide +kernel
theorem dX5_shot_21 : decode cX5_shot 21 = .ok (.iconst 1, 1) := by decide +kernel
theorem dX5_shot_22 : decode cX5_shot 22 = .ok (.iconst 2, 1) := by decide +kernel
theorem dX5_shot_23 : decode cX5_shot 23 = .ok (.invokestatic 59, 3) := by decide +kernel
theorem dX5_shot_26 : decode cX5_shot 26 = .ok (.aload_n 0, 1) := by decide +kernel
theorem dX5_shot_27 : decode cX5_shot 27 = .ok (.getfield 39, 3) := by decide +kernel
theorem dX5_shot_30 : decode cX5_shot 30 = .ok (.bipush 8, 2) := by decide +kernel
theorem dX5_shot_32 : decode cX5_shot 32 = .ok (.if_icmp .lt 13, 3) := by decide +kernel
theorem dX5_shot_35 : decode cX5_shot 35 = .ok (.new 63, 3) := by decide +kernel
theorem dX5_shot_38 : decode cX5_shot 38 = .ok (.dup, 1) := by decide +kernel
theorem dX5_shot_39 : decode cX5_shot 39 = .ok (.ldc 101, 2) := by decide +kernel
theorem dX5_shot_41 : decode cX5_shot 41 = .ok (.invokespecial 67, 3) := by decide +kernel
theorem dX5_shot_44 : decode cX5_shot 44 = .ok (.athrow, 1) := by decide +kernel
theorem dX5_shot_45 : decode cX5_shot 45 = .ok (.aload_n 0, 1) := by decide +kernel
theorem dX5_shot_46 : decode cX5_shot 46 = .ok (.getfield 35, 3) := by decide +kernel
theorem dX5_shot_49 : decode cX5_shot 49 = .ok (.aload_n 0, 1) := by decide +kernel
theorem dX5_shot_50 : decode cX5_shot 50 = .ok (.getfield 39, 3) := by decide +kernel
theorem dX5_shot_53 : decode cX5_shot 53 = .ok (.new 33, 3) := by decide +kernel
theorem dX5_shot_56 : decode cX5_shot 56 = .ok (.dup, 1) := by decide +kernel
theorem dX5_shot_57 : decode cX5_shot 57 = .ok (.aload 5, 2) := by decide +kernel
theorem dX5_shot_59 : decode cX5_shot 59 = .ok (.iload_n 2, 1) := by decide +kernel
theorem dX5_shot_60 : decode cX5_shot 60 = .ok (.iload_n 3, 1) := by decide +kernel
theorem dX5_shot_61 : decode cX5_shot 61 = .ok (.iload 4, 2) := by decide +kernel
theorem dX5_shot_63 : decode cX5_shot 63 = .ok (.invokespecial 103, 3) := by decide +kernel
theorem dX5_shot_66 : decode cX5_shot 66 = .ok (.aastore, 1) := by decide +kernel
theorem dX5_shot_67 : decode cX5_shot 67 = .ok (.aload_n 0, 1) := by decide +kernel
theorem dX5_shot_68 : decode cX5_shot 68 = .ok (.dup, 1) := by decide +kernel
theorem dX5_shot_69 : decode cX5_shot 69 = .ok (.getfield 39, 3) := by decide +kernel
theorem dX5_shot_72 : decode cX5_shot 72 = .ok (.dup_x1, 1) := by decide +kernel
theorem dX5_shot_73 : decode cX5_shot 73 = .ok (.iconst 1, 1) := by decide +kernel
theorem dX5_shot_74 : decode cX5_shot 74 = .ok (.iadd, 1) := by decide +kernel
theorem dX5_shot_75 : decode cX5_shot 75 = .ok (.putfield 39, 3) := by decide +kernel
theorem dX5_shot_78 : decode cX5_shot 78 = .ok (.ireturn, 1) := by decide +kernel
theorem dX5_assign_0 : decode cX5_assign 0 = .ok (.aload_n 0, 1) := by decide +kernel
theorem dX5_assign_1 : decode cX5_assign 1 = .ok (.iload_n 1, 1) := by decide +kernel
theorem dX5_assign_2 : decode cX5_assign 2 = .ok (.invokevirtual 106, 3) := by decide +kernel
theorem dX5_assign_5 : decode cX5_assign 5 = .ok (.astore_n 3, 1) := by decide +kernel
theorem dX5_assign_6 : decode cX5_assign 6 = .ok (.iload_n 2, 1) := by decide +kernel
theorem dX5_assign_7 : decode cX5_assign 7 = .ok (.invokestatic 110, 3) := by decide +kernel
theorem dX5_assign_10 : decode cX5_assign 10 = .ok (.aload_n 3, 1) := by decide +kernel
theorem dX5_assign_11 : decode cX5_assign 11 = .ok (.invokevirtual 113, 3) := by decide +kernel
theorem dX5_assign_14 : decode cX5_assign 14 = .ok (.ifCond .eq 13, 3) := by decide +kernel
theorem dX5_assign_17 : decode cX5_assign 17 = .ok (.new 63, 3) := by decide +kernel
theorem dX5_assign_20 : decode cX5_assign 20 = .ok (.dup, 1) := by decide +kernel
theorem dX5_assign_21 : decode cX5_assign 21 = .ok (.ldc 117, 2) := by decide +kernel
theorem dX5_assign_23 : decode cX5_assign 23 = .ok (.invokespecial 67, 3) := by decide +kernel
theorem dX5_assign_26 : decode cX5_assign 26 = .ok (.athrow, 1) := by decide +kernel
theorem dX5_assign_27 : decode cX5_assign 27 = .ok (.aload_n 3, 1) := by decide +kernel
theorem dX5_assign_28 : decode cX5_assign 28 = .ok (.invokevirtual 119, 3) := by decide +kernel
theorem dX5_assign_31 : decode cX5_assign 31 = .ok (.ifCond .eq 24, 3) := by decide +kernel
theorem dX5_assign_34 : decode cX5_assign 34 = .ok (.aload_n 0, 1) := by decide +kernel
theorem dX5_assign_35 : decode cX5_assign 35 = .ok (.aload_n 3, 1) := by decide +kernel
theorem dX5_assign_36 : decode cX5_assign 36 = .ok (.getfield 122, 3) := by decide +kernel
theorem dX5_assign_39 : decode cX5_assign 39 = .ok (.invokevirtual 125, 3) := by decide +kernel
theorem dX5_assign_42 : decode cX5_assign 42 = .ok (.ifCond .ne 13, 3) := by decide +kernel
theorem dX5_assign_45 : decode cX5_assign 45 = .ok (.new 63, 3) := by decide +kernel
theorem dX5_assign_48 : decode cX5_assign 48 = .ok (.dup, 1) := by decide +kernel
theorem dX5_assign_49 : decode cX5_assign 49 = .ok (.ldc 129, 2) := by decide +kernel
theorem dX5_assign_51 : decode cX5_assign 51 = .ok (.invokespecial 67, 3) := by decide +kernel
theorem dX5_assign_54 : decode cX5_assign 54 = .ok (.athrow, 1) := by decide +kernel
theorem dX5_assign_55 : decode cX5_assign 55 = .ok (.aload_n 3, 1) := by decide +kernel
theorem dX5_assign_56 : decode cX5_assign 56 = .ok (.getfield 122, 3) := by decide +kernel
theorem dX5_assign_59 : decode cX5_assign 59 = .ok (.istore 4, 2) := by decide +kernel
theorem dX5_assign_61 : decode cX5_assign 61 = .ok (.aload_n 3, 1) := by decide +kernel
theorem dX5_assign_62 : decode cX5_assign 62 = .ok (.iload_n 2, 1) := by decide +kernel
theorem dX5_assign_63 : decode cX5_assign 63 = .ok (.putfield 122, 3) := by decide +kernel
theorem dX5_assign_66 : decode cX5_assign 66 = .ok (.iload 4, 2) := by decide +kernel
theorem dX5_assign_68 : decode cX5_assign 68 = .ok (.ireturn, 1) := by decide +kernel
theorem dX5_ill_0 : decode cX5_ill 0 = .ok (.iload_n 1, 1) := by decide +kernel
theorem dX5_ill_1 : decode cX5_ill 1 = .ok (.invokestatic 110, 3) := by decide +kernel
theorem dX5_ill_4 : decode cX5_ill 4 = .ok (.aload_n 0, 1) := by decide +kernel
theorem dX5_ill_5 : decode cX5_ill 5 = .ok (.getfield 42, 3) := by decide +kernel
theorem dX5_ill_8 : decode cX5_ill 8 = .ok (.iload_n 1, 1) := by decide +kernel
theorem dX5_ill_9 : decode cX5_ill 9 = .ok (.baload, 1) := by decide +kernel
theorem dX5_ill_10 : decode cX5_ill 10 = .ok (.istore_n 3, 1) := by decide +kernel
theorem dX5_ill_11 : decode cX5_ill 11 = .ok (.aload_n 0, 1) := by decide +kernel
theorem dX5_ill_12 : decode cX5_ill 12 = .ok (.getfield 42, 3) := by decide +kernel
theorem dX5_ill_15 : decode cX5_ill 15 = .ok (.iload_n 1, 1) := by decide +kernel
theorem dX5_ill_16 : decode cX5_ill 16 = .ok (.iload_n 2, 1) := by decide +kernel
theorem dX5_ill_17 : decode cX5_ill 17 = .ok (.bastore, 1) := by decide +kernel
theorem dX5_ill_18 : decode cX5_ill 18 = .ok (.iload_n 3, 1) := by decide +kernel
theorem dX5_ill_19 : decode cX5_ill 19 = .ok (.ireturn, 1) := by decide +kernel
theorem dX5_dub_0 : decode cX5_dub 0 = .ok (.aload_n 0, 1) := by decide +kernel
theorem dX5_dub_1 : decode cX5_dub 1 = .ok (.iload_n 1, 1) := by decide +kernel
theorem dX5_dub_2 : decode cX5_dub 2 = .ok (.invokevirtual 106, 3) := by decide +kernel
theorem dX5_dub_5 : decode cX5_dub 5 = .ok (.astore_n 3, 1) := by decide +kernel
theorem dX5_dub_6 : decode cX5_dub 6 = .ok (.aload_n 0, 1) := by decide +kernel
theorem dX5_dub_7 : decode cX5_dub 7 = .ok (.iload_n 2, 1) := by decide +kernel
theorem dX5_dub_8 : decode cX5_dub 8 = .ok (.invokevirtual 98, 3) := by decide +kernel
theorem dX5_dub_11 : decode cX5_dub 11 = .ok (.aload_n 3, 1) := by decide +kernel
theorem dX5_dub_12 : decode cX5_dub 12 = .ok (.getfield 131, 3) := by decide +kernel
theorem dX5_dub_15 : decode cX5_dub 15 = .ok (.istore 4, 2) := by decide +kernel
theorem dX5_dub_17 : decode cX5_dub 17 = .ok (.aload_n 3, 1) := by decide +kernel
theorem dX5_dub_18 : decode cX5_dub 18 = .ok (.iload_n 2, 1) := by decide +kernel
theorem dX5_dub_19 : decode cX5_dub 19 = .ok (.putfield 131, 3) := by decide +kernel
theorem dX5_dub_22 : decode cX5_dub 22 = .ok (.iload 4, 2) := by decide +kernel
theorem dX5_dub_24 : decode cX5_dub 24 = .ok (.ireturn, 1) := by decide +kernel
theorem dX5_key_0 : decode cX5_key 0 = .ok (.aload_n 0, 1) := by decide +kernel
theorem dX5_key_1 : decode cX5_key 1 = .ok (.iload_n 1, 1) := by decide +kernel
theorem dX5_key_2 : decode cX5_key 2 = .ok (.invokevirtual 106, 3) := by decide +kernel
theorem dX5_key_5 : decode cX5_key 5 = .ok (.astore 5, 2) := by decide +kernel
theorem dX5_key_7 : decode cX5_key 7 = .ok (.aload 5, 2) := by decide +kernel
theorem dX5_key_9 : decode cX5_key 9 = .ok (.getfield 134, 3) := by decide +kernel
theorem dX5_key_12 : decode cX5_key 12 = .ok (.iload_n 2, 1) := by decide +kernel
theorem dX5_key_13 : decode cX5_key 13 = .ok (.invokestatic 138, 3) := by decide +kernel
theorem dX5_key_16 : decode cX5_key 16 = .ok (.aload 5, 2) := by decide +kernel
theorem dX5_key_18 : decode cX5_key 18 = .ok (.iload_n 3, 1) := by decide +kernel
theorem dX5_key_19 : decode cX5_key 19 = .ok (.invokestatic 142, 3) := by decide +kernel
theorem dX5_key_22 : decode cX5_key 22 = .ok (.iload 4, 2) := by decide +kernel
theorem dX5_key_24 : decode cX5_key 24 = .ok (.iconst 0, 1) := by decide +kernel
theorem dX5_key_25 : decode cX5_key 25 = .ok (.sipush 359, 3) := by decide +kernel
theorem dX5_key_28 : decode cX5_key 28 = .ok (.invokestatic 59, 3) := by decide +kernel
theorem dX5_key_31 : decode cX5_key 31 = .ok (.aload 5, 2) := by decide +kernel
theorem dX5_key_33 : decode cX5_key 33 = .ok (.iload_n 3, 1) := by decide +kernel
theorem dX5_key_34 : decode cX5_key 34 = .ok (.invokestatic 146, 3) := by decide +kernel
theorem dX5_key_37 : decode cX5_key 37 = .ok (.aload 5, 2) := by decide +kernel
theorem dX5_key_39 : decode cX5_key 39 = .ok (.iload_n 3, 1) := by decide +kernel
theorem dX5_key_40 : decode cX5_key 40 = .ok (.invokevirtual 149, 3) := by decide +kernel
theorem dX5_key_43 : decode cX5_key 43 = .ok (.ifCond .eq 13, 3) := by decide +kernel
theorem dX5_key_46 : decode cX5_key 46 = .ok (.new 63, 3) := by decide +kernel
theorem dX5_key_49 : decode cX5_key 49 = .ok (.dup, 1) := by decide +kernel
theorem dX5_key_50 : decode cX5_key 50 = .ok (.ldc 152, 2) := by decide +kernel
theorem dX5_key_52 : decode cX5_key 52 = .ok (.invokespecial 67, 3) := by decide +kernel
theorem dX5_key_55 : decode cX5_key 55 = .ok (.athrow, 1) := by decide +kernel
theorem dX5_key_56 : decode cX5_key 56 = .ok (.aload 5, 2) := by decide +kernel
theorem dX5_key_58 : decode cX5_key 58 = .ok (.iload_n 2, 1) := by decide +kernel
theorem dX5_key_59 : decode cX5_key 59 = .ok (.iload_n 3, 1) := by decide +kernel
theorem dX5_key_60 : decode cX5_key 60 = .ok (.invokevirtual 154, 3) := by decide +kernel
theorem dX5_key_63 : decode cX5_key 63 = .ok (.istore 6, 2) := by decide +kernel
theorem dX5_key_65 : decode cX5_key 65 = .ok (.aload 5, 2) := by decide +kernel
theorem dX5_key_67 : decode cX5_key 67 = .ok (.getfield 158, 3) := by decide +kernel
theorem dX5_key_70 : decode cX5_key 70 = .ok (.iload_n 2, 1) := by decide +kernel
theorem dX5_key_71 : decode cX5_key 71 = .ok (.aaload, 1) := by decide +kernel
theorem dX5_key_72 : decode cX5_key 72 = .ok (.iload_n 3, 1) := by decide +kernel
theorem dX5_key_73 : decode cX5_key 73 = .ok (.iload 4, 2) := by decide +kernel
theorem dX5_key_75 : decode cX5_key 75 = .ok (.invokevirtual 162, 3) := by decide +kernel
theorem dX5_key_78 : decode cX5_key 78 = .ok (.iload 6, 2) := by decide +kernel
theorem dX5_key_80 : decode cX5_key 80 = .ok (.ireturn, 1) := by decide +kernel
theorem dX5_camera_0 : decode cX5_camera 0 = .ok (.aload_n 0, 1) := by decide +kernel
theorem dX5_camera_1 : decode cX5_camera 1 = .ok (.iload_n 1, 1) := by decide +kernel
theorem dX5_camera_2 : decode cX5_camera 2 = .ok (.invokevirtual 106, 3) := by decide +kernel
theorem dX5_camera_5 : decode cX5_camera 5 = .ok (.astore 4, 2) := by decide +kernel
theorem dX5_camera_7 : decode cX5_camera 7 = .ok (.aload 4, 2) := by decide +kernel
theorem dX5_camera_9 : decode cX5_camera 9 = .ok (.iload_n 2, 1) := by decide +kernel
theorem dX5_camera_10 : decode cX5_camera 10 = .ok (.invokestatic 142, 3) := by decide +kernel
theorem dX5_camera_13 : decode cX5_camera 13 = .ok (.iload_n 3, 1) := by decide +kernel
theorem dX5_camera_14 : decode cX5_camera 14 = .ok (.sipush (-999), 3) := by decide +kernel
theorem dX5_camera_17 : decode cX5_camera 17 = .ok (.sipush 999, 3) := by decide +kernel
theorem dX5_camera_20 : decode cX5_camera 20 = .ok (.invokestatic 59, 3) := by decide +kernel
theorem dX5_camera_23 : decode cX5_camera 23 = .ok (.aload 4, 2) := by decide +kernel
theorem dX5_camera_25 : decode cX5_camera 25 = .ok (.iload_n 2, 1) := by decide +kernel
theorem dX5_camera_26 : decode cX5_camera 26 = .ok (.invokestatic 146, 3) := by decide +kernel
theorem dX5_camera_29 : decode cX5_camera 29 = .ok (.aload 4, 2) := by decide +kernel
theorem dX5_camera_31 : decode cX5_camera 31 = .ok (.getfield 167, 3) := by decide +kernel
theorem dX5_camera_34 : decode cX5_camera 34 = .ok (.iload_n 2, 1) := by decide +kernel
theorem dX5_camera_35 : decode cX5_camera 35 = .ok (.invokevirtual 171, 3) := by decide +kernel
theorem dX5_camera_38 : decode cX5_camera 38 = .ok (.istore 5, 2) := by decide +kernel
theorem dX5_camera_40 : decode cX5_camera 40 = .ok (.aload 4, 2) := by decide +kernel
theorem dX5_camera_42 : decode cX5_camera 42 = .ok (.getfield 167, 3) := by decide +kernel
theorem dX5_camera_45 : decode cX5_camera 45 = .ok (.iload_n 2, 1) := by decide +kernel
theorem dX5_camera_46 : decode cX5_camera 46 = .ok (.iload_n 3, 1) := by decide +kernel
theorem dX5_camera_47 : decode cX5_camera 47 = .ok (.invokevirtual 162, 3) := by decide +kernel
theorem dX5_camera_50 : decode cX5_camera 50 = .ok (.iload 5, 2) := by decide +kernel
theorem dX5_camera_52 : decode cX5_camera 52 = .ok (.ireturn, 1) := by decide +kernel
theorem dX5_play_0 : decode cX5_play 0 = .ok (.iload_n 1, 1) := by decide +kernel
theorem dX5_play_1 : decode cX5_play 1 = .ok (.iconst 0, 1) := by decide +kernel
theorem dX5_play_2 : decode cX5_play 2 = .ok (.bipush 20, 2) := by decide +kernel
theorem dX5_play_4 : decode cX5_play 4 = .ok (.invokestatic 59, 3) := by decide +kernel
theorem dX5_play_7 : decode cX5_play 7 = .ok (.aload_n 0, 1) := by decide +kernel
theorem dX5_play_8 : decode cX5_play 8 = .ok (.getfield 53, 3) := by decide +kernel
theorem dX5_play_11 : decode cX5_play 11 = .ok (.istore_n 2, 1) := by decide +kernel
theorem dX5_play_12 : decode cX5_play 12 = .ok (.aload_n 0, 1) := by decide +kernel
theorem dX5_play_13 : decode cX5_play 13 = .ok (.iload_n 1, 1) := by decide +kernel
theorem dX5_play_14 : decode cX5_play 14 = .ok (.putfield 53, 3) := by decide +kernel
theorem dX5_play_17 : decode cX5_play 17 = .ok (.iload_n 2, 1) := by decide +kernel
theorem dX5_play_18 : decode cX5_play 18 = .ok (.ireturn, 1) := by decide +kernel
theorem dX5_strike_0 : decode cX5_strike 0 = .ok (.aload_n 0, 1) := by decide +kernel
theorem dX5_strike_1 : decode cX5_strike 1 = .ok (.iload_n 1, 1) := by decide +kernel
theorem dX5_strike_2 : decode cX5_strike 2 = .ok (.invokevirtual 106, 3) := by decide +kernel
theorem dX5_strike_5 : decode cX5_strike 5 = .ok (.astore_n 2, 1) := by decide +kernel
theorem dX5_strike_6 : decode cX5_strike 6 = .ok (.aload_n 0, 1) := by decide +kernel
theorem dX5_strike_7 : decode cX5_strike 7 = .ok (.aload_n 2, 1) := by decide +kernel
theorem dX5_strike_8 : decode cX5_strike 8 = .ok (.invokevirtual 175, 3) := by decide +kernel
theorem dX5_strike_11 : decode cX5_strike 11 = .ok (.invokestatic 179, 3) := by decide +kernel
theorem dX5_strike_14 : decode cX5_strike 14 = .ok (.aload_n 2, 1) := by decide +kernel
theorem dX5_strike_15 : decode cX5_strike 15 = .ok (.getfield 182, 3) := by decide +kernel
theorem dX5_strike_18 : decode cX5_strike 18 = .ok (.astore_n 3, 1) := by decide +kernel
theorem dX5_strike_19 : decode cX5_strike 19 = .ok (.aload_n 3, 1) := by decide +kernel
theorem dX5_strike_20 : decode cX5_strike 20 = .ok (.getfield 186, 3) := by decide +kernel
theorem dX5_strike_23 : decode cX5_strike 23 = .ok (.istore 4, 2) := by decide +kernel
theorem dX5_strike_25 : decode cX5_strike 25 = .ok (.aload_n 2, 1) := by decide +kernel
theorem dX5_strike_26 : decode cX5_strike 26 = .ok (.iload 4, 2) := by decide +kernel
theorem dX5_strike_28 : decode cX5_strike 28 = .ok (.invokevirtual 149, 3) := by decide +kernel
theorem dX5_strike_31 : decode cX5_strike 31 = .ok (.ifCond .eq 10, 3) := by decide +kernel
theorem dX5_strike_34 : decode cX5_strike 34 = .ok (.aload_n 3, 1) := by decide +kernel
theorem dX5_strike_35 : decode cX5_strike 35 = .ok (.invokevirtual 189, 3) := by decide +kernel
theorem dX5_strike_38 : decode cX5_strike 38 = .ok (.goto 10, 3) := by decide +kernel
theorem dX5_strike_41 : decode cX5_strike 41 = .ok (.aload_n 0, 1) := by decide +kernel
theorem dX5_strike_42 : decode cX5_strike 42 = .ok (.aload_n 2, 1) := by decide +kernel
theorem dX5_strike_43 : decode cX5_strike 43 = .ok (.iload 4, 2) := by decide +kernel
theorem dX5_strike_45 : decode cX5_strike 45 = .ok (.invokevirtual 192, 3) := by decide +kernel
theorem dX5_strike_48 : decode cX5_strike 48 = .ok (.aload_n 3, 1) := by decide +kernel
theorem dX5_strike_49 : decode cX5_strike 49 = .ok (.aload_n 2, 1) := by decide +kernel
theorem dX5_strike_50 : decode cX5_strike 50 = .ok (.getfield 167, 3) := by decide +kernel
theorem dX5_strike_53 : decode cX5_strike 53 = .ok (.iload 4, 2) := by decide +kernel
theorem dX5_strike_55 : decode cX5_strike 55 = .ok (.invokevirtual 171, 3) := by decide +kernel
theorem dX5_strike_58 : decode cX5_strike 58 = .ok (.aload_n 0, 1) := by decide +kernel
theorem dX5_strike_59 : decode cX5_strike 59 = .ok (.getfield 53, 3) := by decide +kernel
theorem dX5_strike_62 : decode cX5_strike 62 = .ok (.aload_n 0, 1) := by decide +kernel
theorem dX5_strike_63 : decode cX5_strike 63 = .ok (.invokevirtual 195, 3) := by decide +kernel
theorem dX5_strike_66 : decode cX5_strike 66 = .ok (.aload_n 2, 1) := by decide +kernel
theorem dX5_strike_67 : decode cX5_strike 67 = .ok (.getfield 199, 3) := by decide +kernel
theorem dX5_strike_70 : decode cX5_strike 70 = .ok (.invokevirtual 202, 3) := by decide +kernel
theorem dX5_strike_73 : decode cX5_strike 73 = .ok (.aload_n 0, 1) := by decide +kernel
theorem dX5_strike_74 : decode cX5_strike 74 = .ok (.dup, 1) := by decide +kernel
theorem dX5_strike_75 : decode cX5_strike 75 = .ok (.getfield 56, 3) := by decide +kernel
theorem dX5_strike_78 : decode cX5_strike 78 = .ok (.iconst 1, 1) := by decide +kernel
theorem dX5_strike_79 : decode cX5_strike 79 = .ok (.iadd, 1) := by decide +kernel
theorem dX5_strike_80 : decode cX5_strike 80 = .ok (.putfield 56, 3) := by decide +kernel
theorem dX5_strike_83 : decode cX5_strike 83 = .ok (.iload 4, 2) := by decide +kernel
theorem dX5_strike_85 : decode cX5_strike 85 = .ok (.ireturn, 1) := by decide +kernel
theorem dX5_bump_0 : decode cX5_bump 0 = .ok (.aload_n 0, 1) := by decide +kernel
theorem dX5_bump_1 : decode cX5_bump 1 = .ok (.iload_n 1, 1) := by decide +kernel
theorem dX5_bump_2 : decode cX5_bump 2 = .ok (.invokevirtual 106, 3) := by decide +kernel
theorem dX5_bump_5 : decode cX5_bump 5 = .ok (.astore_n 3, 1) := by decide +kernel
theorem dX5_bump_6 : decode cX5_bump 6 = .ok (.iload_n 2, 1) := by decide +kernel
theorem dX5_bump_7 : decode cX5_bump 7 = .ok (.bipush (-99), 2) := by decide +kernel
theorem dX5_bump_9 : decode cX5_bump 9 = .ok (.bipush 99, 2) := by decide +kernel
theorem dX5_bump_11 : decode cX5_bump 11 = .ok (.invokestatic 59, 3) := by decide +kernel
theorem dX5_bump_14 : decode cX5_bump 14 = .ok (.aload_n 3, 1) := by decide +kernel
theorem dX5_bump_15 : decode cX5_bump 15 = .ok (.invokevirtual 119, 3) := by decide +kernel
theorem dX5_bump_18 : decode cX5_bump 18 = .ok (.ifCond .ne 13, 3) := by decide +kernel
theorem dX5_bump_21 : decode cX5_bump 21 = .ok (.new 63, 3) := by decide +kernel
theorem dX5_bump_24 : decode cX5_bump 24 = .ok (.dup, 1) := by decide +kernel
theorem dX5_bump_25 : decode cX5_bump 25 = .ok (.ldc 206, 2) := by decide +kernel
theorem dX5_bump_27 : decode cX5_bump 27 = .ok (.invokespecial 67, 3) := by decide +kernel
theorem dX5_bump_30 : decode cX5_bump 30 = .ok (.athrow, 1) := by decide +kernel
theorem dX5_bump_31 : decode cX5_bump 31 = .ok (.aload_n 3, 1) := by decide +kernel
theorem dX5_bump_32 : decode cX5_bump 32 = .ok (.dup, 1) := by decide +kernel
theorem dX5_bump_33 : decode cX5_bump 33 = .ok (.getfield 199, 3) := by decide +kernel
theorem dX5_bump_36 : decode cX5_bump 36 = .ok (.iload_n 2, 1) := by decide +kernel
theorem dX5_bump_37 : decode cX5_bump 37 = .ok (.iadd, 1) := by decide +kernel
theorem dX5_bump_38 : decode cX5_bump 38 = .ok (.putfield 199, 3) := by decide +kernel
theorem dX5_bump_41 : decode cX5_bump 41 = .ok (.aload_n 3, 1) := by decide +kernel
theorem dX5_bump_42 : decode cX5_bump 42 = .ok (.getfield 199, 3) := by decide +kernel
theorem dX5_bump_45 : decode cX5_bump 45 = .ok (.ireturn, 1) := by decide +kernel
theorem dX5_level_0 : decode cX5_level 0 = .ok (.aload_n 0, 1) := by decide +kernel
theorem dX5_level_1 : decode cX5_level 1 = .ok (.iload_n 1, 1) := by decide +kernel
theorem dX5_level_2 : decode cX5_level 2 = .ok (.invokevirtual 106, 3) := by decide +kernel
theorem dX5_level_5 : decode cX5_level 5 = .ok (.astore_n 2, 1) := by decide +kernel
theorem dX5_level_6 : decode cX5_level 6 = .ok (.aload_n 2, 1) := by decide +kernel
theorem dX5_level_7 : decode cX5_level 7 = .ok (.getfield 199, 3) := by decide +kernel
theorem dX5_level_10 : decode cX5_level 10 = .ok (.istore_n 3, 1) := by decide +kernel
theorem dX5_level_11 : decode cX5_level 11 = .ok (.aload_n 2, 1) := by decide +kernel
theorem dX5_level_12 : decode cX5_level 12 = .ok (.iconst 0, 1) := by decide +kernel
theorem dX5_level_13 : decode cX5_level 13 = .ok (.putfield 199, 3) := by decide +kernel
theorem dX5_level_16 : decode cX5_level 16 = .ok (.iload_n 3, 1) := by decide +kernel
theorem dX5_level_17 : decode cX5_level 17 = .ok (.ireturn, 1) := by decide +kernel
theorem dX5_anew_0 : decode cX5_anew 0 = .ok (.aload_n 0, 1) := by decide +kernel
theorem dX5_anew_1 : decode cX5_anew 1 = .ok (.iload_n 1, 1) := by decide +kernel
theorem dX5_anew_2 : decode cX5_anew 2 = .ok (.invokevirtual 106, 3) := by decide +kernel
theorem dX5_anew_5 : decode cX5_anew 5 = .ok (.astore_n 3, 1) := by decide +kernel
theorem dX5_anew_6 : decode cX5_anew 6 = .ok (.aload_n 3, 1) := by decide +kernel
theorem dX5_anew_7 : decode cX5_anew 7 = .ok (.iload_n 2, 1) := by decide +kernel
theorem dX5_anew_8 : decode cX5_anew 8 = .ok (.invokestatic 142, 3) := by decide +kernel
theorem dX5_anew_11 : decode cX5_anew 11 = .ok (.aload_n 3, 1) := by decide +kernel
theorem dX5_anew_12 : decode cX5_anew 12 = .ok (.iload_n 2, 1) := by decide +kernel
theorem dX5_anew_13 : decode cX5_anew 13 = .ok (.invokevirtual 208, 3) := by decide +kernel
theorem dX5_anew_16 : decode cX5_anew 16 = .ok (.ifCond .ne 13, 3) := by decide +kernel
theorem dX5_anew_19 : decode cX5_anew 19 = .ok (.new 63, 3) := by decide +kernel
theorem dX5_anew_22 : decode cX5_anew 22 = .ok (.dup, 1) := by decide +kernel
theorem dX5_anew_23 : decode cX5_anew 23 = .ok (.ldc 211, 2) := by decide +kernel
theorem dX5_anew_25 : decode cX5_anew 25 = .ok (.invokespecial 67, 3) := by decide +kernel
theorem dX5_anew_28 : decode cX5_anew 28 = .ok (.athrow, 1) := by decide +kernel
theorem dX5_anew_29 : decode cX5_anew 29 = .ok (.aload_n 0, 1) := by decide +kernel
theorem dX5_anew_30 : decode cX5_anew 30 = .ok (.iload_n 1, 1) := by decide +kernel
theorem dX5_anew_31 : decode cX5_anew 31 = .ok (.invokevirtual 213, 3) := by decide +kernel
theorem dX5_anew_34 : decode cX5_anew 34 = .ok (.iconst (-1), 1) := by decide +kernel
theorem dX5_anew_35 : decode cX5_anew 35 = .ok (.if_icmp .eq 13, 3) := by decide +kernel
theorem dX5_anew_38 : decode cX5_anew 38 = .ok (.new 63, 3) := by decide +kernel
theorem dX5_anew_41 : decode cX5_anew 41 = .ok (.dup, 1) := by decide +kernel
theorem dX5_anew_42 : decode cX5_anew 42 = .ok (.ldc 216, 2) := by decide +kernel
theorem dX5_anew_44 : decode cX5_anew 44 = .ok (.invokespecial 67, 3) := by decide +kernel
theorem dX5_anew_47 : decode cX5_anew 47 = .ok (.athrow, 1) := by decide +kernel
theorem dX5_anew_48 : decode cX5_anew 48 = .ok (.aload_n 3, 1) := by decide +kernel
theorem dX5_anew_49 : decode cX5_anew 49 = .ok (.getfield 182, 3) := by decide +kernel
theorem dX5_anew_52 : decode cX5_anew 52 = .ok (.getfield 186, 3) := by decide +kernel
theorem dX5_anew_55 : decode cX5_anew 55 = .ok (.iload_n 2, 1) := by decide +kernel
theorem dX5_anew_56 : decode cX5_anew 56 = .ok (.isub, 1) := by decide +kernel
theorem dX5_anew_57 : decode cX5_anew 57 = .ok (.istore 4, 2) := by decide +kernel
theorem dX5_anew_59 : decode cX5_anew 59 = .ok (.aload_n 3, 1) := by decide +kernel
theorem dX5_anew_60 : decode cX5_anew 60 = .ok (.getfield 182, 3) := by decide +kernel
theorem dX5_anew_63 : decode cX5_anew 63 = .ok (.iload_n 2, 1) := by decide +kernel
theorem dX5_anew_64 : decode cX5_anew 64 = .ok (.putfield 186, 3) := by decide +kernel
theorem dX5_anew_67 : decode cX5_anew 67 = .ok (.iload 4, 2) := by decide +kernel
theorem dX5_anew_69 : decode cX5_anew 69 = .ok (.ireturn, 1) := by decide +kernel
theorem dX5_mend_0 : decode cX5_mend 0 = .ok (.aload_n 0, 1) := by decide +kernel
theorem dX5_mend_1 : decode cX5_mend 1 = .ok (.iload_n 1, 1) := by decide +kernel
theorem dX5_mend_2 : decode cX5_mend 2 = .ok (.invokevirtual 73, 3) := by decide +kernel
theorem dX5_mend_5 : decode cX5_mend 5 = .ok (.astore_n 3, 1) := by decide +kernel
theorem dX5_mend_6 : decode cX5_mend 6 = .ok (.aload_n 3, 1) := by decide +kernel
theorem dX5_mend_7 : decode cX5_mend 7 = .ok (.iload_n 2, 1) := by decide +kernel
theorem dX5_mend_8 : decode cX5_mend 8 = .ok (.invokestatic 138, 3) := by decide +kernel
theorem dX5_mend_11 : decode cX5_mend 11 = .ok (.aload_n 3, 1) := by decide +kernel
theorem dX5_mend_12 : decode cX5_mend 12 = .ok (.getfield 218, 3) := by decide +kernel
theorem dX5_mend_15 : decode cX5_mend 15 = .ok (.iload_n 2, 1) := by decide +kernel
theorem dX5_mend_16 : decode cX5_mend 16 = .ok (.iaload, 1) := by decide +kernel
theorem dX5_mend_17 : decode cX5_mend 17 = .ok (.istore 4, 2) := by decide +kernel
theorem dX5_mend_19 : decode cX5_mend 19 = .ok (.aload_n 3, 1) := by decide +kernel
theorem dX5_mend_20 : decode cX5_mend 20 = .ok (.getfield 218, 3) := by decide +kernel
theorem dX5_mend_23 : decode cX5_mend 23 = .ok (.iload_n 2, 1) := by decide +kernel
theorem dX5_mend_24 : decode cX5_mend 24 = .ok (.iconst 0, 1) := by decide +kernel
theorem dX5_mend_25 : decode cX5_mend 25 = .ok (.iastore, 1) := by decide +kernel
theorem dX5_mend_26 : decode cX5_mend 26 = .ok (.iload 4, 2) := by decide +kernel
theorem dX5_mend_28 : decode cX5_mend 28 = .ok (.ireturn, 1) := by decide +kernel
theorem dX5_lamp_0 : decode cX5_lamp 0 = .ok (.aload_n 0, 1) := by decide +kernel
theorem dX5_lamp_1 : decode cX5_lamp 1 = .ok (.invokevirtual 195, 3) := by decide +kernel
theorem dX5_lamp_4 : decode cX5_lamp 4 = .ok (.istore_n 1, 1) := by decide +kernel
theorem dX5_lamp_5 : decode cX5_lamp 5 = .ok (.aload_n 0, 1) := by decide +kernel
theorem dX5_lamp_6 : decode cX5_lamp 6 = .ok (.iconst 0, 1) := by decide +kernel
theorem dX5_lamp_7 : decode cX5_lamp 7 = .ok (.putfield 56, 3) := by decide +kernel
theorem dX5_lamp_10 : decode cX5_lamp 10 = .ok (.iload_n 1, 1) := by decide +kernel
theorem dX5_lamp_11 : decode cX5_lamp 11 = .ok (.ireturn, 1) := by decide +kernel
theorem dX5_cut_0 : decode cX5_cut 0 = .ok (.aload_n 0, 1) := by decide +kernel
theorem dX5_cut_1 : decode cX5_cut 1 = .ok (.iload_n 1, 1) := by decide +kernel
theorem dX5_cut_2 : decode cX5_cut 2 = .ok (.invokevirtual 106, 3) := by decide +kernel
theorem dX5_cut_5 : decode cX5_cut 5 = .ok (.astore_n 2, 1) := by decide +kernel
theorem dX5_cut_6 : decode cX5_cut 6 = .ok (.aload_n 2, 1) := by decide +kernel
theorem dX5_cut_7 : decode cX5_cut 7 = .ok (.invokevirtual 113, 3) := by decide +kernel
theorem dX5_cut_10 : decode cX5_cut 10 = .ok (.ifCond .ne 13, 3) := by decide +kernel
theorem dX5_cut_13 : decode cX5_cut 13 = .ok (.new 63, 3) := by decide +kernel
theorem dX5_cut_16 : decode cX5_cut 16 = .ok (.dup, 1) := by decide +kernel
theorem dX5_cut_17 : decode cX5_cut 17 = .ok (.ldc 221, 2) := by decide +kernel
theorem dX5_cut_19 : decode cX5_cut 19 = .ok (.invokespecial 67, 3) := by decide +kernel
theorem dX5_cut_22 : decode cX5_cut 22 = .ok (.athrow, 1) := by decide +kernel
theorem dX5_cut_23 : decode cX5_cut 23 = .ok (.aload_n 0, 1) := by decide +kernel
theorem dX5_cut_24 : decode cX5_cut 24 = .ok (.iload_n 1, 1) := by decide +kernel
theorem dX5_cut_25 : decode cX5_cut 25 = .ok (.invokevirtual 213, 3) := by decide +kernel
theorem dX5_cut_28 : decode cX5_cut 28 = .ok (.iconst (-1), 1) := by decide +kernel
theorem dX5_cut_29 : decode cX5_cut 29 = .ok (.if_icmp .ne 12, 3) := by decide +kernel
theorem dX5_cut_32 : decode cX5_cut 32 = .ok (.aload_n 0, 1) := by decide +kernel
theorem dX5_cut_33 : decode cX5_cut 33 = .ok (.getfield 50, 3) := by decide +kernel
theorem dX5_cut_36 : decode cX5_cut 36 = .ok (.bipush 8, 2) := by decide +kernel
theorem dX5_cut_38 : decode cX5_cut 38 = .ok (.if_icmp .lt 13, 3) := by decide +kernel
theorem dX5_cut_41 : decode cX5_cut 41 = .ok (.new 63, 3) := by decide +kernel
theorem dX5_cut_44 : decode cX5_cut 44 = .ok (.dup, 1) := by decide +kernel
theorem dX5_cut_45 : decode cX5_cut 45 = .ok (.ldc 216, 2) := by decide +kernel
theorem dX5_cut_47 : decode cX5_cut 47 = .ok (.invokespecial 67, 3) := by decide +kernel
theorem dX5_cut_50 : decode cX5_cut 50 = .ok (.athrow, 1) := by decide +kernel
theorem dX5_cut_51 : decode cX5_cut 51 = .ok (.aload_n 0, 1) := by decide +kernel
theorem dX5_cut_52 : decode cX5_cut 52 = .ok (.getfield 46, 3) := by decide +kernel
theorem dX5_cut_55 : decode cX5_cut 55 = .ok (.aload_n 0, 1) := by decide +kernel
theorem dX5_cut_56 : decode cX5_cut 56 = .ok (.getfield 50, 3) := by decide +kernel
theorem dX5_cut_59 : decode cX5_cut 59 = .ok (.iload_n 1, 1) := by decide +kernel
theorem dX5_cut_60 : decode cX5_cut 60 = .ok (.iastore, 1) := by decide +kernel
theorem dX5_cut_61 : decode cX5_cut 61 = .ok (.aload_n 0, 1) := by decide +kernel
theorem dX5_cut_62 : decode cX5_cut 62 = .ok (.dup, 1) := by decide +kernel
theorem dX5_cut_63 : decode cX5_cut 63 = .ok (.getfield 50, 3) := by decide +kernel
theorem dX5_cut_66 : decode cX5_cut 66 = .ok (.iconst 1, 1) := by decide +kernel
theorem dX5_cut_67 : decode cX5_cut 67 = .ok (.iadd, 1) := by decide +kernel
theorem dX5_cut_68 : decode cX5_cut 68 = .ok (.putfield 50, 3) := by decide +kernel
theorem dX5_cut_71 : decode cX5_cut 71 = .ok (.aload_n 0, 1) := by decide +kernel
theorem dX5_cut_72 : decode cX5_cut 72 = .ok (.invokevirtual 223, 3) := by decide +kernel
theorem dX5_cut_75 : decode cX5_cut 75 = .ok (.ireturn, 1) := by decide +kernel
theorem dX5_cutOut_0 : decode cX5_cutOut 0 = .ok (.aload_n 0, 1) := by decide +kernel
theorem dX5_cutOut_1 : decode cX5_cutOut 1 = .ok (.iload_n 1, 1) := by decide +kernel
theorem dX5_cutOut_2 : decode cX5_cutOut 2 = .ok (.invokevirtual 226, 3) := by decide +kernel
theorem dX5_cutOut_5 : decode cX5_cutOut 5 = .ok (.aload_n 0, 1) := by decide +kernel
theorem dX5_cutOut_6 : decode cX5_cutOut 6 = .ok (.iload_n 1, 1) := by decide +kernel
theorem dX5_cutOut_7 : decode cX5_cutOut 7 = .ok (.invokevirtual 213, 3) := by decide +kernel
theorem dX5_cutOut_10 : decode cX5_cutOut 10 = .ok (.istore_n 2, 1) := by decide +kernel
theorem dX5_cutOut_11 : decode cX5_cutOut 11 = .ok (.iload_n 2, 1) := by decide +kernel
theorem dX5_cutOut_12 : decode cX5_cutOut 12 = .ok (.iconst (-1), 1) := by decide +kernel
theorem dX5_cutOut_13 : decode cX5_cutOut 13 = .ok (.if_icmp .ne 13, 3) := by decide +kernel
theorem dX5_cutOut_16 : decode cX5_cutOut 16 = .ok (.new 63, 3) := by decide +kernel
theorem dX5_cutOut_19 : decode cX5_cutOut 19 = .ok (.dup, 1) := by decide +kernel
theorem dX5_cutOut_20 : decode cX5_cutOut 20 = .ok (.ldc 229, 2) := by decide +kernel
theorem dX5_cutOut_22 : decode cX5_cutOut 22 = .ok (.invokespecial 67, 3) := by decide +kernel
theorem dX5_cutOut_25 : decode cX5_cutOut 25 = .ok (.athrow, 1) := by decide +kernel
theorem dX5_cutOut_26 : decode cX5_cutOut 26 = .ok (.aload_n 0, 1) := by decide +kernel
theorem dX5_cutOut_27 : decode cX5_cutOut 27 = .ok (.dup, 1) := by decide +kernel
theorem dX5_cutOut_28 : decode cX5_cutOut 28 = .ok (.getfield 50, 3) := by decide +kernel
theorem dX5_cutOut_31 : decode cX5_cutOut 31 = .ok (.iconst 1, 1) := by decide +kernel
theorem dX5_cutOut_32 : decode cX5_cutOut 32 = .ok (.isub, 1) := by decide +kernel
theorem dX5_cutOut_33 : decode cX5_cutOut 33 = .ok (.putfield 50, 3) := by decide +kernel
theorem dX5_cutOut_36 : decode cX5_cutOut 36 = .ok (.iload_n 2, 1) := by decide +kernel
theorem dX5_cutOut_37 : decode cX5_cutOut 37 = .ok (.istore_n 3, 1) := by decide +kernel
theorem dX5_cutOut_38 : decode cX5_cutOut 38 = .ok (.iload_n 3, 1) := by decide +kernel
theorem dX5_cutOut_39 : decode cX5_cutOut 39 = .ok (.aload_n 0, 1) := by decide +kernel
theorem dX5_cutOut_40 : decode cX5_cutOut 40 = .ok (.getfield 50, 3) := by decide +kernel
theorem dX5_cutOut_43 : decode cX5_cutOut 43 = .ok (.if_icmp .ge 23, 3) := by decide +kernel
theorem dX5_cutOut_46 : decode cX5_cutOut 46 = .ok (.aload_n 0, 1) := by decide +kernel
theorem dX5_cutOut_47 : decode cX5_cutOut 47 = .ok (.getfield 46, 3) := by decide +kernel
theorem dX5_cutOut_50 : decode cX5_cutOut 50 = .ok (.iload_n 3, 1) := by decide +kernel
theorem dX5_cutOut_51 : decode cX5_cutOut 51 = .ok (.aload_n 0, 1) := by decide +kernel
theorem dX5_cutOut_52 : decode cX5_cutOut 52 = .ok (.getfield 46, 3) := by decide +kernel
theorem dX5_cutOut_55 : decode cX5_cutOut 55 = .ok (.iload_n 3, 1) := by decide +kernel
theorem dX5_cutOut_56 : decode cX5_cutOut 56 = .ok (.iconst 1, 1) := by decide +kernel
theorem dX5_cutOut_57 : decode cX5_cutOut 57 = .ok (.iadd, 1) := by decide +kernel
theorem dX5_cutOut_58 : decode cX5_cutOut 58 = .ok (.iaload, 1) := by decide +kernel
theorem dX5_cutOut_59 : decode cX5_cutOut 59 = .ok (.iastore, 1) := by decide +kernel
theorem dX5_cutOut_60 : decode cX5_cutOut 60 = .ok (.iinc 3 1, 3) := by decide +kernel
theorem dX5_cutOut_63 : decode cX5_cutOut 63 = .ok (.goto (-25), 3) := by decide +kernel
theorem dX5_cutOut_66 : decode cX5_cutOut 66 = .ok (.aload_n 0, 1) := by decide +kernel
theorem dX5_cutOut_67 : decode cX5_cutOut 67 = .ok (.invokevirtual 223, 3) := by decide +kernel
theorem dX5_cutOut_70 : decode cX5_cutOut 70 = .ok (.ireturn, 1) := by decide +kernel
theorem dX5_degree_0 : decode cX5_degree 0 = .ok (.aload_n 0, 1) := by decide +kernel
theorem dX5_degree_1 : decode cX5_degree 1 = .ok (.iload_n 1, 1) := by decide +kernel
theorem dX5_degree_2 : decode cX5_degree 2 = .ok (.invokevirtual 106, 3) := by decide +kernel
theorem dX5_degree_5 : decode cX5_degree 5 = .ok (.astore 4, 2) := by decide +kernel
theorem dX5_degree_7 : decode cX5_degree 7 = .ok (.aload 4, 2) := by decide +kernel

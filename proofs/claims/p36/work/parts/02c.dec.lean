theorem dX5_degree_9 : decode cX5_degree 9 = .ok (.getfield 134, 3) := by decide +kernel
theorem dX5_degree_12 : decode cX5_degree 12 = .ok (.iload_n 2, 1) := by decide +kernel
theorem dX5_degree_13 : decode cX5_degree 13 = .ok (.invokestatic 138, 3) := by decide +kernel
theorem dX5_degree_16 : decode cX5_degree 16 = .ok (.aload 4, 2) := by decide +kernel
theorem dX5_degree_18 : decode cX5_degree 18 = .ok (.iload_n 3, 1) := by decide +kernel
theorem dX5_degree_19 : decode cX5_degree 19 = .ok (.invokestatic 142, 3) := by decide +kernel
theorem dX5_degree_22 : decode cX5_degree 22 = .ok (.aload 4, 2) := by decide +kernel
theorem dX5_degree_24 : decode cX5_degree 24 = .ok (.iload_n 2, 1) := by decide +kernel
theorem dX5_degree_25 : decode cX5_degree 25 = .ok (.iload_n 3, 1) := by decide +kernel
theorem dX5_degree_26 : decode cX5_degree 26 = .ok (.invokevirtual 154, 3) := by decide +kernel
theorem dX5_degree_29 : decode cX5_degree 29 = .ok (.ireturn, 1) := by decide +kernel
theorem dX5_mouth_0 : decode cX5_mouth 0 = .ok (.aload_n 0, 1) := by decide +kernel
theorem dX5_mouth_1 : decode cX5_mouth 1 = .ok (.iload_n 1, 1) := by decide +kernel
theorem dX5_mouth_2 : decode cX5_mouth 2 = .ok (.invokevirtual 106, 3) := by decide +kernel
theorem dX5_mouth_5 : decode cX5_mouth 5 = .ok (.astore_n 3, 1) := by decide +kernel
theorem dX5_mouth_6 : decode cX5_mouth 6 = .ok (.aload_n 3, 1) := by decide +kernel
theorem dX5_mouth_7 : decode cX5_mouth 7 = .ok (.iload_n 2, 1) := by decide +kernel
theorem dX5_mouth_8 : decode cX5_mouth 8 = .ok (.invokestatic 142, 3) := by decide +kernel
theorem dX5_mouth_11 : decode cX5_mouth 11 = .ok (.aload_n 0, 1) := by decide +kernel
theorem dX5_mouth_12 : decode cX5_mouth 12 = .ok (.aload_n 3, 1) := by decide +kernel
theorem dX5_mouth_13 : decode cX5_mouth 13 = .ok (.iload_n 2, 1) := by decide +kernel
theorem dX5_mouth_14 : decode cX5_mouth 14 = .ok (.invokevirtual 231, 3) := by decide +kernel
theorem dX5_mouth_17 : decode cX5_mouth 17 = .ok (.ireturn, 1) := by decide +kernel
theorem dX5_place_0 : decode cX5_place 0 = .ok (.aload_n 0, 1) := by decide +kernel
theorem dX5_place_1 : decode cX5_place 1 = .ok (.iload_n 1, 1) := by decide +kernel
theorem dX5_place_2 : decode cX5_place 2 = .ok (.invokevirtual 106, 3) := by decide +kernel
theorem dX5_place_5 : decode cX5_place 5 = .ok (.astore_n 3, 1) := by decide +kernel
theorem dX5_place_6 : decode cX5_place 6 = .ok (.aload_n 3, 1) := by decide +kernel
theorem dX5_place_7 : decode cX5_place 7 = .ok (.iload_n 2, 1) := by decide +kernel
theorem dX5_place_8 : decode cX5_place 8 = .ok (.invokestatic 142, 3) := by decide +kernel
theorem dX5_place_11 : decode cX5_place 11 = .ok (.aload_n 3, 1) := by decide +kernel
theorem dX5_place_12 : decode cX5_place 12 = .ok (.getfield 167, 3) := by decide +kernel
theorem dX5_place_15 : decode cX5_place 15 = .ok (.iload_n 2, 1) := by decide +kernel
theorem dX5_place_16 : decode cX5_place 16 = .ok (.invokevirtual 171, 3) := by decide +kernel
theorem dX5_place_19 : decode cX5_place 19 = .ok (.ireturn, 1) := by decide +kernel
theorem dX5_wants_0 : decode cX5_wants 0 = .ok (.aload_n 0, 1) := by decide +kernel
theorem dX5_wants_1 : decode cX5_wants 1 = .ok (.iload_n 1, 1) := by decide +kernel
theorem dX5_wants_2 : decode cX5_wants 2 = .ok (.invokevirtual 106, 3) := by decide +kernel
theorem dX5_wants_5 : decode cX5_wants 5 = .ok (.astore_n 3, 1) := by decide +kernel
theorem dX5_wants_6 : decode cX5_wants 6 = .ok (.iload_n 2, 1) := by decide +kernel
theorem dX5_wants_7 : decode cX5_wants 7 = .ok (.invokestatic 77, 3) := by decide +kernel
theorem dX5_wants_10 : decode cX5_wants 10 = .ok (.iconst 0, 1) := by decide +kernel
theorem dX5_wants_11 : decode cX5_wants 11 = .ok (.istore 4, 2) := by decide +kernel
theorem dX5_wants_13 : decode cX5_wants 13 = .ok (.iconst (-1), 1) := by decide +kernel
theorem dX5_wants_14 : decode cX5_wants 14 = .ok (.istore 5, 2) := by decide +kernel
theorem dX5_wants_16 : decode cX5_wants 16 = .ok (.iconst 0, 1) := by decide +kernel
theorem dX5_wants_17 : decode cX5_wants 17 = .ok (.istore 6, 2) := by decide +kernel
theorem dX5_wants_19 : decode cX5_wants 19 = .ok (.iload 6, 2) := by decide +kernel
theorem dX5_wants_21 : decode cX5_wants 21 = .ok (.aload_n 3, 1) := by decide +kernel
theorem dX5_wants_22 : decode cX5_wants 22 = .ok (.getfield 235, 3) := by decide +kernel
theorem dX5_wants_25 : decode cX5_wants 25 = .ok (.if_icmp .ge 38, 3) := by decide +kernel
theorem dX5_wants_28 : decode cX5_wants 28 = .ok (.aload_n 0, 1) := by decide +kernel
theorem dX5_wants_29 : decode cX5_wants 29 = .ok (.aload_n 3, 1) := by decide +kernel
theorem dX5_wants_30 : decode cX5_wants 30 = .ok (.iload 6, 2) := by decide +kernel
theorem dX5_wants_32 : decode cX5_wants 32 = .ok (.invokevirtual 231, 3) := by decide +kernel
theorem dX5_wants_35 : decode cX5_wants 35 = .ok (.istore 7, 2) := by decide +kernel
theorem dX5_wants_37 : decode cX5_wants 37 = .ok (.iload 7, 2) := by decide +kernel
theorem dX5_wants_39 : decode cX5_wants 39 = .ok (.iload_n 2, 1) := by decide +kernel
theorem dX5_wants_40 : decode cX5_wants 40 = .ok (.if_icmp .ne 13, 3) := by decide +kernel
theorem dX5_wants_43 : decode cX5_wants 43 = .ok (.iload 7, 2) := by decide +kernel
theorem dX5_wants_45 : decode cX5_wants 45 = .ok (.iload 5, 2) := by decide +kernel
theorem dX5_wants_47 : decode cX5_wants 47 = .ok (.if_icmp .eq 6, 3) := by decide +kernel
theorem dX5_wants_50 : decode cX5_wants 50 = .ok (.iinc 4 1, 3) := by decide +kernel
theorem dX5_wants_53 : decode cX5_wants 53 = .ok (.iload 7, 2) := by decide +kernel
theorem dX5_wants_55 : decode cX5_wants 55 = .ok (.istore 5, 2) := by decide +kernel
theorem dX5_wants_57 : decode cX5_wants 57 = .ok (.iinc 6 1, 3) := by decide +kernel
theorem dX5_wants_60 : decode cX5_wants 60 = .ok (.goto (-41), 3) := by decide +kernel
theorem dX5_wants_63 : decode cX5_wants 63 = .ok (.iload 4, 2) := by decide +kernel
theorem dX5_wants_65 : decode cX5_wants 65 = .ok (.ireturn, 1) := by decide +kernel
theorem dX5_bars_0 : decode cX5_bars 0 = .ok (.aload_n 0, 1) := by decide +kernel
theorem dX5_bars_1 : decode cX5_bars 1 = .ok (.aload_n 0, 1) := by decide +kernel
theorem dX5_bars_2 : decode cX5_bars 2 = .ok (.iload_n 1, 1) := by decide +kernel
theorem dX5_bars_3 : decode cX5_bars 3 = .ok (.invokevirtual 106, 3) := by decide +kernel
theorem dX5_bars_6 : decode cX5_bars 6 = .ok (.invokevirtual 175, 3) := by decide +kernel
theorem dX5_bars_9 : decode cX5_bars 9 = .ok (.ireturn, 1) := by decide +kernel
theorem dX5_wears_0 : decode cX5_wears 0 = .ok (.aload_n 0, 1) := by decide +kernel
theorem dX5_wears_1 : decode cX5_wears 1 = .ok (.iload_n 1, 1) := by decide +kernel
theorem dX5_wears_2 : decode cX5_wears 2 = .ok (.invokevirtual 106, 3) := by decide +kernel
theorem dX5_wears_5 : decode cX5_wears 5 = .ok (.astore_n 3, 1) := by decide +kernel
theorem dX5_wears_6 : decode cX5_wears 6 = .ok (.aload_n 3, 1) := by decide +kernel
theorem dX5_wears_7 : decode cX5_wears 7 = .ok (.getfield 134, 3) := by decide +kernel
theorem dX5_wears_10 : decode cX5_wears 10 = .ok (.iload_n 2, 1) := by decide +kernel
theorem dX5_wears_11 : decode cX5_wears 11 = .ok (.invokestatic 138, 3) := by decide +kernel
theorem dX5_wears_14 : decode cX5_wears 14 = .ok (.aload_n 3, 1) := by decide +kernel
theorem dX5_wears_15 : decode cX5_wears 15 = .ok (.getfield 134, 3) := by decide +kernel
theorem dX5_wears_18 : decode cX5_wears 18 = .ok (.getfield 238, 3) := by decide +kernel
theorem dX5_wears_21 : decode cX5_wears 21 = .ok (.iload_n 2, 1) := by decide +kernel
theorem dX5_wears_22 : decode cX5_wears 22 = .ok (.iaload, 1) := by decide +kernel
theorem dX5_wears_23 : decode cX5_wears 23 = .ok (.istore 4, 2) := by decide +kernel
theorem dX5_wears_25 : decode cX5_wears 25 = .ok (.iconst 0, 1) := by decide +kernel
theorem dX5_wears_26 : decode cX5_wears 26 = .ok (.istore 5, 2) := by decide +kernel
theorem dX5_wears_28 : decode cX5_wears 28 = .ok (.aload_n 3, 1) := by decide +kernel
theorem dX5_wears_29 : decode cX5_wears 29 = .ok (.getfield 182, 3) := by decide +kernel
theorem dX5_wears_32 : decode cX5_wears 32 = .ok (.getfield 186, 3) := by decide +kernel
theorem dX5_wears_35 : decode cX5_wears 35 = .ok (.istore 6, 2) := by decide +kernel
theorem dX5_wears_37 : decode cX5_wears 37 = .ok (.iload 6, 2) := by decide +kernel
theorem dX5_wears_39 : decode cX5_wears 39 = .ok (.aload_n 3, 1) := by decide +kernel
theorem dX5_wears_40 : decode cX5_wears 40 = .ok (.getfield 235, 3) := by decide +kernel
theorem dX5_wears_43 : decode cX5_wears 43 = .ok (.if_icmp .ge 46, 3) := by decide +kernel
theorem dX5_wears_46 : decode cX5_wears 46 = .ok (.aload_n 3, 1) := by decide +kernel
theorem dX5_wears_47 : decode cX5_wears 47 = .ok (.iload 6, 2) := by decide +kernel
theorem dX5_wears_49 : decode cX5_wears 49 = .ok (.invokevirtual 149, 3) := by decide +kernel
theorem dX5_wears_52 : decode cX5_wears 52 = .ok (.ifCond .ne 31, 3) := by decide +kernel
theorem dX5_wears_55 : decode cX5_wears 55 = .ok (.aload_n 3, 1) := by decide +kernel
theorem dX5_wears_56 : decode cX5_wears 56 = .ok (.iload_n 2, 1) := by decide +kernel
theorem dX5_wears_57 : decode cX5_wears 57 = .ok (.iload 6, 2) := by decide +kernel
theorem dX5_wears_59 : decode cX5_wears 59 = .ok (.invokevirtual 154, 3) := by decide +kernel
theorem dX5_wears_62 : decode cX5_wears 62 = .ok (.istore 7, 2) := by decide +kernel
theorem dX5_wears_64 : decode cX5_wears 64 = .ok (.iload 5, 2) := by decide +kernel
theorem dX5_wears_66 : decode cX5_wears 66 = .ok (.iload 4, 2) := by decide +kernel
theorem dX5_wears_68 : decode cX5_wears 68 = .ok (.iload 7, 2) := by decide +kernel
theorem dX5_wears_70 : decode cX5_wears 70 = .ok (.invokestatic 241, 3) := by decide +kernel
theorem dX5_wears_73 : decode cX5_wears 73 = .ok (.invokestatic 244, 3) := by decide +kernel
theorem dX5_wears_76 : decode cX5_wears 76 = .ok (.iadd, 1) := by decide +kernel
theorem dX5_wears_77 : decode cX5_wears 77 = .ok (.istore 5, 2) := by decide +kernel
theorem dX5_wears_79 : decode cX5_wears 79 = .ok (.iload 7, 2) := by decide +kernel
theorem dX5_wears_81 : decode cX5_wears 81 = .ok (.istore 4, 2) := by decide +kernel
theorem dX5_wears_83 : decode cX5_wears 83 = .ok (.iinc 6 1, 3) := by decide +kernel
theorem dX5_wears_86 : decode cX5_wears 86 = .ok (.goto (-49), 3) := by decide +kernel
theorem dX5_wears_89 : decode cX5_wears 89 = .ok (.iload 5, 2) := by decide +kernel
theorem dX5_wears_91 : decode cX5_wears 91 = .ok (.ireturn, 1) := by decide +kernel
theorem dX5_struck_0 : decode cX5_struck 0 = .ok (.aload_n 0, 1) := by decide +kernel
theorem dX5_struck_1 : decode cX5_struck 1 = .ok (.iload_n 1, 1) := by decide +kernel
theorem dX5_struck_2 : decode cX5_struck 2 = .ok (.invokevirtual 106, 3) := by decide +kernel
theorem dX5_struck_5 : decode cX5_struck 5 = .ok (.getfield 182, 3) := by decide +kernel
theorem dX5_struck_8 : decode cX5_struck 8 = .ok (.getfield 186, 3) := by decide +kernel
theorem dX5_struck_11 : decode cX5_struck 11 = .ok (.ireturn, 1) := by decide +kernel
theorem dX5_pose_0 : decode cX5_pose 0 = .ok (.aload_n 0, 1) := by decide +kernel
theorem dX5_pose_1 : decode cX5_pose 1 = .ok (.iload_n 1, 1) := by decide +kernel
theorem dX5_pose_2 : decode cX5_pose 2 = .ok (.invokevirtual 106, 3) := by decide +kernel
theorem dX5_pose_5 : decode cX5_pose 5 = .ok (.astore 4, 2) := by decide +kernel
theorem dX5_pose_7 : decode cX5_pose 7 = .ok (.aload 4, 2) := by decide +kernel
theorem dX5_pose_9 : decode cX5_pose 9 = .ok (.getfield 134, 3) := by decide +kernel
theorem dX5_pose_12 : decode cX5_pose 12 = .ok (.iload_n 2, 1) := by decide +kernel
theorem dX5_pose_13 : decode cX5_pose 13 = .ok (.invokestatic 138, 3) := by decide +kernel
theorem dX5_pose_16 : decode cX5_pose 16 = .ok (.aload 4, 2) := by decide +kernel
theorem dX5_pose_18 : decode cX5_pose 18 = .ok (.iload_n 3, 1) := by decide +kernel
theorem dX5_pose_19 : decode cX5_pose 19 = .ok (.invokestatic 249, 3) := by decide +kernel
theorem dX5_pose_22 : decode cX5_pose 22 = .ok (.aload 4, 2) := by decide +kernel
theorem dX5_pose_24 : decode cX5_pose 24 = .ok (.getfield 182, 3) := by decide +kernel
theorem dX5_pose_27 : decode cX5_pose 27 = .ok (.getfield 252, 3) := by decide +kernel
theorem dX5_pose_30 : decode cX5_pose 30 = .ok (.iload_n 2, 1) := by decide +kernel
theorem dX5_pose_31 : decode cX5_pose 31 = .ok (.aaload, 1) := by decide +kernel
theorem dX5_pose_32 : decode cX5_pose 32 = .ok (.iload_n 3, 1) := by decide +kernel
theorem dX5_pose_33 : decode cX5_pose 33 = .ok (.iaload, 1) := by decide +kernel
theorem dX5_pose_34 : decode cX5_pose 34 = .ok (.ireturn, 1) := by decide +kernel
theorem dX5_ofFrame_0 : decode cX5_ofFrame 0 = .ok (.aload_n 0, 1) := by decide +kernel
theorem dX5_ofFrame_1 : decode cX5_ofFrame 1 = .ok (.iload_n 1, 1) := by decide +kernel
theorem dX5_ofFrame_2 : decode cX5_ofFrame 2 = .ok (.invokevirtual 106, 3) := by decide +kernel
theorem dX5_ofFrame_5 : decode cX5_ofFrame 5 = .ok (.astore 4, 2) := by decide +kernel
theorem dX5_ofFrame_7 : decode cX5_ofFrame 7 = .ok (.aload 4, 2) := by decide +kernel
theorem dX5_ofFrame_9 : decode cX5_ofFrame 9 = .ok (.iload_n 2, 1) := by decide +kernel
theorem dX5_ofFrame_10 : decode cX5_ofFrame 10 = .ok (.invokestatic 249, 3) := by decide +kernel
theorem dX5_ofFrame_13 : decode cX5_ofFrame 13 = .ok (.iload_n 3, 1) := by decide +kernel
theorem dX5_ofFrame_14 : decode cX5_ofFrame 14 = .ok (.iconst 0, 1) := by decide +kernel
theorem dX5_ofFrame_15 : decode cX5_ofFrame 15 = .ok (.iconst 3, 1) := by decide +kernel
theorem dX5_ofFrame_16 : decode cX5_ofFrame 16 = .ok (.invokestatic 59, 3) := by decide +kernel
theorem dX5_ofFrame_19 : decode cX5_ofFrame 19 = .ok (.iload_n 3, 1) := by decide +kernel
theorem dX5_ofFrame_20 : decode cX5_ofFrame 20 = .ok (.tableswitch 61 0 2 #[28, 39, 50], 28) := by decide +kernel
theorem dX5_ofFrame_48 : decode cX5_ofFrame 48 = .ok (.aload 4, 2) := by decide +kernel
theorem dX5_ofFrame_50 : decode cX5_ofFrame 50 = .ok (.getfield 182, 3) := by decide +kernel
theorem dX5_ofFrame_53 : decode cX5_ofFrame 53 = .ok (.getfield 256, 3) := by decide +kernel
theorem dX5_ofFrame_56 : decode cX5_ofFrame 56 = .ok (.iload_n 2, 1) := by decide +kernel
theorem dX5_ofFrame_57 : decode cX5_ofFrame 57 = .ok (.iaload, 1) := by decide +kernel
theorem dX5_ofFrame_58 : decode cX5_ofFrame 58 = .ok (.ireturn, 1) := by decide +kernel
theorem dX5_ofFrame_59 : decode cX5_ofFrame 59 = .ok (.aload 4, 2) := by decide +kernel
theorem dX5_ofFrame_61 : decode cX5_ofFrame 61 = .ok (.getfield 182, 3) := by decide +kernel
theorem dX5_ofFrame_64 : decode cX5_ofFrame 64 = .ok (.getfield 259, 3) := by decide +kernel
theorem dX5_ofFrame_67 : decode cX5_ofFrame 67 = .ok (.iload_n 2, 1) := by decide +kernel
theorem dX5_ofFrame_68 : decode cX5_ofFrame 68 = .ok (.iaload, 1) := by decide +kernel
theorem dX5_ofFrame_69 : decode cX5_ofFrame 69 = .ok (.ireturn, 1) := by decide +kernel
theorem dX5_ofFrame_70 : decode cX5_ofFrame 70 = .ok (.aload 4, 2) := by decide +kernel
theorem dX5_ofFrame_72 : decode cX5_ofFrame 72 = .ok (.getfield 182, 3) := by decide +kernel
theorem dX5_ofFrame_75 : decode cX5_ofFrame 75 = .ok (.getfield 262, 3) := by decide +kernel
theorem dX5_ofFrame_78 : decode cX5_ofFrame 78 = .ok (.iload_n 2, 1) := by decide +kernel
theorem dX5_ofFrame_79 : decode cX5_ofFrame 79 = .ok (.iaload, 1) := by decide +kernel
theorem dX5_ofFrame_80 : decode cX5_ofFrame 80 = .ok (.ireturn, 1) := by decide +kernel
theorem dX5_ofFrame_81 : decode cX5_ofFrame 81 = .ok (.aload 4, 2) := by decide +kernel
theorem dX5_ofFrame_83 : decode cX5_ofFrame 83 = .ok (.getfield 182, 3) := by decide +kernel
theorem dX5_ofFrame_86 : decode cX5_ofFrame 86 = .ok (.getfield 265, 3) := by decide +kernel
theorem dX5_ofFrame_89 : decode cX5_ofFrame 89 = .ok (.iload_n 2, 1) := by decide +kernel
theorem dX5_ofFrame_90 : decode cX5_ofFrame 90 = .ok (.iaload, 1) := by decide +kernel
theorem dX5_ofFrame_91 : decode cX5_ofFrame 91 = .ok (.ireturn, 1) := by decide +kernel
theorem dX5_faults_0 : decode cX5_faults 0 = .ok (.aload_n 0, 1) := by decide +kernel
theorem dX5_faults_1 : decode cX5_faults 1 = .ok (.iload_n 1, 1) := by decide +kernel
theorem dX5_faults_2 : decode cX5_faults 2 = .ok (.invokevirtual 106, 3) := by decide +kernel
theorem dX5_faults_5 : decode cX5_faults 5 = .ok (.astore_n 3, 1) := by decide +kernel
theorem dX5_faults_6 : decode cX5_faults 6 = .ok (.aload_n 3, 1) := by decide +kernel
theorem dX5_faults_7 : decode cX5_faults 7 = .ok (.iload_n 2, 1) := by decide +kernel
theorem dX5_faults_8 : decode cX5_faults 8 = .ok (.invokestatic 249, 3) := by decide +kernel
theorem dX5_faults_11 : decode cX5_faults 11 = .ok (.aload_n 3, 1) := by decide +kernel
theorem dX5_faults_12 : decode cX5_faults 12 = .ok (.getfield 182, 3) := by decide +kernel
theorem dX5_faults_15 : decode cX5_faults 15 = .ok (.astore 4, 2) := by decide +kernel
theorem dX5_faults_17 : decode cX5_faults 17 = .ok (.aload_n 3, 1) := by decide +kernel
theorem dX5_faults_18 : decode cX5_faults 18 = .ok (.iload_n 2, 1) := by decide +kernel
theorem dX5_faults_19 : decode cX5_faults 19 = .ok (.invokevirtual 268, 3) := by decide +kernel
theorem dX5_faults_22 : decode cX5_faults 22 = .ok (.ifCond .eq 7, 3) := by decide +kernel
theorem dX5_faults_25 : decode cX5_faults 25 = .ok (.iconst 0, 1) := by decide +kernel
theorem dX5_faults_26 : decode cX5_faults 26 = .ok (.goto 4, 3) := by decide +kernel
theorem dX5_faults_29 : decode cX5_faults 29 = .ok (.iconst 1, 1) := by decide +kernel
theorem dX5_faults_30 : decode cX5_faults 30 = .ok (.istore 5, 2) := by decide +kernel
theorem dX5_faults_32 : decode cX5_faults 32 = .ok (.aload 4, 2) := by decide +kernel
theorem dX5_faults_34 : decode cX5_faults 34 = .ok (.getfield 256, 3) := by decide +kernel
theorem dX5_faults_37 : decode cX5_faults 37 = .ok (.iload_n 2, 1) := by decide +kernel
theorem dX5_faults_38 : decode cX5_faults 38 = .ok (.iaload, 1) := by decide +kernel
theorem dX5_faults_39 : decode cX5_faults 39 = .ok (.aload_n 0, 1) := by decide +kernel
theorem dX5_faults_40 : decode cX5_faults 40 = .ok (.aload_n 3, 1) := by decide +kernel
theorem dX5_faults_41 : decode cX5_faults 41 = .ok (.iload_n 2, 1) := by decide +kernel
theorem dX5_faults_42 : decode cX5_faults 42 = .ok (.invokevirtual 231, 3) := by decide +kernel
theorem dX5_faults_45 : decode cX5_faults 45 = .ok (.if_icmp .eq 9, 3) := by decide +kernel
theorem dX5_faults_48 : decode cX5_faults 48 = .ok (.iload 5, 2) := by decide +kernel
theorem dX5_faults_50 : decode cX5_faults 50 = .ok (.iconst 2, 1) := by decide +kernel
theorem dX5_faults_51 : decode cX5_faults 51 = .ok (.ior, 1) := by decide +kernel
theorem dX5_faults_52 : decode cX5_faults 52 = .ok (.istore 5, 2) := by decide +kernel
theorem dX5_faults_54 : decode cX5_faults 54 = .ok (.aload 4, 2) := by decide +kernel
theorem dX5_faults_56 : decode cX5_faults 56 = .ok (.getfield 265, 3) := by decide +kernel
theorem dX5_faults_59 : decode cX5_faults 59 = .ok (.iload_n 2, 1) := by decide +kernel
theorem dX5_faults_60 : decode cX5_faults 60 = .ok (.iaload, 1) := by decide +kernel
theorem dX5_faults_61 : decode cX5_faults 61 = .ok (.ifCond .eq 9, 3) := by decide +kernel
theorem dX5_faults_64 : decode cX5_faults 64 = .ok (.iload 5, 2) := by decide +kernel
theorem dX5_faults_66 : decode cX5_faults 66 = .ok (.iconst 4, 1) := by decide +kernel
theorem dX5_faults_67 : decode cX5_faults 67 = .ok (.ior, 1) := by decide +kernel
theorem dX5_faults_68 : decode cX5_faults 68 = .ok (.istore 5, 2) := by decide +kernel
theorem dX5_faults_70 : decode cX5_faults 70 = .ok (.iload_n 2, 1) := by decide +kernel
theorem dX5_faults_71 : decode cX5_faults 71 = .ok (.ifCond .le 35, 3) := by decide +kernel
theorem dX5_faults_74 : decode cX5_faults 74 = .ok (.aload 4, 2) := by decide +kernel
theorem dX5_faults_76 : decode cX5_faults 76 = .ok (.getfield 262, 3) := by decide +kernel
theorem dX5_faults_79 : decode cX5_faults 79 = .ok (.iload_n 2, 1) := by decide +kernel
theorem dX5_faults_80 : decode cX5_faults 80 = .ok (.iaload, 1) := by decide +kernel
theorem dX5_faults_81 : decode cX5_faults 81 = .ok (.aload 4, 2) := by decide +kernel
theorem dX5_faults_83 : decode cX5_faults 83 = .ok (.getfield 262, 3) := by decide +kernel
theorem dX5_faults_86 : decode cX5_faults 86 = .ok (.iload_n 2, 1) := by decide +kernel
theorem dX5_faults_87 : decode cX5_faults 87 = .ok (.iconst 1, 1) := by decide +kernel
theorem dX5_faults_88 : decode cX5_faults 88 = .ok (.isub, 1) := by decide +kernel
theorem dX5_faults_89 : decode cX5_faults 89 = .ok (.iaload, 1) := by decide +kernel
theorem dX5_faults_90 : decode cX5_faults 90 = .ok (.isub, 1) := by decide +kernel
theorem dX5_faults_91 : decode cX5_faults 91 = .ok (.invokestatic 244, 3) := by decide +kernel
theorem dX5_faults_94 : decode cX5_faults 94 = .ok (.bipush 20, 2) := by decide +kernel
theorem dX5_faults_96 : decode cX5_faults 96 = .ok (.if_icmp .le 10, 3) := by decide +kernel
theorem dX5_faults_99 : decode cX5_faults 99 = .ok (.iload 5, 2) := by decide +kernel
theorem dX5_faults_101 : decode cX5_faults 101 = .ok (.bipush 8, 2) := by decide +kernel
theorem dX5_faults_103 : decode cX5_faults 103 = .ok (.ior, 1) := by decide +kernel
theorem dX5_faults_104 : decode cX5_faults 104 = .ok (.istore 5, 2) := by decide +kernel
theorem dX5_faults_106 : decode cX5_faults 106 = .ok (.aload 4, 2) := by decide +kernel
theorem dX5_faults_108 : decode cX5_faults 108 = .ok (.getfield 259, 3) := by decide +kernel
theorem dX5_faults_111 : decode cX5_faults 111 = .ok (.iload_n 2, 1) := by decide +kernel
theorem dX5_faults_112 : decode cX5_faults 112 = .ok (.iaload, 1) := by decide +kernel
theorem dX5_faults_113 : decode cX5_faults 113 = .ok (.aload_n 3, 1) := by decide +kernel
theorem dX5_faults_114 : decode cX5_faults 114 = .ok (.getfield 167, 3) := by decide +kernel
theorem dX5_faults_117 : decode cX5_faults 117 = .ok (.iload_n 2, 1) := by decide +kernel
theorem dX5_faults_118 : decode cX5_faults 118 = .ok (.invokevirtual 171, 3) := by decide +kernel
theorem dX5_faults_121 : decode cX5_faults 121 = .ok (.if_icmp .eq 10, 3) := by decide +kernel
theorem dX5_faults_124 : decode cX5_faults 124 = .ok (.iload 5, 2) := by decide +kernel
theorem dX5_faults_126 : decode cX5_faults 126 = .ok (.bipush 16, 2) := by decide +kernel
theorem dX5_faults_128 : decode cX5_faults 128 = .ok (.ior, 1) := by decide +kernel
theorem dX5_faults_129 : decode cX5_faults 129 = .ok (.istore 5, 2) := by decide +kernel
theorem dX5_faults_131 : decode cX5_faults 131 = .ok (.iload 5, 2) := by decide +kernel
theorem dX5_faults_133 : decode cX5_faults 133 = .ok (.ireturn, 1) := by decide +kernel
theorem dX5_ofJoint_0 : decode cX5_ofJoint 0 = .ok (.aload_n 0, 1) := by decide +kernel
theorem dX5_ofJoint_1 : decode cX5_ofJoint 1 = .ok (.iload_n 1, 1) := by decide +kernel
theorem dX5_ofJoint_2 : decode cX5_ofJoint 2 = .ok (.invokevirtual 73, 3) := by decide +kernel
theorem dX5_ofJoint_5 : decode cX5_ofJoint 5 = .ok (.astore 4, 2) := by decide +kernel
theorem dX5_ofJoint_7 : decode cX5_ofJoint 7 = .ok (.aload 4, 2) := by decide +kernel
theorem dX5_ofJoint_9 : decode cX5_ofJoint 9 = .ok (.iload_n 2, 1) := by decide +kernel
theorem dX5_ofJoint_10 : decode cX5_ofJoint 10 = .ok (.invokestatic 138, 3) := by decide +kernel
theorem dX5_ofJoint_13 : decode cX5_ofJoint 13 = .ok (.iload_n 3, 1) := by decide +kernel
theorem dX5_ofJoint_14 : decode cX5_ofJoint 14 = .ok (.iconst 0, 1) := by decide +kernel
theorem dX5_ofJoint_15 : decode cX5_ofJoint 15 = .ok (.iconst 1, 1) := by decide +kernel
theorem dX5_ofJoint_16 : decode cX5_ofJoint 16 = .ok (.invokestatic 59, 3) := by decide +kernel
theorem dX5_ofJoint_19 : decode cX5_ofJoint 19 = .ok (.iload_n 3, 1) := by decide +kernel
theorem dX5_ofJoint_20 : decode cX5_ofJoint 20 = .ok (.ifCond .ne 13, 3) := by decide +kernel
theorem dX5_ofJoint_23 : decode cX5_ofJoint 23 = .ok (.aload 4, 2) := by decide +kernel
theorem dX5_ofJoint_25 : decode cX5_ofJoint 25 = .ok (.getfield 238, 3) := by decide +kernel
theorem dX5_ofJoint_28 : decode cX5_ofJoint 28 = .ok (.iload_n 2, 1) := by decide +kernel
theorem dX5_ofJoint_29 : decode cX5_ofJoint 29 = .ok (.iaload, 1) := by decide +kernel
theorem dX5_ofJoint_30 : decode cX5_ofJoint 30 = .ok (.goto 10, 3) := by decide +kernel
theorem dX5_ofJoint_33 : decode cX5_ofJoint 33 = .ok (.aload 4, 2) := by decide +kernel
theorem dX5_ofJoint_35 : decode cX5_ofJoint 35 = .ok (.getfield 218, 3) := by decide +kernel
theorem dX5_ofJoint_38 : decode cX5_ofJoint 38 = .ok (.iload_n 2, 1) := by decide +kernel
theorem dX5_ofJoint_39 : decode cX5_ofJoint 39 = .ok (.iaload, 1) := by decide +kernel
theorem dX5_ofJoint_40 : decode cX5_ofJoint 40 = .ok (.ireturn, 1) := by decide +kernel
theorem dX5_left_0 : decode cX5_left 0 = .ok (.aload_n 0, 1) := by decide +kernel
theorem dX5_left_1 : decode cX5_left 1 = .ok (.iload_n 1, 1) := by decide +kernel
theorem dX5_left_2 : decode cX5_left 2 = .ok (.invokevirtual 73, 3) := by decide +kernel
theorem dX5_left_5 : decode cX5_left 5 = .ok (.astore_n 3, 1) := by decide +kernel
theorem dX5_left_6 : decode cX5_left 6 = .ok (.iload_n 2, 1) := by decide +kernel
theorem dX5_left_7 : decode cX5_left 7 = .ok (.invokestatic 77, 3) := by decide +kernel
theorem dX5_left_10 : decode cX5_left 10 = .ok (.aload_n 3, 1) := by decide +kernel
theorem dX5_left_11 : decode cX5_left 11 = .ok (.getfield 80, 3) := by decide +kernel
theorem dX5_left_14 : decode cX5_left 14 = .ok (.iload_n 2, 1) := by decide +kernel
theorem dX5_left_15 : decode cX5_left 15 = .ok (.iaload, 1) := by decide +kernel
theorem dX5_left_16 : decode cX5_left 16 = .ok (.ireturn, 1) := by decide +kernel
theorem dX5_light_0 : decode cX5_light 0 = .ok (.aload_n 0, 1) := by decide +kernel
theorem dX5_light_1 : decode cX5_light 1 = .ok (.invokevirtual 195, 3) := by decide +kernel
theorem dX5_light_4 : decode cX5_light 4 = .ok (.ireturn, 1) := by decide +kernel
theorem dX5_film_0 : decode cX5_film 0 = .ok (.iload_n 1, 1) := by decide +kernel
theorem dX5_film_1 : decode cX5_film 1 = .ok (.ifCond .ge 14, 3) := by decide +kernel
theorem dX5_film_4 : decode cX5_film 4 = .ok (.new 271, 3) := by decide +kernel
theorem dX5_film_7 : decode cX5_film 7 = .ok (.dup, 1) := by decide +kernel
theorem dX5_film_8 : decode cX5_film 8 = .ok (.ldc_w 273, 3) := by decide +kernel
theorem dX5_film_11 : decode cX5_film 11 = .ok (.invokespecial 275, 3) := by decide +kernel
theorem dX5_film_14 : decode cX5_film 14 = .ok (.athrow, 1) := by decide +kernel
theorem dX5_film_15 : decode cX5_film 15 = .ok (.iconst 0, 1) := by decide +kernel
theorem dX5_film_16 : decode cX5_film 16 = .ok (.istore_n 2, 1) := by decide +kernel
theorem dX5_film_17 : decode cX5_film 17 = .ok (.iconst 0, 1) := by decide +kernel
theorem dX5_film_18 : decode cX5_film 18 = .ok (.istore_n 3, 1) := by decide +kernel
theorem dX5_film_19 : decode cX5_film 19 = .ok (.iload_n 3, 1) := by decide +kernel
theorem dX5_film_20 : decode cX5_film 20 = .ok (.aload_n 0, 1) := by decide +kernel
theorem dX5_film_21 : decode cX5_film 21 = .ok (.getfield 50, 3) := by decide +kernel
theorem dX5_film_24 : decode cX5_film 24 = .ok (.if_icmp .ge 52, 3) := by decide +kernel
theorem dX5_film_27 : decode cX5_film 27 = .ok (.aload_n 0, 1) := by decide +kernel
theorem dX5_film_28 : decode cX5_film 28 = .ok (.getfield 35, 3) := by decide +kernel
theorem dX5_film_31 : decode cX5_film 31 = .ok (.aload_n 0, 1) := by decide +kernel
theorem dX5_film_32 : decode cX5_film 32 = .ok (.getfield 46, 3) := by decide +kernel
theorem dX5_film_35 : decode cX5_film 35 = .ok (.iload_n 3, 1) := by decide +kernel
theorem dX5_film_36 : decode cX5_film 36 = .ok (.iaload, 1) := by decide +kernel
theorem dX5_film_37 : decode cX5_film 37 = .ok (.aaload, 1) := by decide +kernel
theorem dX5_film_38 : decode cX5_film 38 = .ok (.getfield 235, 3) := by decide +kernel
theorem dX5_film_41 : decode cX5_film 41 = .ok (.istore 4, 2) := by decide +kernel
theorem dX5_film_43 : decode cX5_film 43 = .ok (.iload_n 1, 1) := by decide +kernel
theorem dX5_film_44 : decode cX5_film 44 = .ok (.iload_n 2, 1) := by decide +kernel
theorem dX5_film_45 : decode cX5_film 45 = .ok (.isub, 1) := by decide +kernel
theorem dX5_film_46 : decode cX5_film 46 = .ok (.iload 4, 2) := by decide +kernel
theorem dX5_film_48 : decode cX5_film 48 = .ok (.if_icmp .ge 17, 3) := by decide +kernel
theorem dX5_film_51 : decode cX5_film 51 = .ok (.bipush 100, 2) := by decide +kernel
theorem dX5_film_53 : decode cX5_film 53 = .ok (.aload_n 0, 1) := by decide +kernel
theorem dX5_film_54 : decode cX5_film 54 = .ok (.getfield 46, 3) := by decide +kernel
theorem dX5_film_57 : decode cX5_film 57 = .ok (.iload_n 3, 1) := by decide +kernel
theorem dX5_film_58 : decode cX5_film 58 = .ok (.iaload, 1) := by decide +kernel
theorem dX5_film_59 : decode cX5_film 59 = .ok (.imul, 1) := by decide +kernel
theorem dX5_film_60 : decode cX5_film 60 = .ok (.iload_n 1, 1) := by decide +kernel
theorem dX5_film_61 : decode cX5_film 61 = .ok (.iadd, 1) := by decide +kernel
theorem dX5_film_62 : decode cX5_film 62 = .ok (.iload_n 2, 1) := by decide +kernel
theorem dX5_film_63 : decode cX5_film 63 = .ok (.isub, 1) := by decide +kernel
theorem dX5_film_64 : decode cX5_film 64 = .ok (.ireturn, 1) := by decide +kernel
theorem dX5_film_65 : decode cX5_film 65 = .ok (.iload_n 2, 1) := by decide +kernel
theorem dX5_film_66 : decode cX5_film 66 = .ok (.iload 4, 2) := by decide +kernel
theorem dX5_film_68 : decode cX5_film 68 = .ok (.iadd, 1) := by decide +kernel
theorem dX5_film_69 : decode cX5_film 69 = .ok (.istore_n 2, 1) := by decide +kernel
theorem dX5_film_70 : decode cX5_film 70 = .ok (.iinc 3 1, 3) := by decide +kernel
theorem dX5_film_73 : decode cX5_film 73 = .ok (.goto (-54), 3) := by decide +kernel
theorem dX5_film_76 : decode cX5_film 76 = .ok (.iconst (-1), 1) := by decide +kernel
theorem dX5_film_77 : decode cX5_film 77 = .ok (.ireturn, 1) := by decide +kernel
theorem dX5_needRange_0 : decode cX5_needRange 0 = .ok (.iload_n 0, 1) := by decide +kernel
theorem dX5_needRange_1 : decode cX5_needRange 1 = .ok (.iload_n 1, 1) := by decide +kernel
theorem dX5_needRange_2 : decode cX5_needRange 2 = .ok (.if_icmp .lt 8, 3) := by decide +kernel
theorem dX5_needRange_5 : decode cX5_needRange 5 = .ok (.iload_n 0, 1) := by decide +kernel
theorem dX5_needRange_6 : decode cX5_needRange 6 = .ok (.iload_n 2, 1) := by decide +kernel
theorem dX5_needRange_7 : decode cX5_needRange 7 = .ok (.if_icmp .le 14, 3) := by decide +kernel
theorem dX5_needRange_10 : decode cX5_needRange 10 = .ok (.new 276, 3) := by decide +kernel
theorem dX5_needRange_13 : decode cX5_needRange 13 = .ok (.dup, 1) := by decide +kernel
theorem dX5_needRange_14 : decode cX5_needRange 14 = .ok (.ldc_w 278, 3) := by decide +kernel
theorem dX5_needRange_17 : decode cX5_needRange 17 = .ok (.invokespecial 280, 3) := by decide +kernel
theorem dX5_needRange_20 : decode cX5_needRange 20 = .ok (.athrow, 1) := by decide +kernel
theorem dX5_needRange_21 : decode cX5_needRange 21 = .ok (.return_, 1) := by decide +kernel
theorem dX5_needSound_0 : decode cX5_needSound 0 = .ok (.iload_n 0, 1) := by decide +kernel
theorem dX5_needSound_1 : decode cX5_needSound 1 = .ok (.iconst 0, 1) := by decide +kernel
theorem dX5_needSound_2 : decode cX5_needSound 2 = .ok (.bipush 9, 2) := by decide +kernel
theorem dX5_needSound_4 : decode cX5_needSound 4 = .ok (.invokestatic 59, 3) := by decide +kernel
theorem dX5_needSound_7 : decode cX5_needSound 7 = .ok (.return_, 1) := by decide +kernel
theorem dX5_needAnimator_0 : decode cX5_needAnimator 0 = .ok (.iload_n 0, 1) := by decide +kernel
theorem dX5_needAnimator_1 : decode cX5_needAnimator 1 = .ok (.ifCond .lt 8, 3) := by decide +kernel
theorem dX5_needAnimator_4 : decode cX5_needAnimator 4 = .ok (.iload_n 0, 1) := by decide +kernel
theorem dX5_needAnimator_5 : decode cX5_needAnimator 5 = .ok (.iconst 5, 1) := by decide +kernel
theorem dX5_needAnimator_6 : decode cX5_needAnimator 6 = .ok (.if_icmp .lt 14, 3) := by decide +kernel
theorem dX5_needAnimator_9 : decode cX5_needAnimator 9 = .ok (.new 271, 3) := by decide +kernel
theorem dX5_needAnimator_12 : decode cX5_needAnimator 12 = .ok (.dup, 1) := by decide +kernel
theorem dX5_needAnimator_13 : decode cX5_needAnimator 13 = .ok (.ldc_w 281, 3) := by decide +kernel
theorem dX5_needAnimator_16 : decode cX5_needAnimator 16 = .ok (.invokespecial 275, 3) := by decide +kernel
theorem dX5_needAnimator_19 : decode cX5_needAnimator 19 = .ok (.athrow, 1) := by decide +kernel
theorem dX5_needAnimator_20 : decode cX5_needAnimator 20 = .ok (.return_, 1) := by decide +kernel
theorem dX5_needVoiceOrNone_0 : decode cX5_needVoiceOrNone 0 = .ok (.iload_n 1, 1) := by decide +kernel
theorem dX5_needVoiceOrNone_1 : decode cX5_needVoiceOrNone 1 = .ok (.iconst (-1), 1) := by decide +kernel
theorem dX5_needVoiceOrNone_2 : decode cX5_needVoiceOrNone 2 = .ok (.if_icmp .eq 26, 3) := by decide +kernel
theorem dX5_needVoiceOrNone_5 : decode cX5_needVoiceOrNone 5 = .ok (.iload_n 1, 1) := by decide +kernel
theorem dX5_needVoiceOrNone_6 : decode cX5_needVoiceOrNone 6 = .ok (.ifCond .lt 11, 3) := by decide +kernel
theorem dX5_needVoiceOrNone_9 : decode cX5_needVoiceOrNone 9 = .ok (.iload_n 1, 1) := by decide +kernel
theorem dX5_needVoiceOrNone_10 : decode cX5_needVoiceOrNone 10 = .ok (.aload_n 0, 1) := by decide +kernel
theorem dX5_needVoiceOrNone_11 : decode cX5_needVoiceOrNone 11 = .ok (.getfield 25, 3) := by decide +kernel
theorem dX5_needVoiceOrNone_14 : decode cX5_needVoiceOrNone 14 = .ok (.if_icmp .lt 14, 3) := by decide +kernel
theorem dX5_needVoiceOrNone_17 : decode cX5_needVoiceOrNone 17 = .ok (.new 271, 3) := by decide +kernel
theorem dX5_needVoiceOrNone_20 : decode cX5_needVoiceOrNone 20 = .ok (.dup, 1) := by decide +kernel
theorem dX5_needVoiceOrNone_21 : decode cX5_needVoiceOrNone 21 = .ok (.ldc_w 283, 3) := by decide +kernel
theorem dX5_needVoiceOrNone_24 : decode cX5_needVoiceOrNone 24 = .ok (.invokespecial 275, 3) := by decide +kernel
theorem dX5_needVoiceOrNone_27 : decode cX5_needVoiceOrNone 27 = .ok (.athrow, 1) := by decide +kernel
theorem dX5_needVoiceOrNone_28 : decode cX5_needVoiceOrNone 28 = .ok (.return_, 1) := by decide +kernel
theorem dX5_needShot_0 : decode cX5_needShot 0 = .ok (.iload_n 1, 1) := by decide +kernel
theorem dX5_needShot_1 : decode cX5_needShot 1 = .ok (.ifCond .lt 11, 3) := by decide +kernel
theorem dX5_needShot_4 : decode cX5_needShot 4 = .ok (.iload_n 1, 1) := by decide +kernel
theorem dX5_needShot_5 : decode cX5_needShot 5 = .ok (.aload_n 0, 1) := by decide +kernel
theorem dX5_needShot_6 : decode cX5_needShot 6 = .ok (.getfield 39, 3) := by decide +kernel
theorem dX5_needShot_9 : decode cX5_needShot 9 = .ok (.if_icmp .lt 14, 3) := by decide +kernel
theorem dX5_needShot_12 : decode cX5_needShot 12 = .ok (.new 271, 3) := by decide +kernel
theorem dX5_needShot_15 : decode cX5_needShot 15 = .ok (.dup, 1) := by decide +kernel
theorem dX5_needShot_16 : decode cX5_needShot 16 = .ok (.ldc_w 285, 3) := by decide +kernel
theorem dX5_needShot_19 : decode cX5_needShot 19 = .ok (.invokespecial 275, 3) := by decide +kernel
theorem dX5_needShot_22 : decode cX5_needShot 22 = .ok (.athrow, 1) := by decide +kernel
theorem dX5_needShot_23 : decode cX5_needShot 23 = .ok (.return_, 1) := by decide +kernel
theorem dX5_needJoint_0 : decode cX5_needJoint 0 = .ok (.iload_n 1, 1) := by decide +kernel
theorem dX5_needJoint_1 : decode cX5_needJoint 1 = .ok (.ifCond .lt 11, 3) := by decide +kernel
theorem dX5_needJoint_4 : decode cX5_needJoint 4 = .ok (.iload_n 1, 1) := by decide +kernel
theorem dX5_needJoint_5 : decode cX5_needJoint 5 = .ok (.aload_n 0, 1) := by decide +kernel
theorem dX5_needJoint_6 : decode cX5_needJoint 6 = .ok (.getfield 287, 3) := by decide +kernel
theorem dX5_needJoint_9 : decode cX5_needJoint 9 = .ok (.if_icmp .lt 14, 3) := by decide +kernel
theorem dX5_needJoint_12 : decode cX5_needJoint 12 = .ok (.new 271, 3) := by decide +kernel
theorem dX5_needJoint_15 : decode cX5_needJoint 15 = .ok (.dup, 1) := by decide +kernel
theorem dX5_needJoint_16 : decode cX5_needJoint 16 = .ok (.ldc_w 290, 3) := by decide +kernel
theorem dX5_needJoint_19 : decode cX5_needJoint 19 = .ok (.invokespecial 275, 3) := by decide +kernel
theorem dX5_needJoint_22 : decode cX5_needJoint 22 = .ok (.athrow, 1) := by decide +kernel
theorem dX5_needJoint_23 : decode cX5_needJoint 23 = .ok (.return_, 1) := by decide +kernel
theorem dX5_needFrame_0 : decode cX5_needFrame 0 = .ok (.iload_n 1, 1) := by decide +kernel
theorem dX5_needFrame_1 : decode cX5_needFrame 1 = .ok (.ifCond .lt 11, 3) := by decide +kernel
theorem dX5_needFrame_4 : decode cX5_needFrame 4 = .ok (.iload_n 1, 1) := by decide +kernel
theorem dX5_needFrame_5 : decode cX5_needFrame 5 = .ok (.aload_n 0, 1) := by decide +kernel
theorem dX5_needFrame_6 : decode cX5_needFrame 6 = .ok (.getfield 235, 3) := by decide +kernel
theorem dX5_needFrame_9 : decode cX5_needFrame 9 = .ok (.if_icmp .lt 14, 3) := by decide +kernel
theorem dX5_needFrame_12 : decode cX5_needFrame 12 = .ok (.new 271, 3) := by decide +kernel
theorem dX5_needFrame_15 : decode cX5_needFrame 15 = .ok (.dup, 1) := by decide +kernel
theorem dX5_needFrame_16 : decode cX5_needFrame 16 = .ok (.ldc_w 292, 3) := by decide +kernel
theorem dX5_needFrame_19 : decode cX5_needFrame 19 = .ok (.invokespecial 275, 3) := by decide +kernel
theorem dX5_needFrame_22 : decode cX5_needFrame 22 = .ok (.athrow, 1) := by decide +kernel
theorem dX5_needFrame_23 : decode cX5_needFrame 23 = .ok (.return_, 1) := by decide +kernel
theorem dX5_needStruck_0 : decode cX5_needStruck 0 = .ok (.iload_n 1, 1) := by decide +kernel
theorem dX5_needStruck_1 : decode cX5_needStruck 1 = .ok (.ifCond .lt 11, 3) := by decide +kernel
theorem dX5_needStruck_4 : decode cX5_needStruck 4 = .ok (.aload_n 0, 1) := by decide +kernel
theorem dX5_needStruck_5 : decode cX5_needStruck 5 = .ok (.iload_n 1, 1) := by decide +kernel
theorem dX5_needStruck_6 : decode cX5_needStruck 6 = .ok (.invokevirtual 208, 3) := by decide +kernel
theorem dX5_needStruck_9 : decode cX5_needStruck 9 = .ok (.ifCond .ne 14, 3) := by decide +kernel
theorem dX5_needStruck_12 : decode cX5_needStruck 12 = .ok (.new 271, 3) := by decide +kernel
theorem dX5_needStruck_15 : decode cX5_needStruck 15 = .ok (.dup, 1) := by decide +kernel
theorem dX5_needStruck_16 : decode cX5_needStruck 16 = .ok (.ldc_w 294, 3) := by decide +kernel
theorem dX5_needStruck_19 : decode cX5_needStruck 19 = .ok (.invokespecial 275, 3) := by decide +kernel
theorem dX5_needStruck_22 : decode cX5_needStruck 22 = .ok (.athrow, 1) := by decide +kernel
theorem dX5_needStruck_23 : decode cX5_needStruck 23 = .ok (.return_, 1) := by decide +kernel
theorem dX5_needNotStruck_0 : decode cX5_needNotStruck 0 = .ok (.aload_n 0, 1) := by decide +kernel
theorem dX5_needNotStruck_1 : decode cX5_needNotStruck 1 = .ok (.iload_n 1, 1) := by decide +kernel
theorem dX5_needNotStruck_2 : decode cX5_needNotStruck 2 = .ok (.invokevirtual 208, 3) := by decide +kernel
theorem dX5_needNotStruck_5 : decode cX5_needNotStruck 5 = .ok (.ifCond .eq 14, 3) := by decide +kernel
theorem dX5_needNotStruck_8 : decode cX5_needNotStruck 8 = .ok (.new 63, 3) := by decide +kernel
theorem dX5_needNotStruck_11 : decode cX5_needNotStruck 11 = .ok (.dup, 1) := by decide +kernel
theorem dX5_needNotStruck_12 : decode cX5_needNotStruck 12 = .ok (.ldc_w 296, 3) := by decide +kernel
theorem dX5_needNotStruck_15 : decode cX5_needNotStruck 15 = .ok (.invokespecial 67, 3) := by decide +kernel
theorem dX5_needNotStruck_18 : decode cX5_needNotStruck 18 = .ok (.athrow, 1) := by decide +kernel
theorem dX5_needNotStruck_19 : decode cX5_needNotStruck 19 = .ok (.return_, 1) := by decide +kernel
theorem dX5_puppetAt_0 : decode cX5_puppetAt 0 = .ok (.iload_n 1, 1) := by decide +kernel
theorem dX5_puppetAt_1 : decode cX5_puppetAt 1 = .ok (.ifCond .lt 11, 3) := by decide +kernel
theorem dX5_puppetAt_4 : decode cX5_puppetAt 4 = .ok (.iload_n 1, 1) := by decide +kernel
theorem dX5_puppetAt_5 : decode cX5_puppetAt 5 = .ok (.aload_n 0, 1) := by decide +kernel
theorem dX5_puppetAt_6 : decode cX5_puppetAt 6 = .ok (.getfield 15, 3) := by decide +kernel
theorem dX5_puppetAt_9 : decode cX5_puppetAt 9 = .ok (.if_icmp .lt 14, 3) := by decide +kernel
theorem dX5_puppetAt_12 : decode cX5_puppetAt 12 = .ok (.new 271, 3) := by decide +kernel
theorem dX5_puppetAt_15 : decode cX5_puppetAt 15 = .ok (.dup, 1) := by decide +kernel
theorem dX5_puppetAt_16 : decode cX5_puppetAt 16 = .ok (.ldc_w 298, 3) := by decide +kernel
theorem dX5_puppetAt_19 : decode cX5_puppetAt 19 = .ok (.invokespecial 275, 3) := by decide +kernel
theorem dX5_puppetAt_22 : decode cX5_puppetAt 22 = .ok (.athrow, 1) := by decide +kernel
theorem dX5_puppetAt_23 : decode cX5_puppetAt 23 = .ok (.aload_n 0, 1) := by decide +kernel
theorem dX5_puppetAt_24 : decode cX5_puppetAt 24 = .ok (.getfield 11, 3) := by decide +kernel
theorem dX5_puppetAt_27 : decode cX5_puppetAt 27 = .ok (.iload_n 1, 1) := by decide +kernel
theorem dX5_puppetAt_28 : decode cX5_puppetAt 28 = .ok (.aaload, 1) := by decide +kernel
theorem dX5_puppetAt_29 : decode cX5_puppetAt 29 = .ok (.areturn, 1) := by decide +kernel
theorem dX5_shotAt_0 : decode cX5_shotAt 0 = .ok (.aload_n 0, 1) := by decide +kernel
theorem dX5_shotAt_1 : decode cX5_shotAt 1 = .ok (.iload_n 1, 1) := by decide +kernel
theorem dX5_shotAt_2 : decode cX5_shotAt 2 = .ok (.invokevirtual 226, 3) := by decide +kernel
theorem dX5_shotAt_5 : decode cX5_shotAt 5 = .ok (.aload_n 0, 1) := by decide +kernel
theorem dX5_shotAt_6 : decode cX5_shotAt 6 = .ok (.getfield 35, 3) := by decide +kernel
theorem dX5_shotAt_9 : decode cX5_shotAt 9 = .ok (.iload_n 1, 1) := by decide +kernel
theorem dX5_shotAt_10 : decode cX5_shotAt 10 = .ok (.aaload, 1) := by decide +kernel
theorem dX5_shotAt_11 : decode cX5_shotAt 11 = .ok (.areturn, 1) := by decide +kernel
theorem dX5_isIll_0 : decode cX5_isIll 0 = .ok (.iload_n 1, 1) := by decide +kernel
theorem dX5_isIll_1 : decode cX5_isIll 1 = .ok (.iconst (-1), 1) := by decide +kernel
theorem dX5_isIll_2 : decode cX5_isIll 2 = .ok (.if_icmp .eq 16, 3) := by decide +kernel
theorem dX5_isIll_5 : decode cX5_isIll 5 = .ok (.aload_n 0, 1) := by decide +kernel
theorem dX5_isIll_6 : decode cX5_isIll 6 = .ok (.getfield 42, 3) := by decide +kernel
theorem dX5_isIll_9 : decode cX5_isIll 9 = .ok (.iload_n 1, 1) := by decide +kernel
theorem dX5_isIll_10 : decode cX5_isIll 10 = .ok (.baload, 1) := by decide +kernel
theorem dX5_isIll_11 : decode cX5_isIll 11 = .ok (.ifCond .eq 7, 3) := by decide +kernel
theorem dX5_isIll_14 : decode cX5_isIll 14 = .ok (.iconst 1, 1) := by decide +kernel
theorem dX5_isIll_15 : decode cX5_isIll 15 = .ok (.goto 4, 3) := by decide +kernel
theorem dX5_isIll_18 : decode cX5_isIll 18 = .ok (.iconst 0, 1) := by decide +kernel
theorem dX5_isIll_19 : decode cX5_isIll 19 = .ok (.ireturn, 1) := by decide +kernel
theorem dX5_barOf_0 : decode cX5_barOf 0 = .ok (.aload_n 1, 1) := by decide +kernel
theorem dX5_barOf_1 : decode cX5_barOf 1 = .ok (.invokevirtual 113, 3) := by decide +kernel
theorem dX5_barOf_4 : decode cX5_barOf 4 = .ok (.ifCond .eq 6, 3) := by decide +kernel
theorem dX5_barOf_7 : decode cX5_barOf 7 = .ok (.bipush 7, 2) := by decide +kernel
theorem dX5_barOf_9 : decode cX5_barOf 9 = .ok (.ireturn, 1) := by decide +kernel
theorem dX5_barOf_10 : decode cX5_barOf 10 = .ok (.aload_n 1, 1) := by decide +kernel
theorem dX5_barOf_11 : decode cX5_barOf 11 = .ok (.getfield 122, 3) := by decide +kernel
theorem dX5_barOf_14 : decode cX5_barOf 14 = .ok (.iconst (-1), 1) := by decide +kernel
theorem dX5_barOf_15 : decode cX5_barOf 15 = .ok (.if_icmp .ne 5, 3) := by decide +kernel
theorem dX5_barOf_18 : decode cX5_barOf 18 = .ok (.iconst 1, 1) := by decide +kernel
theorem dX5_barOf_19 : decode cX5_barOf 19 = .ok (.ireturn, 1) := by decide +kernel
theorem dX5_barOf_20 : decode cX5_barOf 20 = .ok (.aload_n 0, 1) := by decide +kernel
theorem dX5_barOf_21 : decode cX5_barOf 21 = .ok (.aload_n 1, 1) := by decide +kernel
theorem dX5_barOf_22 : decode cX5_barOf 22 = .ok (.getfield 122, 3) := by decide +kernel
theorem dX5_barOf_25 : decode cX5_barOf 25 = .ok (.invokevirtual 125, 3) := by decide +kernel
theorem dX5_barOf_28 : decode cX5_barOf 28 = .ok (.ifCond .eq 5, 3) := by decide +kernel
theorem dX5_barOf_31 : decode cX5_barOf 31 = .ok (.iconst 2, 1) := by decide +kernel
theorem dX5_barOf_32 : decode cX5_barOf 32 = .ok (.ireturn, 1) := by decide +kernel
theorem dX5_barOf_33 : decode cX5_barOf 33 = .ok (.aload_n 0, 1) := by decide +kernel
theorem dX5_barOf_34 : decode cX5_barOf 34 = .ok (.aload_n 1, 1) := by decide +kernel
theorem dX5_barOf_35 : decode cX5_barOf 35 = .ok (.invokevirtual 300, 3) := by decide +kernel
theorem dX5_barOf_38 : decode cX5_barOf 38 = .ok (.ifCond .eq 5, 3) := by decide +kernel
theorem dX5_barOf_41 : decode cX5_barOf 41 = .ok (.iconst 3, 1) := by decide +kernel
theorem dX5_barOf_42 : decode cX5_barOf 42 = .ok (.ireturn, 1) := by decide +kernel
theorem dX5_barOf_43 : decode cX5_barOf 43 = .ok (.aload_n 0, 1) := by decide +kernel
theorem dX5_barOf_44 : decode cX5_barOf 44 = .ok (.aload_n 1, 1) := by decide +kernel
theorem dX5_barOf_45 : decode cX5_barOf 45 = .ok (.invokevirtual 304, 3) := by decide +kernel
theorem dX5_barOf_48 : decode cX5_barOf 48 = .ok (.ifCond .eq 5, 3) := by decide +kernel
theorem dX5_barOf_51 : decode cX5_barOf 51 = .ok (.iconst 4, 1) := by decide +kernel
theorem dX5_barOf_52 : decode cX5_barOf 52 = .ok (.ireturn, 1) := by decide +kernel
theorem dX5_barOf_53 : decode cX5_barOf 53 = .ok (.aload_n 1, 1) := by decide +kernel
theorem dX5_barOf_54 : decode cX5_barOf 54 = .ok (.aload_n 1, 1) := by decide +kernel
theorem dX5_barOf_55 : decode cX5_barOf 55 = .ok (.getfield 182, 3) := by decide +kernel
theorem dX5_barOf_58 : decode cX5_barOf 58 = .ok (.getfield 186, 3) := by decide +kernel
theorem dX5_barOf_61 : decode cX5_barOf 61 = .ok (.invokevirtual 149, 3) := by decide +kernel
theorem dX5_barOf_64 : decode cX5_barOf 64 = .ok (.ifCond .eq 7, 3) := by decide +kernel
theorem dX5_barOf_67 : decode cX5_barOf 67 = .ok (.iconst 0, 1) := by decide +kernel
theorem dX5_barOf_68 : decode cX5_barOf 68 = .ok (.goto 8, 3) := by decide +kernel
theorem dX5_barOf_71 : decode cX5_barOf 71 = .ok (.aload_n 0, 1) := by decide +kernel
theorem dX5_barOf_72 : decode cX5_barOf 72 = .ok (.aload_n 1, 1) := by decide +kernel
theorem dX5_barOf_73 : decode cX5_barOf 73 = .ok (.invokevirtual 307, 3) := by decide +kernel
theorem dX5_barOf_76 : decode cX5_barOf 76 = .ok (.ireturn, 1) := by decide +kernel
theorem dX5_barOfPosing_0 : decode cX5_barOfPosing 0 = .ok (.aload_n 1, 1) := by decide +kernel
theorem dX5_barOfPosing_1 : decode cX5_barOfPosing 1 = .ok (.getfield 134, 3) := by decide +kernel
theorem dX5_barOfPosing_4 : decode cX5_barOfPosing 4 = .ok (.invokevirtual 310, 3) := by decide +kernel
theorem dX5_barOfPosing_7 : decode cX5_barOfPosing 7 = .ok (.ifCond .eq 5, 3) := by decide +kernel
theorem dX5_barOfPosing_10 : decode cX5_barOfPosing 10 = .ok (.iconst 5, 1) := by decide +kernel
theorem dX5_barOfPosing_11 : decode cX5_barOfPosing 11 = .ok (.ireturn, 1) := by decide +kernel
theorem dX5_barOfPosing_12 : decode cX5_barOfPosing 12 = .ok (.aload_n 0, 1) := by decide +kernel
theorem dX5_barOfPosing_13 : decode cX5_barOfPosing 13 = .ok (.aload_n 1, 1) := by decide +kernel
theorem dX5_barOfPosing_14 : decode cX5_barOfPosing 14 = .ok (.aload_n 1, 1) := by decide +kernel
theorem dX5_barOfPosing_15 : decode cX5_barOfPosing 15 = .ok (.getfield 182, 3) := by decide +kernel
theorem dX5_barOfPosing_18 : decode cX5_barOfPosing 18 = .ok (.getfield 186, 3) := by decide +kernel
theorem dX5_barOfPosing_21 : decode cX5_barOfPosing 21 = .ok (.invokevirtual 313, 3) := by decide +kernel
theorem dX5_barOfPosing_24 : decode cX5_barOfPosing 24 = .ok (.istore_n 2, 1) := by decide +kernel
theorem dX5_barOfPosing_25 : decode cX5_barOfPosing 25 = .ok (.iload_n 2, 1) := by decide +kernel
theorem dX5_barOfPosing_26 : decode cX5_barOfPosing 26 = .ok (.iconst (-1), 1) := by decide +kernel
theorem dX5_barOfPosing_27 : decode cX5_barOfPosing 27 = .ok (.if_icmp .eq 18, 3) := by decide +kernel
theorem dX5_barOfPosing_30 : decode cX5_barOfPosing 30 = .ok (.aload_n 1, 1) := by decide +kernel
theorem dX5_barOfPosing_31 : decode cX5_barOfPosing 31 = .ok (.getfield 134, 3) := by decide +kernel
theorem dX5_barOfPosing_34 : decode cX5_barOfPosing 34 = .ok (.getfield 80, 3) := by decide +kernel
theorem dX5_barOfPosing_37 : decode cX5_barOfPosing 37 = .ok (.iload_n 2, 1) := by decide +kernel
theorem dX5_barOfPosing_38 : decode cX5_barOfPosing 38 = .ok (.iaload, 1) := by decide +kernel
theorem dX5_barOfPosing_39 : decode cX5_barOfPosing 39 = .ok (.ifCond .ne 6, 3) := by decide +kernel
theorem dX5_barOfPosing_42 : decode cX5_barOfPosing 42 = .ok (.bipush 6, 2) := by decide +kernel
theorem dX5_barOfPosing_44 : decode cX5_barOfPosing 44 = .ok (.ireturn, 1) := by decide +kernel
theorem dX5_barOfPosing_45 : decode cX5_barOfPosing 45 = .ok (.iconst 0, 1) := by decide +kernel
theorem dX5_barOfPosing_46 : decode cX5_barOfPosing 46 = .ok (.ireturn, 1) := by decide +kernel
theorem dX5_animatorIsBusy_0 : decode cX5_animatorIsBusy 0 = .ok (.iconst 0, 1) := by decide +kernel
theorem dX5_animatorIsBusy_1 : decode cX5_animatorIsBusy 1 = .ok (.istore_n 2, 1) := by decide +kernel
theorem dX5_animatorIsBusy_2 : decode cX5_animatorIsBusy 2 = .ok (.iload_n 2, 1) := by decide +kernel
theorem dX5_animatorIsBusy_3 : decode cX5_animatorIsBusy 3 = .ok (.aload_n 0, 1) := by decide +kernel
theorem dX5_animatorIsBusy_4 : decode cX5_animatorIsBusy 4 = .ok (.getfield 39, 3) := by decide +kernel
theorem dX5_animatorIsBusy_7 : decode cX5_animatorIsBusy 7 = .ok (.if_icmp .ge 41, 3) := by decide +kernel
theorem dX5_animatorIsBusy_10 : decode cX5_animatorIsBusy 10 = .ok (.aload_n 0, 1) := by decide +kernel
theorem dX5_animatorIsBusy_11 : decode cX5_animatorIsBusy 11 = .ok (.getfield 35, 3) := by decide +kernel
theorem dX5_animatorIsBusy_14 : decode cX5_animatorIsBusy 14 = .ok (.iload_n 2, 1) := by decide +kernel
theorem dX5_animatorIsBusy_15 : decode cX5_animatorIsBusy 15 = .ok (.aaload, 1) := by decide +kernel
theorem dX5_animatorIsBusy_16 : decode cX5_animatorIsBusy 16 = .ok (.astore_n 3, 1) := by decide +kernel
theorem dX5_animatorIsBusy_17 : decode cX5_animatorIsBusy 17 = .ok (.aload_n 3, 1) := by decide +kernel
theorem dX5_animatorIsBusy_18 : decode cX5_animatorIsBusy 18 = .ok (.aload_n 1, 1) := by decide +kernel
theorem dX5_animatorIsBusy_19 : decode cX5_animatorIsBusy 19 = .ok (.if_acmp .eq 23, 3) := by decide +kernel
theorem dX5_animatorIsBusy_22 : decode cX5_animatorIsBusy 22 = .ok (.aload_n 3, 1) := by decide +kernel
theorem dX5_animatorIsBusy_23 : decode cX5_animatorIsBusy 23 = .ok (.invokevirtual 316, 3) := by decide +kernel
theorem dX5_animatorIsBusy_26 : decode cX5_animatorIsBusy 26 = .ok (.ifCond .eq 16, 3) := by decide +kernel
theorem dX5_animatorIsBusy_29 : decode cX5_animatorIsBusy 29 = .ok (.aload_n 3, 1) := by decide +kernel
theorem dX5_animatorIsBusy_30 : decode cX5_animatorIsBusy 30 = .ok (.getfield 122, 3) := by decide +kernel
theorem dX5_animatorIsBusy_33 : decode cX5_animatorIsBusy 33 = .ok (.aload_n 1, 1) := by decide +kernel
theorem dX5_animatorIsBusy_34 : decode cX5_animatorIsBusy 34 = .ok (.getfield 122, 3) := by decide +kernel
theorem dX5_animatorIsBusy_37 : decode cX5_animatorIsBusy 37 = .ok (.if_icmp .ne 5, 3) := by decide +kernel
theorem dX5_animatorIsBusy_40 : decode cX5_animatorIsBusy 40 = .ok (.iconst 1, 1) := by decide +kernel
theorem dX5_animatorIsBusy_41 : decode cX5_animatorIsBusy 41 = .ok (.ireturn, 1) := by decide +kernel
theorem dX5_animatorIsBusy_42 : decode cX5_animatorIsBusy 42 = .ok (.iinc 2 1, 3) := by decide +kernel
theorem dX5_animatorIsBusy_45 : decode cX5_animatorIsBusy 45 = .ok (.goto (-43), 3) := by decide +kernel
theorem dX5_animatorIsBusy_48 : decode cX5_animatorIsBusy 48 = .ok (.iconst 0, 1) := by decide +kernel
theorem dX5_animatorIsBusy_49 : decode cX5_animatorIsBusy 49 = .ok (.ireturn, 1) := by decide +kernel
theorem dX5_puppetIsBusy_0 : decode cX5_puppetIsBusy 0 = .ok (.iconst 0, 1) := by decide +kernel
theorem dX5_puppetIsBusy_1 : decode cX5_puppetIsBusy 1 = .ok (.istore_n 2, 1) := by decide +kernel
theorem dX5_puppetIsBusy_2 : decode cX5_puppetIsBusy 2 = .ok (.iload_n 2, 1) := by decide +kernel
theorem dX5_puppetIsBusy_3 : decode cX5_puppetIsBusy 3 = .ok (.aload_n 0, 1) := by decide +kernel
theorem dX5_puppetIsBusy_4 : decode cX5_puppetIsBusy 4 = .ok (.getfield 39, 3) := by decide +kernel
theorem dX5_puppetIsBusy_7 : decode cX5_puppetIsBusy 7 = .ok (.if_icmp .ge 41, 3) := by decide +kernel
theorem dX5_puppetIsBusy_10 : decode cX5_puppetIsBusy 10 = .ok (.aload_n 0, 1) := by decide +kernel
theorem dX5_puppetIsBusy_11 : decode cX5_puppetIsBusy 11 = .ok (.getfield 35, 3) := by decide +kernel
theorem dX5_puppetIsBusy_14 : decode cX5_puppetIsBusy 14 = .ok (.iload_n 2, 1) := by decide +kernel
theorem dX5_puppetIsBusy_15 : decode cX5_puppetIsBusy 15 = .ok (.aaload, 1) := by decide +kernel
theorem dX5_puppetIsBusy_16 : decode cX5_puppetIsBusy 16 = .ok (.astore_n 3, 1) := by decide +kernel
theorem dX5_puppetIsBusy_17 : decode cX5_puppetIsBusy 17 = .ok (.aload_n 3, 1) := by decide +kernel
theorem dX5_puppetIsBusy_18 : decode cX5_puppetIsBusy 18 = .ok (.aload_n 1, 1) := by decide +kernel
theorem dX5_puppetIsBusy_19 : decode cX5_puppetIsBusy 19 = .ok (.if_acmp .eq 23, 3) := by decide +kernel
theorem dX5_puppetIsBusy_22 : decode cX5_puppetIsBusy 22 = .ok (.aload_n 3, 1) := by decide +kernel
theorem dX5_puppetIsBusy_23 : decode cX5_puppetIsBusy 23 = .ok (.invokevirtual 316, 3) := by decide +kernel
theorem dX5_puppetIsBusy_26 : decode cX5_puppetIsBusy 26 = .ok (.ifCond .eq 16, 3) := by decide +kernel
theorem dX5_puppetIsBusy_29 : decode cX5_puppetIsBusy 29 = .ok (.aload_n 3, 1) := by decide +kernel
theorem dX5_puppetIsBusy_30 : decode cX5_puppetIsBusy 30 = .ok (.getfield 134, 3) := by decide +kernel
theorem dX5_puppetIsBusy_33 : decode cX5_puppetIsBusy 33 = .ok (.aload_n 1, 1) := by decide +kernel
theorem dX5_puppetIsBusy_34 : decode cX5_puppetIsBusy 34 = .ok (.getfield 134, 3) := by decide +kernel
theorem dX5_puppetIsBusy_37 : decode cX5_puppetIsBusy 37 = .ok (.if_acmp .ne 5, 3) := by decide +kernel
theorem dX5_puppetIsBusy_40 : decode cX5_puppetIsBusy 40 = .ok (.iconst 1, 1) := by decide +kernel
theorem dX5_puppetIsBusy_41 : decode cX5_puppetIsBusy 41 = .ok (.ireturn, 1) := by decide +kernel
theorem dX5_puppetIsBusy_42 : decode cX5_puppetIsBusy 42 = .ok (.iinc 2 1, 3) := by decide +kernel
theorem dX5_puppetIsBusy_45 : decode cX5_puppetIsBusy 45 = .ok (.goto (-43), 3) := by decide +kernel
theorem dX5_puppetIsBusy_48 : decode cX5_puppetIsBusy 48 = .ok (.iconst 0, 1) := by decide +kernel
theorem dX5_puppetIsBusy_49 : decode cX5_puppetIsBusy 49 = .ok (.ireturn, 1) := by decide +kernel
theorem dX5_refuseBarred_0 : decode cX5_refuseBarred 0 = .ok (.iload_n 0, 1) := by decide +kernel
theorem dX5_refuseBarred_1 : decode cX5_refuseBarred 1 = .ok (.tableswitch 99 0 6 #[43, 44, 55, 66, 66, 77, 88], 43) := by decide +kernel
theorem dX5_refuseBarred_44 : decode cX5_refuseBarred 44 = .ok (.return_, 1) := by decide +kernel
theorem dX5_refuseBarred_45 : decode cX5_refuseBarred 45 = .ok (.new 63, 3) := by decide +kernel
theorem dX5_refuseBarred_48 : decode cX5_refuseBarred 48 = .ok (.dup, 1) := by decide +kernel
theorem dX5_refuseBarred_49 : decode cX5_refuseBarred 49 = .ok (.ldc_w 319, 3) := by decide +kernel
theorem dX5_refuseBarred_52 : decode cX5_refuseBarred 52 = .ok (.invokespecial 67, 3) := by decide +kernel
theorem dX5_refuseBarred_55 : decode cX5_refuseBarred 55 = .ok (.athrow, 1) := by decide +kernel
theorem dX5_refuseBarred_56 : decode cX5_refuseBarred 56 = .ok (.new 63, 3) := by decide +kernel
theorem dX5_refuseBarred_59 : decode cX5_refuseBarred 59 = .ok (.dup, 1) := by decide +kernel
theorem dX5_refuseBarred_60 : decode cX5_refuseBarred 60 = .ok (.ldc_w 321, 3) := by decide +kernel
theorem dX5_refuseBarred_63 : decode cX5_refuseBarred 63 = .ok (.invokespecial 67, 3) := by decide +kernel
theorem dX5_refuseBarred_66 : decode cX5_refuseBarred 66 = .ok (.athrow, 1) := by decide +kernel
theorem dX5_refuseBarred_67 : decode cX5_refuseBarred 67 = .ok (.new 63, 3) := by decide +kernel
theorem dX5_refuseBarred_70 : decode cX5_refuseBarred 70 = .ok (.dup, 1) := by decide +kernel
theorem dX5_refuseBarred_71 : decode cX5_refuseBarred 71 = .ok (.ldc_w 323, 3) := by decide +kernel
theorem dX5_refuseBarred_74 : decode cX5_refuseBarred 74 = .ok (.invokespecial 67, 3) := by decide +kernel
theorem dX5_refuseBarred_77 : decode cX5_refuseBarred 77 = .ok (.athrow, 1) := by decide +kernel
theorem dX5_refuseBarred_78 : decode cX5_refuseBarred 78 = .ok (.new 63, 3) := by decide +kernel
theorem dX5_refuseBarred_81 : decode cX5_refuseBarred 81 = .ok (.dup, 1) := by decide +kernel
theorem dX5_refuseBarred_82 : decode cX5_refuseBarred 82 = .ok (.ldc_w 325, 3) := by decide +kernel
theorem dX5_refuseBarred_85 : decode cX5_refuseBarred 85 = .ok (.invokespecial 67, 3) := by decide +kernel
theorem dX5_refuseBarred_88 : decode cX5_refuseBarred 88 = .ok (.athrow, 1) := by decide +kernel
theorem dX5_refuseBarred_89 : decode cX5_refuseBarred 89 = .ok (.new 63, 3) := by decide +kernel
theorem dX5_refuseBarred_92 : decode cX5_refuseBarred 92 = .ok (.dup, 1) := by decide +kernel
theorem dX5_refuseBarred_93 : decode cX5_refuseBarred 93 = .ok (.ldc_w 327, 3) := by decide +kernel
theorem dX5_refuseBarred_96 : decode cX5_refuseBarred 96 = .ok (.invokespecial 67, 3) := by decide +kernel
theorem dX5_refuseBarred_99 : decode cX5_refuseBarred 99 = .ok (.athrow, 1) := by decide +kernel
theorem dX5_refuseBarred_100 : decode cX5_refuseBarred 100 = .ok (.new 63, 3) := by decide +kernel
theorem dX5_refuseBarred_103 : decode cX5_refuseBarred 103 = .ok (.dup, 1) := by decide +kernel
theorem dX5_refuseBarred_104 : decode cX5_refuseBarred 104 = .ok (.ldc 117, 2) := by decide +kernel
theorem dX5_refuseBarred_106 : decode cX5_refuseBarred 106 = .ok (.invokespecial 67, 3) := by decide +kernel
theorem dX5_refuseBarred_109 : decode cX5_refuseBarred 109 = .ok (.athrow, 1) := by decide +kernel
theorem dX5_poseNext_0 : decode cX5_poseNext 0 = .ok (.aload_n 0, 1) := by decide +kernel
theorem dX5_poseNext_1 : decode cX5_poseNext 1 = .ok (.aload_n 1, 1) := by decide +kernel
theorem dX5_poseNext_2 : decode cX5_poseNext 2 = .ok (.iload_n 2, 1) := by decide +kernel
theorem dX5_poseNext_3 : decode cX5_poseNext 3 = .ok (.invokevirtual 313, 3) := by decide +kernel
theorem dX5_poseNext_6 : decode cX5_poseNext 6 = .ok (.istore_n 3, 1) := by decide +kernel
theorem dX5_poseNext_7 : decode cX5_poseNext 7 = .ok (.iload_n 3, 1) := by decide +kernel
theorem dX5_poseNext_8 : decode cX5_poseNext 8 = .ok (.iconst (-1), 1) := by decide +kernel
theorem dX5_poseNext_9 : decode cX5_poseNext 9 = .ok (.if_icmp .eq 16, 3) := by decide +kernel
theorem dX5_poseNext_12 : decode cX5_poseNext 12 = .ok (.aload_n 1, 1) := by decide +kernel
theorem dX5_poseNext_13 : decode cX5_poseNext 13 = .ok (.getfield 134, 3) := by decide +kernel
theorem dX5_poseNext_16 : decode cX5_poseNext 16 = .ok (.getfield 80, 3) := by decide +kernel
theorem dX5_poseNext_19 : decode cX5_poseNext 19 = .ok (.iload_n 3, 1) := by decide +kernel
theorem dX5_poseNext_20 : decode cX5_poseNext 20 = .ok (.dup2, 1) := by decide +kernel
theorem dX5_poseNext_21 : decode cX5_poseNext 21 = .ok (.iaload, 1) := by decide +kernel
theorem dX5_poseNext_22 : decode cX5_poseNext 22 = .ok (.iconst 1, 1) := by decide +kernel
theorem dX5_poseNext_23 : decode cX5_poseNext 23 = .ok (.isub, 1) := by decide +kernel
theorem dX5_poseNext_24 : decode cX5_poseNext 24 = .ok (.iastore, 1) := by decide +kernel
theorem dX5_poseNext_25 : decode cX5_poseNext 25 = .ok (.aload_n 1, 1) := by decide +kernel
theorem dX5_poseNext_26 : decode cX5_poseNext 26 = .ok (.getfield 182, 3) := by decide +kernel
theorem dX5_poseNext_29 : decode cX5_poseNext 29 = .ok (.getfield 256, 3) := by decide +kernel
theorem dX5_poseNext_32 : decode cX5_poseNext 32 = .ok (.iload_n 2, 1) := by decide +kernel
theorem dX5_poseNext_33 : decode cX5_poseNext 33 = .ok (.aload_n 0, 1) := by decide +kernel
theorem dX5_poseNext_34 : decode cX5_poseNext 34 = .ok (.aload_n 1, 1) := by decide +kernel
theorem dX5_poseNext_35 : decode cX5_poseNext 35 = .ok (.iload_n 2, 1) := by decide +kernel
theorem dX5_poseNext_36 : decode cX5_poseNext 36 = .ok (.invokevirtual 231, 3) := by decide +kernel
theorem dX5_poseNext_39 : decode cX5_poseNext 39 = .ok (.iastore, 1) := by decide +kernel
theorem dX5_poseNext_40 : decode cX5_poseNext 40 = .ok (.iconst 0, 1) := by decide +kernel
theorem dX5_poseNext_41 : decode cX5_poseNext 41 = .ok (.istore 4, 2) := by decide +kernel
theorem dX5_poseNext_43 : decode cX5_poseNext 43 = .ok (.iload 4, 2) := by decide +kernel
theorem dX5_poseNext_45 : decode cX5_poseNext 45 = .ok (.aload_n 1, 1) := by decide +kernel
theorem dX5_poseNext_46 : decode cX5_poseNext 46 = .ok (.getfield 134, 3) := by decide +kernel
theorem dX5_poseNext_49 : decode cX5_poseNext 49 = .ok (.getfield 287, 3) := by decide +kernel
theorem dX5_poseNext_52 : decode cX5_poseNext 52 = .ok (.if_icmp .ge 43, 3) := by decide +kernel
theorem dX5_poseNext_55 : decode cX5_poseNext 55 = .ok (.aload_n 1, 1) := by decide +kernel
theorem dX5_poseNext_56 : decode cX5_poseNext 56 = .ok (.iload 4, 2) := by decide +kernel
theorem dX5_poseNext_58 : decode cX5_poseNext 58 = .ok (.iload_n 2, 1) := by decide +kernel
theorem dX5_poseNext_59 : decode cX5_poseNext 59 = .ok (.invokevirtual 154, 3) := by decide +kernel
theorem dX5_poseNext_62 : decode cX5_poseNext 62 = .ok (.istore 5, 2) := by decide +kernel
theorem dX5_poseNext_64 : decode cX5_poseNext 64 = .ok (.aload_n 1, 1) := by decide +kernel
theorem dX5_poseNext_65 : decode cX5_poseNext 65 = .ok (.getfield 134, 3) := by decide +kernel
theorem dX5_poseNext_68 : decode cX5_poseNext 68 = .ok (.iload 4, 2) := by decide +kernel
theorem dX5_poseNext_70 : decode cX5_poseNext 70 = .ok (.iload 5, 2) := by decide +kernel
theorem dX5_poseNext_72 : decode cX5_poseNext 72 = .ok (.invokevirtual 329, 3) := by decide +kernel
theorem dX5_poseNext_75 : decode cX5_poseNext 75 = .ok (.aload_n 1, 1) := by decide +kernel
theorem dX5_poseNext_76 : decode cX5_poseNext 76 = .ok (.getfield 182, 3) := by decide +kernel
theorem dX5_poseNext_79 : decode cX5_poseNext 79 = .ok (.getfield 252, 3) := by decide +kernel
theorem dX5_poseNext_82 : decode cX5_poseNext 82 = .ok (.iload 4, 2) := by decide +kernel
theorem dX5_poseNext_84 : decode cX5_poseNext 84 = .ok (.aaload, 1) := by decide +kernel
theorem dX5_poseNext_85 : decode cX5_poseNext 85 = .ok (.iload_n 2, 1) := by decide +kernel
theorem dX5_poseNext_86 : decode cX5_poseNext 86 = .ok (.iload 5, 2) := by decide +kernel
theorem dX5_poseNext_88 : decode cX5_poseNext 88 = .ok (.iastore, 1) := by decide +kernel
theorem dX5_poseNext_89 : decode cX5_poseNext 89 = .ok (.iinc 4 1, 3) := by decide +kernel
theorem dX5_poseNext_92 : decode cX5_poseNext 92 = .ok (.goto (-49), 3) := by decide +kernel
theorem dX5_poseNext_95 : decode cX5_poseNext 95 = .ok (.return_, 1) := by decide +kernel
theorem dX5_sheetMouth_0 : decode cX5_sheetMouth 0 = .ok (.aload_n 1, 1) := by decide +kernel
theorem dX5_sheetMouth_1 : decode cX5_sheetMouth 1 = .ok (.getfield 131, 3) := by decide +kernel
theorem dX5_sheetMouth_4 : decode cX5_sheetMouth 4 = .ok (.iconst (-1), 1) := by decide +kernel
theorem dX5_sheetMouth_5 : decode cX5_sheetMouth 5 = .ok (.if_icmp .ne 7, 3) := by decide +kernel
theorem dX5_sheetMouth_8 : decode cX5_sheetMouth 8 = .ok (.iconst (-1), 1) := by decide +kernel
theorem dX5_sheetMouth_9 : decode cX5_sheetMouth 9 = .ok (.goto 20, 3) := by decide +kernel
theorem dX5_sheetMouth_12 : decode cX5_sheetMouth 12 = .ok (.aload_n 0, 1) := by decide +kernel
theorem dX5_sheetMouth_13 : decode cX5_sheetMouth 13 = .ok (.getfield 21, 3) := by decide +kernel
theorem dX5_sheetMouth_16 : decode cX5_sheetMouth 16 = .ok (.aload_n 1, 1) := by decide +kernel
theorem dX5_sheetMouth_17 : decode cX5_sheetMouth 17 = .ok (.getfield 131, 3) := by decide +kernel
theorem dX5_sheetMouth_20 : decode cX5_sheetMouth 20 = .ok (.aaload, 1) := by decide +kernel
theorem dX5_sheetMouth_21 : decode cX5_sheetMouth 21 = .ok (.aload_n 1, 1) := by decide +kernel
theorem dX5_sheetMouth_22 : decode cX5_sheetMouth 22 = .ok (.iload_n 2, 1) := by decide +kernel
theorem dX5_sheetMouth_23 : decode cX5_sheetMouth 23 = .ok (.invokevirtual 332, 3) := by decide +kernel
theorem dX5_sheetMouth_26 : decode cX5_sheetMouth 26 = .ok (.invokevirtual 335, 3) := by decide +kernel
theorem dX5_sheetMouth_29 : decode cX5_sheetMouth 29 = .ok (.ireturn, 1) := by decide +kernel
theorem dX5_mouthWanted_0 : decode cX5_mouthWanted 0 = .ok (.aload_n 0, 1) := by decide +kernel
theorem dX5_mouthWanted_1 : decode cX5_mouthWanted 1 = .ok (.aload_n 1, 1) := by decide +kernel
theorem dX5_mouthWanted_2 : decode cX5_mouthWanted 2 = .ok (.iload_n 2, 1) := by decide +kernel
theorem dX5_mouthWanted_3 : decode cX5_mouthWanted 3 = .ok (.invokevirtual 231, 3) := by decide +kernel
theorem dX5_mouthWanted_6 : decode cX5_mouthWanted 6 = .ok (.istore_n 3, 1) := by decide +kernel
theorem dX5_mouthWanted_7 : decode cX5_mouthWanted 7 = .ok (.iload_n 3, 1) := by decide +kernel
theorem dX5_mouthWanted_8 : decode cX5_mouthWanted 8 = .ok (.aload_n 1, 1) := by decide +kernel
theorem dX5_mouthWanted_9 : decode cX5_mouthWanted 9 = .ok (.getfield 182, 3) := by decide +kernel
theorem dX5_mouthWanted_12 : decode cX5_mouthWanted 12 = .ok (.invokevirtual 338, 3) := by decide +kernel
theorem dX5_mouthWanted_15 : decode cX5_mouthWanted 15 = .ok (.if_icmp .ne 7, 3) := by decide +kernel
theorem dX5_mouthWanted_18 : decode cX5_mouthWanted 18 = .ok (.iconst (-1), 1) := by decide +kernel
theorem dX5_mouthWanted_19 : decode cX5_mouthWanted 19 = .ok (.goto 4, 3) := by decide +kernel
theorem dX5_mouthWanted_22 : decode cX5_mouthWanted 22 = .ok (.iload_n 3, 1) := by decide +kernel
theorem dX5_mouthWanted_23 : decode cX5_mouthWanted 23 = .ok (.ireturn, 1) := by decide +kernel
theorem dX5_lampLight_0 : decode cX5_lampLight 0 = .ok (.sipush 500, 3) := by decide +kernel
theorem dX5_lampLight_3 : decode cX5_lampLight 3 = .ok (.sipush 1000, 3) := by decide +kernel
theorem dX5_lampLight_6 : decode cX5_lampLight 6 = .ok (.aload_n 0, 1) := by decide +kernel
theorem dX5_lampLight_7 : decode cX5_lampLight 7 = .ok (.getfield 56, 3) := by decide +kernel
theorem dX5_lampLight_10 : decode cX5_lampLight 10 = .ok (.iconst 3, 1) := by decide +kernel
theorem dX5_lampLight_11 : decode cX5_lampLight 11 = .ok (.idiv, 1) := by decide +kernel
theorem dX5_lampLight_12 : decode cX5_lampLight 12 = .ok (.isub, 1) := by decide +kernel
theorem dX5_lampLight_13 : decode cX5_lampLight 13 = .ok (.invokestatic 341, 3) := by decide +kernel
theorem dX5_lampLight_16 : decode cX5_lampLight 16 = .ok (.ireturn, 1) := by decide +kernel
theorem dX5_cutIndex_0 : decode cX5_cutIndex 0 = .ok (.iconst 0, 1) := by decide +kernel
theorem dX5_cutIndex_1 : decode cX5_cutIndex 1 = .ok (.istore_n 2, 1) := by decide +kernel
theorem dX5_cutIndex_2 : decode cX5_cutIndex 2 = .ok (.iload_n 2, 1) := by decide +kernel
theorem dX5_cutIndex_3 : decode cX5_cutIndex 3 = .ok (.aload_n 0, 1) := by decide +kernel
theorem dX5_cutIndex_4 : decode cX5_cutIndex 4 = .ok (.getfield 50, 3) := by decide +kernel
theorem dX5_cutIndex_7 : decode cX5_cutIndex 7 = .ok (.if_icmp .ge 21, 3) := by decide +kernel
theorem dX5_cutIndex_10 : decode cX5_cutIndex 10 = .ok (.aload_n 0, 1) := by decide +kernel
theorem dX5_cutIndex_11 : decode cX5_cutIndex 11 = .ok (.getfield 46, 3) := by decide +kernel
theorem dX5_cutIndex_14 : decode cX5_cutIndex 14 = .ok (.iload_n 2, 1) := by decide +kernel
theorem dX5_cutIndex_15 : decode cX5_cutIndex 15 = .ok (.iaload, 1) := by decide +kernel
theorem dX5_cutIndex_16 : decode cX5_cutIndex 16 = .ok (.iload_n 1, 1) := by decide +kernel
theorem dX5_cutIndex_17 : decode cX5_cutIndex 17 = .ok (.if_icmp .ne 5, 3) := by decide +kernel
theorem dX5_cutIndex_20 : decode cX5_cutIndex 20 = .ok (.iload_n 2, 1) := by decide +kernel
theorem dX5_cutIndex_21 : decode cX5_cutIndex 21 = .ok (.ireturn, 1) := by decide +kernel
theorem dX5_cutIndex_22 : decode cX5_cutIndex 22 = .ok (.iinc 2 1, 3) := by decide +kernel
theorem dX5_cutIndex_25 : decode cX5_cutIndex 25 = .ok (.goto (-23), 3) := by decide +kernel
theorem dX5_cutIndex_28 : decode cX5_cutIndex 28 = .ok (.iconst (-1), 1) := by decide +kernel
theorem dX5_cutIndex_29 : decode cX5_cutIndex 29 = .ok (.ireturn, 1) := by decide +kernel
theorem dX5_filmLength_0 : decode cX5_filmLength 0 = .ok (.iconst 0, 1) := by decide +kernel
theorem dX5_filmLength_1 : decode cX5_filmLength 1 = .ok (.istore_n 1, 1) := by decide +kernel
theorem dX5_filmLength_2 : decode cX5_filmLength 2 = .ok (.iconst 0, 1) := by decide +kernel
theorem dX5_filmLength_3 : decode cX5_filmLength 3 = .ok (.istore_n 2, 1) := by decide +kernel
theorem dX5_filmLength_4 : decode cX5_filmLength 4 = .ok (.iload_n 2, 1) := by decide +kernel
theorem dX5_filmLength_5 : decode cX5_filmLength 5 = .ok (.aload_n 0, 1) := by decide +kernel
theorem dX5_filmLength_6 : decode cX5_filmLength 6 = .ok (.getfield 50, 3) := by decide +kernel
theorem dX5_filmLength_9 : decode cX5_filmLength 9 = .ok (.if_icmp .ge 26, 3) := by decide +kernel
theorem dX5_filmLength_12 : decode cX5_filmLength 12 = .ok (.iload_n 1, 1) := by decide +kernel
theorem dX5_filmLength_13 : decode cX5_filmLength 13 = .ok (.aload_n 0, 1) := by decide +kernel
theorem dX5_filmLength_14 : decode cX5_filmLength 14 = .ok (.getfield 35, 3) := by decide +kernel
theorem dX5_filmLength_17 : decode cX5_filmLength 17 = .ok (.aload_n 0, 1) := by decide +kernel
theorem dX5_filmLength_18 : decode cX5_filmLength 18 = .ok (.getfield 46, 3) := by decide +kernel
theorem dX5_filmLength_21 : decode cX5_filmLength 21 = .ok (.iload_n 2, 1) := by decide +kernel
theorem dX5_filmLength_22 : decode cX5_filmLength 22 = .ok (.iaload, 1) := by decide +kernel
theorem dX5_filmLength_23 : decode cX5_filmLength 23 = .ok (.aaload, 1) := by decide +kernel
theorem dX5_filmLength_24 : decode cX5_filmLength 24 = .ok (.getfield 235, 3) := by decide +kernel
theorem dX5_filmLength_27 : decode cX5_filmLength 27 = .ok (.iadd, 1) := by decide +kernel
theorem dX5_filmLength_28 : decode cX5_filmLength 28 = .ok (.istore_n 1, 1) := by decide +kernel
theorem dX5_filmLength_29 : decode cX5_filmLength 29 = .ok (.iinc 2 1, 3) := by decide +kernel
theorem dX5_filmLength_32 : decode cX5_filmLength 32 = .ok (.goto (-28), 3) := by decide +kernel
theorem dX5_filmLength_35 : decode cX5_filmLength 35 = .ok (.iload_n 1, 1) := by decide +kernel
theorem dX5_filmLength_36 : decode cX5_filmLength 36 = .ok (.ireturn, 1) := by decide +kernel
theorem dX5_shorterWay_0 : decode cX5_shorterWay 0 = .ok (.iload_n 1, 1) := by decide +kernel
theorem dX5_shorterWay_1 : decode cX5_shorterWay 1 = .ok (.iload_n 0, 1) := by decide +kernel
theorem dX5_shorterWay_2 : decode cX5_shorterWay 2 = .ok (.isub, 1) := by decide +kernel
theorem dX5_shorterWay_3 : decode cX5_shorterWay 3 = .ok (.sipush 360, 3) := by decide +kernel
theorem dX5_shorterWay_6 : decode cX5_shorterWay 6 = .ok (.invokestatic 344, 3) := by decide +kernel
theorem dX5_shorterWay_9 : decode cX5_shorterWay 9 = .ok (.istore_n 2, 1) := by decide +kernel
theorem dX5_shorterWay_10 : decode cX5_shorterWay 10 = .ok (.iload_n 2, 1) := by decide +kernel
theorem dX5_shorterWay_11 : decode cX5_shorterWay 11 = .ok (.sipush 180, 3) := by decide +kernel
theorem dX5_shorterWay_14 : decode cX5_shorterWay 14 = .ok (.if_icmp .le 11, 3) := by decide +kernel
theorem dX5_shorterWay_17 : decode cX5_shorterWay 17 = .ok (.iload_n 2, 1) := by decide +kernel
theorem dX5_shorterWay_18 : decode cX5_shorterWay 18 = .ok (.sipush 360, 3) := by decide +kernel
theorem dX5_shorterWay_21 : decode cX5_shorterWay 21 = .ok (.isub, 1) := by decide +kernel
theorem dX5_shorterWay_22 : decode cX5_shorterWay 22 = .ok (.goto 4, 3) := by decide +kernel
theorem dX5_shorterWay_25 : decode cX5_shorterWay 25 = .ok (.iload_n 2, 1) := by decide +kernel
theorem dX5_shorterWay_26 : decode cX5_shorterWay 26 = .ok (.ireturn, 1) := by decide +kernel
theorem dJ6_compare_7cf53_0 : decode cJ6_compare_7cf53 0 = .ok (.iload_n 0, 1) := by decide +kernel
theorem dJ6_compare_7cf53_1 : decode cJ6_compare_7cf53 1 = .ok (.iload_n 1, 1) := by decide +kernel
theorem dJ6_compare_7cf53_2 : decode cJ6_compare_7cf53 2 = .ok (.if_icmp .ge 7, 3) := by decide +kernel
theorem dJ6_compare_7cf53_5 : decode cJ6_compare_7cf53 5 = .ok (.iconst (-1), 1) := by decide +kernel
theorem dJ6_compare_7cf53_6 : decode cJ6_compare_7cf53 6 = .ok (.goto 13, 3) := by decide +kernel
theorem dJ6_compare_7cf53_9 : decode cJ6_compare_7cf53 9 = .ok (.iload_n 0, 1) := by decide +kernel
theorem dJ6_compare_7cf53_10 : decode cJ6_compare_7cf53 10 = .ok (.iload_n 1, 1) := by decide +kernel
theorem dJ6_compare_7cf53_11 : decode cJ6_compare_7cf53 11 = .ok (.if_icmp .ne 7, 3) := by decide +kernel
theorem dJ6_compare_7cf53_14 : decode cJ6_compare_7cf53 14 = .ok (.iconst 0, 1) := by decide +kernel
theorem dJ6_compare_7cf53_15 : decode cJ6_compare_7cf53 15 = .ok (.goto 4, 3) := by decide +kernel
theorem dJ6_compare_7cf53_18 : decode cJ6_compare_7cf53 18 = .ok (.iconst 1, 1) := by decide +kernel
theorem dJ6_compare_7cf53_19 : decode cJ6_compare_7cf53 19 = .ok (.ireturn, 1) := by decide +kernel
theorem dJ9_floorMod_7cf53_0 : decode cJ9_floorMod_7cf53 0 = .ok (.iload_n 0, 1) := by decide +kernel
theorem dJ9_floorMod_7cf53_1 : decode cJ9_floorMod_7cf53 1 = .ok (.iload_n 1, 1) := by decide +kernel
theorem dJ9_floorMod_7cf53_2 : decode cJ9_floorMod_7cf53 2 = .ok (.irem, 1) := by decide +kernel
theorem dJ9_floorMod_7cf53_3 : decode cJ9_floorMod_7cf53 3 = .ok (.istore_n 2, 1) := by decide +kernel
theorem dJ9_floorMod_7cf53_4 : decode cJ9_floorMod_7cf53 4 = .ok (.iload_n 0, 1) := by decide +kernel
theorem dJ9_floorMod_7cf53_5 : decode cJ9_floorMod_7cf53 5 = .ok (.iload_n 1, 1) := by decide +kernel
theorem dJ9_floorMod_7cf53_6 : decode cJ9_floorMod_7cf53 6 = .ok (.ixor, 1) := by decide +kernel
theorem dJ9_floorMod_7cf53_7 : decode cJ9_floorMod_7cf53 7 = .ok (.ifCond .ge 11, 3) := by decide +kernel
theorem dJ9_floorMod_7cf53_10 : decode cJ9_floorMod_7cf53 10 = .ok (.iload_n 2, 1) := by decide +kernel
theorem dJ9_floorMod_7cf53_11 : decode cJ9_floorMod_7cf53 11 = .ok (.ifCond .eq 7, 3) := by decide +kernel
theorem dJ9_floorMod_7cf53_14 : decode cJ9_floorMod_7cf53 14 = .ok (.iload_n 2, 1) := by decide +kernel
theorem dJ9_floorMod_7cf53_15 : decode cJ9_floorMod_7cf53 15 = .ok (.iload_n 1, 1) := by decide +kernel
theorem dJ9_floorMod_7cf53_16 : decode cJ9_floorMod_7cf53 16 = .ok (.iadd, 1) := by decide +kernel
theorem dJ9_floorMod_7cf53_17 : decode cJ9_floorMod_7cf53 17 = .ok (.ireturn, 1) := by decide +kernel
theorem dJ9_floorMod_7cf53_18 : decode cJ9_floorMod_7cf53 18 = .ok (.iload_n 2, 1) := by decide +kernel
theorem dJ9_floorMod_7cf53_19 : decode cJ9_floorMod_7cf53 19 = .ok (.ireturn, 1) := by decide +kernel
theorem dJ9_abs_0f7a4_0 : decode cJ9_abs_0f7a4 0 = .ok (.iload_n 0, 1) := by decide +kernel
theorem dJ9_abs_0f7a4_1 : decode cJ9_abs_0f7a4 1 = .ok (.ifCond .ge 8, 3) := by decide +kernel
theorem dJ9_abs_0f7a4_4 : decode cJ9_abs_0f7a4 4 = .ok (.iload_n 0, 1) := by decide +kernel
theorem dJ9_abs_0f7a4_5 : decode cJ9_abs_0f7a4 5 = .ok (.ineg, 1) := by decide +kernel
theorem dJ9_abs_0f7a4_6 : decode cJ9_abs_0f7a4 6 = .ok (.goto 4, 3) := by decide +kernel
theorem dJ9_abs_0f7a4_9 : decode cJ9_abs_0f7a4 9 = .ok (.iload_n 0, 1) := by decide +kernel
theorem dJ9_abs_0f7a4_10 : decode cJ9_abs_0f7a4 10 = .ok (.ireturn, 1) := by decide +kernel
theorem dJ9_max_7cf53_0 : decode cJ9_max_7cf53 0 = .ok (.iload_n 0, 1) := by decide +kernel
theorem dJ9_max_7cf53_1 : decode cJ9_max_7cf53 1 = .ok (.iload_n 1, 1) := by decide +kernel
theorem dJ9_max_7cf53_2 : decode cJ9_max_7cf53 2 = .ok (.if_icmp .lt 7, 3) := by decide +kernel
theorem dJ9_max_7cf53_5 : decode cJ9_max_7cf53 5 = .ok (.iload_n 0, 1) := by decide +kernel
theorem dJ9_max_7cf53_6 : decode cJ9_max_7cf53 6 = .ok (.goto 4, 3) := by decide +kernel
theorem dJ9_max_7cf53_9 : decode cJ9_max_7cf53 9 = .ok (.iload_n 1, 1) := by decide +kernel
theorem dJ9_max_7cf53_10 : decode cJ9_max_7cf53 10 = .ok (.ireturn, 1) := by decide +kernel
theorem dL_part_0 : decode cL_part 0 = .ok (.iload_n 1, 1) := by decide +kernel
theorem dL_part_1 : decode cL_part 1 = .ok (.aload_n 0, 1) := by decide +kernel
theorem dL_part_2 : decode cL_part 2 = .ok (.arraylength, 1) := by decide +kernel
theorem dL_part_3 : decode cL_part 3 = .ok (.if_icmp .ge 9, 3) := by decide +kernel
theorem dL_part_6 : decode cL_part 6 = .ok (.aload_n 0, 1) := by decide +kernel
theorem dL_part_7 : decode cL_part 7 = .ok (.iload_n 1, 1) := by decide +kernel
theorem dL_part_8 : decode cL_part 8 = .ok (.iaload, 1) := by decide +kernel
theorem dL_part_9 : decode cL_part 9 = .ok (.goto 16, 3) := by decide +kernel
theorem dL_part_12 : decode cL_part 12 = .ok (.sipush 1021, 3) := by decide +kernel
theorem dL_part_15 : decode cL_part 15 = .ok (.iload_n 1, 1) := by decide +kernel
theorem dL_part_16 : decode cL_part 16 = .ok (.imul, 1) := by decide +kernel
theorem dL_part_17 : decode cL_part 17 = .ok (.sipush 907, 3) := by decide +kernel
theorem dL_part_20 : decode cL_part 20 = .ok (.iload_n 1, 1) := by decide +kernel
theorem dL_part_21 : decode cL_part 21 = .ok (.imul, 1) := by decide +kernel
theorem dL_part_22 : decode cL_part 22 = .ok (.iload_n 1, 1) := by decide +kernel
theorem dL_part_23 : decode cL_part 23 = .ok (.imul, 1) := by decide +kernel
theorem dL_part_24 : decode cL_part 24 = .ok (.iadd, 1) := by decide +kernel
theorem dL_part_25 : decode cL_part 25 = .ok (.istore_n 3, 1) := by decide +kernel
theorem dL_part_26 : decode cL_part 26 = .ok (.iload_n 3, 1) := by decide +kernel
theorem dL_part_27 : decode cL_part 27 = .ok (.ldc 7, 2) := by decide +kernel
theorem dL_part_29 : decode cL_part 29 = .ok (.iand, 1) := by decide +kernel
theorem dL_part_30 : decode cL_part 30 = .ok (.iload_n 2, 1) := by decide +kernel
theorem dL_part_31 : decode cL_part 31 = .ok (.irem, 1) := by decide +kernel
theorem dL_part_32 : decode cL_part 32 = .ok (.ireturn, 1) := by decide +kernel
theorem dL_does_0 : decode cL_does 0 = .ok (.iload_n 1, 1) := by decide +kernel
theorem dL_does_1 : decode cL_does 1 = .ok (.ifCond .ne 11, 3) := by decide +kernel
theorem dL_does_4 : decode cL_does 4 = .ok (.aload_n 0, 1) := by decide +kernel
theorem dL_does_5 : decode cL_does 5 = .ok (.iload_n 2, 1) := by decide +kernel
theorem dL_does_6 : decode cL_does 6 = .ok (.invokevirtual 8, 3) := by decide +kernel
theorem dL_does_9 : decode cL_does 9 = .ok (.goto 329, 3) := by decide +kernel
theorem dL_does_12 : decode cL_does 12 = .ok (.iload_n 1, 1) := by decide +kernel
theorem dL_does_13 : decode cL_does 13 = .ok (.iconst 1, 1) := by decide +kernel
theorem dL_does_14 : decode cL_does 14 = .ok (.if_icmp .ne 14, 3) := by decide +kernel
theorem dL_does_17 : decode cL_does 17 = .ok (.aload_n 0, 1) := by decide +kernel
theorem dL_does_18 : decode cL_does 18 = .ok (.iload_n 2, 1) := by decide +kernel
theorem dL_does_19 : decode cL_does 19 = .ok (.iload_n 3, 1) := by decide +kernel
theorem dL_does_20 : decode cL_does 20 = .ok (.iload 4, 2) := by decide +kernel
theorem dL_does_22 : decode cL_does 22 = .ok (.invokevirtual 14, 3) := by decide +kernel
theorem dL_does_25 : decode cL_does 25 = .ok (.goto 313, 3) := by decide +kernel
theorem dL_does_28 : decode cL_does 28 = .ok (.iload_n 1, 1) := by decide +kernel
theorem dL_does_29 : decode cL_does 29 = .ok (.iconst 2, 1) := by decide +kernel
theorem dL_does_30 : decode cL_does 30 = .ok (.if_icmp .ne 12, 3) := by decide +kernel
theorem dL_does_33 : decode cL_does 33 = .ok (.aload_n 0, 1) := by decide +kernel
theorem dL_does_34 : decode cL_does 34 = .ok (.iload_n 2, 1) := by decide +kernel
theorem dL_does_35 : decode cL_does 35 = .ok (.iload_n 3, 1) := by decide +kernel
theorem dL_does_36 : decode cL_does 36 = .ok (.invokevirtual 18, 3) := by decide +kernel
theorem dL_does_39 : decode cL_does 39 = .ok (.goto 299, 3) := by decide +kernel
theorem dL_does_42 : decode cL_does 42 = .ok (.iload_n 1, 1) := by decide +kernel
theorem dL_does_43 : decode cL_does 43 = .ok (.iconst 3, 1) := by decide +kernel
theorem dL_does_44 : decode cL_does 44 = .ok (.if_icmp .ne 10, 3) := by decide +kernel
theorem dL_does_47 : decode cL_does 47 = .ok (.aload_n 0, 1) := by decide +kernel
theorem dL_does_48 : decode cL_does 48 = .ok (.invokevirtual 22, 3) := by decide +kernel
theorem dL_does_51 : decode cL_does 51 = .ok (.goto 287, 3) := by decide +kernel
theorem dL_does_54 : decode cL_does 54 = .ok (.iload_n 1, 1) := by decide +kernel
theorem dL_does_55 : decode cL_does 55 = .ok (.iconst 4, 1) := by decide +kernel
theorem dL_does_56 : decode cL_does 56 = .ok (.if_icmp .ne 16, 3) := by decide +kernel
theorem dL_does_59 : decode cL_does 59 = .ok (.aload_n 0, 1) := by decide +kernel
theorem dL_does_60 : decode cL_does 60 = .ok (.iload_n 2, 1) := by decide +kernel
theorem dL_does_61 : decode cL_does 61 = .ok (.iload_n 3, 1) := by decide +kernel
theorem dL_does_62 : decode cL_does 62 = .ok (.iload 4, 2) := by decide +kernel
theorem dL_does_64 : decode cL_does 64 = .ok (.iload 5, 2) := by decide +kernel
theorem dL_does_66 : decode cL_does 66 = .ok (.invokevirtual 26, 3) := by decide +kernel
theorem dL_does_69 : decode cL_does 69 = .ok (.goto 269, 3) := by decide +kernel
theorem dL_does_72 : decode cL_does 72 = .ok (.iload_n 1, 1) := by decide +kernel
theorem dL_does_73 : decode cL_does 73 = .ok (.iconst 5, 1) := by decide +kernel
theorem dL_does_74 : decode cL_does 74 = .ok (.if_icmp .ne 12, 3) := by decide +kernel
theorem dL_does_77 : decode cL_does 77 = .ok (.aload_n 0, 1) := by decide +kernel
theorem dL_does_78 : decode cL_does 78 = .ok (.iload_n 2, 1) := by decide +kernel
theorem dL_does_79 : decode cL_does 79 = .ok (.iload_n 3, 1) := by decide +kernel
theorem dL_does_80 : decode cL_does 80 = .ok (.invokevirtual 30, 3) := by decide +kernel
theorem dL_does_83 : decode cL_does 83 = .ok (.goto 255, 3) := by decide +kernel
theorem dL_does_86 : decode cL_does 86 = .ok (.iload_n 1, 1) := by decide +kernel
theorem dL_does_87 : decode cL_does 87 = .ok (.bipush 6, 2) := by decide +kernel
theorem dL_does_89 : decode cL_does 89 = .ok (.if_icmp .ne 29, 3) := by decide +kernel
theorem dL_does_92 : decode cL_does 92 = .ok (.aload_n 0, 1) := by decide +kernel
theorem dL_does_93 : decode cL_does 93 = .ok (.iload_n 2, 1) := by decide +kernel
theorem dL_does_94 : decode cL_does 94 = .ok (.iload_n 3, 1) := by decide +kernel
theorem dL_does_95 : decode cL_does 95 = .ok (.iconst 1, 1) := by decide +kernel
theorem dL_does_96 : decode cL_does 96 = .ok (.if_icmp .ne 7, 3) := by decide +kernel
theorem dL_does_99 : decode cL_does 99 = .ok (.iconst 1, 1) := by decide +kernel
theorem dL_does_100 : decode cL_does 100 = .ok (.goto 4, 3) := by decide +kernel
theorem dL_does_103 : decode cL_does 103 = .ok (.iconst 0, 1) := by decide +kernel
theorem dL_does_104 : decode cL_does 104 = .ok (.invokevirtual 33, 3) := by decide +kernel
theorem dL_does_107 : decode cL_does 107 = .ok (.ifCond .eq 7, 3) := by decide +kernel
theorem dL_does_110 : decode cL_does 110 = .ok (.iconst 1, 1) := by decide +kernel
theorem dL_does_111 : decode cL_does 111 = .ok (.goto 227, 3) := by decide +kernel
theorem dL_does_114 : decode cL_does 114 = .ok (.iconst 0, 1) := by decide +kernel
theorem dL_does_115 : decode cL_does 115 = .ok (.goto 223, 3) := by decide +kernel
theorem dL_does_118 : decode cL_does 118 = .ok (.iload_n 1, 1) := by decide +kernel
theorem dL_does_119 : decode cL_does 119 = .ok (.bipush 7, 2) := by decide +kernel
theorem dL_does_121 : decode cL_does 121 = .ok (.if_icmp .ne 12, 3) := by decide +kernel
theorem dL_does_124 : decode cL_does 124 = .ok (.aload_n 0, 1) := by decide +kernel
theorem dL_does_125 : decode cL_does 125 = .ok (.iload_n 2, 1) := by decide +kernel
theorem dL_does_126 : decode cL_does 126 = .ok (.iload_n 3, 1) := by decide +kernel
theorem dL_does_127 : decode cL_does 127 = .ok (.invokevirtual 37, 3) := by decide +kernel
theorem dL_does_130 : decode cL_does 130 = .ok (.goto 208, 3) := by decide +kernel
theorem dL_does_133 : decode cL_does 133 = .ok (.iload_n 1, 1) := by decide +kernel
theorem dL_does_134 : decode cL_does 134 = .ok (.bipush 8, 2) := by decide +kernel
theorem dL_does_136 : decode cL_does 136 = .ok (.if_icmp .ne 16, 3) := by decide +kernel
theorem dL_does_139 : decode cL_does 139 = .ok (.aload_n 0, 1) := by decide +kernel
theorem dL_does_140 : decode cL_does 140 = .ok (.iload_n 2, 1) := by decide +kernel
theorem dL_does_141 : decode cL_does 141 = .ok (.iload_n 3, 1) := by decide +kernel
theorem dL_does_142 : decode cL_does 142 = .ok (.iload 4, 2) := by decide +kernel
theorem dL_does_144 : decode cL_does 144 = .ok (.iload 5, 2) := by decide +kernel
theorem dL_does_146 : decode cL_does 146 = .ok (.invokevirtual 40, 3) := by decide +kernel
theorem dL_does_149 : decode cL_does 149 = .ok (.goto 189, 3) := by decide +kernel
theorem dL_does_152 : decode cL_does 152 = .ok (.iload_n 1, 1) := by decide +kernel
theorem dL_does_153 : decode cL_does 153 = .ok (.bipush 9, 2) := by decide +kernel
theorem dL_does_155 : decode cL_does 155 = .ok (.if_icmp .ne 14, 3) := by decide +kernel
theorem dL_does_158 : decode cL_does 158 = .ok (.aload_n 0, 1) := by decide +kernel
theorem dL_does_159 : decode cL_does 159 = .ok (.iload_n 2, 1) := by decide +kernel
theorem dL_does_160 : decode cL_does 160 = .ok (.iload_n 3, 1) := by decide +kernel
theorem dL_does_161 : decode cL_does 161 = .ok (.iload 4, 2) := by decide +kernel
theorem dL_does_163 : decode cL_does 163 = .ok (.invokevirtual 43, 3) := by decide +kernel
theorem dL_does_166 : decode cL_does 166 = .ok (.goto 172, 3) := by decide +kernel
theorem dL_does_169 : decode cL_does 169 = .ok (.iload_n 1, 1) := by decide +kernel
theorem dL_does_170 : decode cL_does 170 = .ok (.bipush 10, 2) := by decide +kernel
theorem dL_does_172 : decode cL_does 172 = .ok (.if_icmp .ne 11, 3) := by decide +kernel
theorem dL_does_175 : decode cL_does 175 = .ok (.aload_n 0, 1) := by decide +kernel
theorem dL_does_176 : decode cL_does 176 = .ok (.iload_n 2, 1) := by decide +kernel
theorem dL_does_177 : decode cL_does 177 = .ok (.invokevirtual 46, 3) := by decide +kernel
theorem dL_does_180 : decode cL_does 180 = .ok (.goto 158, 3) := by decide +kernel
theorem dL_does_183 : decode cL_does 183 = .ok (.iload_n 1, 1) := by decide +kernel
theorem dL_does_184 : decode cL_does 184 = .ok (.bipush 11, 2) := by decide +kernel
theorem dL_does_186 : decode cL_does 186 = .ok (.if_icmp .ne 11, 3) := by decide +kernel
theorem dL_does_189 : decode cL_does 189 = .ok (.aload_n 0, 1) := by decide +kernel
theorem dL_does_190 : decode cL_does 190 = .ok (.iload_n 2, 1) := by decide +kernel
theorem dL_does_191 : decode cL_does 191 = .ok (.invokevirtual 49, 3) := by decide +kernel
theorem dL_does_194 : decode cL_does 194 = .ok (.goto 144, 3) := by decide +kernel
theorem dL_does_197 : decode cL_does 197 = .ok (.iload_n 1, 1) := by decide +kernel
theorem dL_does_198 : decode cL_does 198 = .ok (.bipush 12, 2) := by decide +kernel
theorem dL_does_200 : decode cL_does 200 = .ok (.if_icmp .ne 12, 3) := by decide +kernel
theorem dL_does_203 : decode cL_does 203 = .ok (.aload_n 0, 1) := by decide +kernel
theorem dL_does_204 : decode cL_does 204 = .ok (.iload_n 2, 1) := by decide +kernel
theorem dL_does_205 : decode cL_does 205 = .ok (.iload_n 3, 1) := by decide +kernel
theorem dL_does_206 : decode cL_does 206 = .ok (.invokevirtual 52, 3) := by decide +kernel
theorem dL_does_209 : decode cL_does 209 = .ok (.goto 129, 3) := by decide +kernel
theorem dL_does_212 : decode cL_does 212 = .ok (.iload_n 1, 1) := by decide +kernel
theorem dL_does_213 : decode cL_does 213 = .ok (.bipush 13, 2) := by decide +kernel
theorem dL_does_215 : decode cL_does 215 = .ok (.if_icmp .ne 11, 3) := by decide +kernel
theorem dL_does_218 : decode cL_does 218 = .ok (.aload_n 0, 1) := by decide +kernel
theorem dL_does_219 : decode cL_does 219 = .ok (.iload_n 2, 1) := by decide +kernel
theorem dL_does_220 : decode cL_does 220 = .ok (.invokevirtual 55, 3) := by decide +kernel
theorem dL_does_223 : decode cL_does 223 = .ok (.goto 115, 3) := by decide +kernel
theorem dL_does_226 : decode cL_does 226 = .ok (.iload_n 1, 1) := by decide +kernel
theorem dL_does_227 : decode cL_does 227 = .ok (.bipush 14, 2) := by decide +kernel
theorem dL_does_229 : decode cL_does 229 = .ok (.if_icmp .ne 12, 3) := by decide +kernel
theorem dL_does_232 : decode cL_does 232 = .ok (.aload_n 0, 1) := by decide +kernel
theorem dL_does_233 : decode cL_does 233 = .ok (.iload_n 2, 1) := by decide +kernel
theorem dL_does_234 : decode cL_does 234 = .ok (.iload_n 3, 1) := by decide +kernel
theorem dL_does_235 : decode cL_does 235 = .ok (.invokevirtual 58, 3) := by decide +kernel
theorem dL_does_238 : decode cL_does 238 = .ok (.goto 100, 3) := by decide +kernel
theorem dL_does_241 : decode cL_does 241 = .ok (.iload_n 1, 1) := by decide +kernel
theorem dL_does_242 : decode cL_does 242 = .ok (.bipush 15, 2) := by decide +kernel
theorem dL_does_244 : decode cL_does 244 = .ok (.if_icmp .ne 12, 3) := by decide +kernel
theorem dL_does_247 : decode cL_does 247 = .ok (.aload_n 0, 1) := by decide +kernel
theorem dL_does_248 : decode cL_does 248 = .ok (.iload_n 2, 1) := by decide +kernel
theorem dL_does_249 : decode cL_does 249 = .ok (.iload_n 3, 1) := by decide +kernel
theorem dL_does_250 : decode cL_does 250 = .ok (.invokevirtual 61, 3) := by decide +kernel
theorem dL_does_253 : decode cL_does 253 = .ok (.goto 85, 3) := by decide +kernel
theorem dL_does_256 : decode cL_does 256 = .ok (.iload_n 1, 1) := by decide +kernel
theorem dL_does_257 : decode cL_does 257 = .ok (.bipush 16, 2) := by decide +kernel
theorem dL_does_259 : decode cL_does 259 = .ok (.if_icmp .ne 11, 3) := by decide +kernel
theorem dL_does_262 : decode cL_does 262 = .ok (.aload_n 0, 1) := by decide +kernel
theorem dL_does_263 : decode cL_does 263 = .ok (.iload_n 2, 1) := by decide +kernel
theorem dL_does_264 : decode cL_does 264 = .ok (.invokevirtual 64, 3) := by decide +kernel
theorem dL_does_267 : decode cL_does 267 = .ok (.goto 71, 3) := by decide +kernel
theorem dL_does_270 : decode cL_does 270 = .ok (.iload_n 1, 1) := by decide +kernel
theorem dL_does_271 : decode cL_does 271 = .ok (.bipush 17, 2) := by decide +kernel
theorem dL_does_273 : decode cL_does 273 = .ok (.if_icmp .ne 11, 3) := by decide +kernel
theorem dL_does_276 : decode cL_does 276 = .ok (.aload_n 0, 1) := by decide +kernel
theorem dL_does_277 : decode cL_does 277 = .ok (.iload_n 2, 1) := by decide +kernel
theorem dL_does_278 : decode cL_does 278 = .ok (.invokevirtual 67, 3) := by decide +kernel
theorem dL_does_281 : decode cL_does 281 = .ok (.goto 57, 3) := by decide +kernel
theorem dL_does_284 : decode cL_does 284 = .ok (.iload_n 1, 1) := by decide +kernel
theorem dL_does_285 : decode cL_does 285 = .ok (.bipush 18, 2) := by decide +kernel
theorem dL_does_287 : decode cL_does 287 = .ok (.if_icmp .ne 11, 3) := by decide +kernel
theorem dL_does_290 : decode cL_does 290 = .ok (.aload_n 0, 1) := by decide +kernel
theorem dL_does_291 : decode cL_does 291 = .ok (.iload_n 2, 1) := by decide +kernel
theorem dL_does_292 : decode cL_does 292 = .ok (.invokevirtual 70, 3) := by decide +kernel
theorem dL_does_295 : decode cL_does 295 = .ok (.goto 43, 3) := by decide +kernel
theorem dL_does_298 : decode cL_does 298 = .ok (.iload_n 1, 1) := by decide +kernel
theorem dL_does_299 : decode cL_does 299 = .ok (.bipush 19, 2) := by decide +kernel
theorem dL_does_301 : decode cL_does 301 = .ok (.if_icmp .ne 14, 3) := by decide +kernel
theorem dL_does_304 : decode cL_does 304 = .ok (.aload_n 0, 1) := by decide +kernel
theorem dL_does_305 : decode cL_does 305 = .ok (.iload_n 2, 1) := by decide +kernel
theorem dL_does_306 : decode cL_does 306 = .ok (.iload_n 3, 1) := by decide +kernel
theorem dL_does_307 : decode cL_does 307 = .ok (.iload 4, 2) := by decide +kernel
theorem dL_does_309 : decode cL_does 309 = .ok (.invokevirtual 73, 3) := by decide +kernel
theorem dL_does_312 : decode cL_does 312 = .ok (.goto 26, 3) := by decide +kernel
theorem dL_does_315 : decode cL_does 315 = .ok (.iload_n 1, 1) := by decide +kernel
theorem dL_does_316 : decode cL_does 316 = .ok (.bipush 20, 2) := by decide +kernel
theorem dL_does_318 : decode cL_does 318 = .ok (.if_icmp .ne 14, 3) := by decide +kernel
theorem dL_does_321 : decode cL_does 321 = .ok (.aload_n 0, 1) := by decide +kernel
theorem dL_does_322 : decode cL_does 322 = .ok (.iload_n 2, 1) := by decide +kernel
theorem dL_does_323 : decode cL_does 323 = .ok (.iload_n 3, 1) := by decide +kernel
theorem dL_does_324 : decode cL_does 324 = .ok (.iload 4, 2) := by decide +kernel
theorem dL_does_326 : decode cL_does 326 = .ok (.invokevirtual 76, 3) := by decide +kernel
theorem dL_does_329 : decode cL_does 329 = .ok (.goto 9, 3) := by decide +kernel
theorem dL_does_332 : decode cL_does 332 = .ok (.aload_n 0, 1) := by decide +kernel
theorem dL_does_333 : decode cL_does 333 = .ok (.iload_n 2, 1) := by decide +kernel
theorem dL_does_334 : decode cL_does 334 = .ok (.iload_n 3, 1) := by decide +kernel
theorem dL_does_335 : decode cL_does 335 = .ok (.invokevirtual 79, 3) := by decide +kernel
theorem dL_does_338 : decode cL_does 338 = .ok (.ireturn, 1) := by decide +kernel
theorem dL_does_339 : decode cL_does 339 = .ok (.astore 6, 2) := by decide +kernel
theorem dL_does_341 : decode cL_does 341 = .ok (.ldc 84, 2) := by decide +kernel
theorem dL_does_343 : decode cL_does 343 = .ok (.ireturn, 1) := by decide +kernel
theorem dL_does_344 : decode cL_does 344 = .ok (.astore 6, 2) := by decide +kernel
theorem dL_does_346 : decode cL_does 346 = .ok (.ldc 87, 2) := by decide +kernel
theorem dL_does_348 : decode cL_does 348 = .ok (.ireturn, 1) := by decide +kernel
theorem dL_does_349 : decode cL_does 349 = .ok (.astore 6, 2) := by decide +kernel
theorem dL_does_351 : decode cL_does 351 = .ok (.ldc 90, 2) := by decide +kernel
theorem dL_does_353 : decode cL_does 353 = .ok (.ireturn, 1) := by decide +kernel
theorem dL_nearest_0 : decode cL_nearest 0 = .ok (.iload_n 2, 1) := by decide +kernel
theorem dL_nearest_1 : decode cL_nearest 1 = .ok (.istore 4, 2) := by decide +kernel
theorem dL_nearest_3 : decode cL_nearest 3 = .ok (.iload 4, 2) := by decide +kernel
theorem dL_nearest_5 : decode cL_nearest 5 = .ok (.ifCond .lt 28, 3) := by decide +kernel
theorem dL_nearest_8 : decode cL_nearest 8 = .ok (.iload 4, 2) := by decide +kernel
theorem dL_nearest_10 : decode cL_nearest 10 = .ok (.bipush 6, 2) := by decide +kernel
theorem dL_nearest_12 : decode cL_nearest 12 = .ok (.if_icmp .ge 21, 3) := by decide +kernel
theorem dL_nearest_15 : decode cL_nearest 15 = .ok (.aload_n 0, 1) := by decide +kernel
theorem dL_nearest_16 : decode cL_nearest 16 = .ok (.iload_n 1, 1) := by decide +kernel
theorem dL_nearest_17 : decode cL_nearest 17 = .ok (.iload 4, 2) := by decide +kernel
theorem dL_nearest_19 : decode cL_nearest 19 = .ok (.iadd, 1) := by decide +kernel
theorem dL_nearest_20 : decode cL_nearest 20 = .ok (.iaload, 1) := by decide +kernel
theorem dL_nearest_21 : decode cL_nearest 21 = .ok (.ifCond .ne 12, 3) := by decide +kernel
theorem dL_nearest_24 : decode cL_nearest 24 = .ok (.iload 4, 2) := by decide +kernel
theorem dL_nearest_26 : decode cL_nearest 26 = .ok (.iload_n 3, 1) := by decide +kernel
theorem dL_nearest_27 : decode cL_nearest 27 = .ok (.iadd, 1) := by decide +kernel
theorem dL_nearest_28 : decode cL_nearest 28 = .ok (.istore 4, 2) := by decide +kernel
theorem dL_nearest_30 : decode cL_nearest 30 = .ok (.goto (-27), 3) := by decide +kernel
theorem dL_nearest_33 : decode cL_nearest 33 = .ok (.iload 4, 2) := by decide +kernel
theorem dL_nearest_35 : decode cL_nearest 35 = .ok (.ifCond .lt 15, 3) := by decide +kernel
theorem dL_nearest_38 : decode cL_nearest 38 = .ok (.iload 4, 2) := by decide +kernel
theorem dL_nearest_40 : decode cL_nearest 40 = .ok (.bipush 6, 2) := by decide +kernel
theorem dL_nearest_42 : decode cL_nearest 42 = .ok (.if_icmp .ge 8, 3) := by decide +kernel
theorem dL_nearest_45 : decode cL_nearest 45 = .ok (.iload 4, 2) := by decide +kernel
theorem dL_nearest_47 : decode cL_nearest 47 = .ok (.goto 4, 3) := by decide +kernel
theorem dL_nearest_50 : decode cL_nearest 50 = .ok (.iconst (-1), 1) := by decide +kernel
theorem dL_nearest_51 : decode cL_nearest 51 = .ok (.ireturn, 1) := by decide +kernel
theorem dL_isHeld_0 : decode cL_isHeld 0 = .ok (.aload_n 0, 1) := by decide +kernel
theorem dL_isHeld_1 : decode cL_isHeld 1 = .ok (.iload_n 1, 1) := by decide +kernel
theorem dL_isHeld_2 : decode cL_isHeld 2 = .ok (.iaload, 1) := by decide +kernel
theorem dL_isHeld_3 : decode cL_isHeld 3 = .ok (.bipush 32, 2) := by decide +kernel
theorem dL_isHeld_5 : decode cL_isHeld 5 = .ok (.idiv, 1) := by decide +kernel
theorem dL_isHeld_6 : decode cL_isHeld 6 = .ok (.iconst 4, 1) := by decide +kernel
theorem dL_isHeld_7 : decode cL_isHeld 7 = .ok (.irem, 1) := by decide +kernel
theorem dL_isHeld_8 : decode cL_isHeld 8 = .ok (.iconst 2, 1) := by decide +kernel
theorem dL_isHeld_9 : decode cL_isHeld 9 = .ok (.if_icmp .ne 14, 3) := by decide +kernel
theorem dL_isHeld_12 : decode cL_isHeld 12 = .ok (.iload_n 2, 1) := by decide +kernel
theorem dL_isHeld_13 : decode cL_isHeld 13 = .ok (.iconst 2, 1) := by decide +kernel
theorem dL_isHeld_14 : decode cL_isHeld 14 = .ok (.irem, 1) := by decide +kernel
theorem dL_isHeld_15 : decode cL_isHeld 15 = .ok (.iconst 1, 1) := by decide +kernel
theorem dL_isHeld_16 : decode cL_isHeld 16 = .ok (.if_icmp .ne 7, 3) := by decide +kernel
theorem dL_isHeld_19 : decode cL_isHeld 19 = .ok (.iconst 1, 1) := by decide +kernel
theorem dL_isHeld_20 : decode cL_isHeld 20 = .ok (.goto 4, 3) := by decide +kernel
theorem dL_isHeld_23 : decode cL_isHeld 23 = .ok (.iconst 0, 1) := by decide +kernel
theorem dL_isHeld_24 : decode cL_isHeld 24 = .ok (.ireturn, 1) := by decide +kernel
theorem dL_degree_0 : decode cL_degree 0 = .ok (.aload_n 0, 1) := by decide +kernel
theorem dL_degree_1 : decode cL_degree 1 = .ok (.iload_n 2, 1) := by decide +kernel
theorem dL_degree_2 : decode cL_degree 2 = .ok (.iload 4, 2) := by decide +kernel
theorem dL_degree_4 : decode cL_degree 4 = .ok (.invokestatic 91, 3) := by decide +kernel
theorem dL_degree_7 : decode cL_degree 7 = .ok (.ifCond .eq 10, 3) := by decide +kernel
theorem dL_degree_10 : decode cL_degree 10 = .ok (.iload 4, 2) := by decide +kernel
theorem dL_degree_12 : decode cL_degree 12 = .ok (.iconst 1, 1) := by decide +kernel
theorem dL_degree_13 : decode cL_degree 13 = .ok (.isub, 1) := by decide +kernel
theorem dL_degree_14 : decode cL_degree 14 = .ok (.goto 5, 3) := by decide +kernel
theorem dL_degree_17 : decode cL_degree 17 = .ok (.iload 4, 2) := by decide +kernel
theorem dL_degree_19 : decode cL_degree 19 = .ok (.istore 5, 2) := by decide +kernel
theorem dL_degree_21 : decode cL_degree 21 = .ok (.bipush 18, 2) := by decide +kernel
theorem dL_degree_23 : decode cL_degree 23 = .ok (.iload_n 2, 1) := by decide +kernel
theorem dL_degree_24 : decode cL_degree 24 = .ok (.imul, 1) := by decide +kernel
theorem dL_degree_25 : decode cL_degree 25 = .ok (.bipush 6, 2) := by decide +kernel
theorem dL_degree_27 : decode cL_degree 27 = .ok (.iload_n 3, 1) := by decide +kernel
theorem dL_degree_28 : decode cL_degree 28 = .ok (.imul, 1) := by decide +kernel
theorem dL_degree_29 : decode cL_degree 29 = .ok (.iadd, 1) := by decide +kernel
theorem dL_degree_30 : decode cL_degree 30 = .ok (.istore 6, 2) := by decide +kernel
theorem dL_degree_32 : decode cL_degree 32 = .ok (.aload_n 1, 1) := by decide +kernel
theorem dL_degree_33 : decode cL_degree 33 = .ok (.iload 6, 2) := by decide +kernel
theorem dL_degree_35 : decode cL_degree 35 = .ok (.iload 5, 2) := by decide +kernel
theorem dL_degree_37 : decode cL_degree 37 = .ok (.iconst (-1), 1) := by decide +kernel
theorem dL_degree_38 : decode cL_degree 38 = .ok (.invokestatic 97, 3) := by decide +kernel
theorem dL_degree_41 : decode cL_degree 41 = .ok (.istore 7, 2) := by decide +kernel
theorem dL_degree_43 : decode cL_degree 43 = .ok (.aload_n 1, 1) := by decide +kernel
theorem dL_degree_44 : decode cL_degree 44 = .ok (.iload 6, 2) := by decide +kernel
theorem dL_degree_46 : decode cL_degree 46 = .ok (.iload 5, 2) := by decide +kernel
theorem dL_degree_48 : decode cL_degree 48 = .ok (.iconst 1, 1) := by decide +kernel
theorem dL_degree_49 : decode cL_degree 49 = .ok (.invokestatic 97, 3) := by decide +kernel
theorem dL_degree_52 : decode cL_degree 52 = .ok (.istore 8, 2) := by decide +kernel
theorem dL_degree_54 : decode cL_degree 54 = .ok (.iload 7, 2) := by decide +kernel
theorem dL_degree_56 : decode cL_degree 56 = .ok (.ifCond .ge 10, 3) := by decide +kernel
theorem dL_degree_59 : decode cL_degree 59 = .ok (.iload 8, 2) := by decide +kernel
theorem dL_degree_61 : decode cL_degree 61 = .ok (.ifCond .ge 5, 3) := by decide +kernel
theorem dL_degree_64 : decode cL_degree 64 = .ok (.iconst 0, 1) := by decide +kernel
theorem dL_degree_65 : decode cL_degree 65 = .ok (.ireturn, 1) := by decide +kernel
theorem dL_degree_66 : decode cL_degree 66 = .ok (.aload_n 1, 1) := by decide +kernel
theorem dL_degree_67 : decode cL_degree 67 = .ok (.iload 6, 2) := by decide +kernel
theorem dL_degree_69 : decode cL_degree 69 = .ok (.iload 7, 2) := by decide +kernel
theorem dL_degree_71 : decode cL_degree 71 = .ok (.ifCond .ge 8, 3) := by decide +kernel
theorem dL_degree_74 : decode cL_degree 74 = .ok (.iload 8, 2) := by decide +kernel
theorem dL_degree_76 : decode cL_degree 76 = .ok (.goto 5, 3) := by decide +kernel
theorem dL_degree_79 : decode cL_degree 79 = .ok (.iload 7, 2) := by decide +kernel
theorem dL_degree_81 : decode cL_degree 81 = .ok (.iadd, 1) := by decide +kernel
theorem dL_degree_82 : decode cL_degree 82 = .ok (.iaload, 1) := by decide +kernel
theorem dL_degree_83 : decode cL_degree 83 = .ok (.iconst 1, 1) := by decide +kernel
theorem dL_degree_84 : decode cL_degree 84 = .ok (.isub, 1) := by decide +kernel
theorem dL_degree_85 : decode cL_degree 85 = .ok (.istore 9, 2) := by decide +kernel
theorem dL_degree_87 : decode cL_degree 87 = .ok (.aload_n 1, 1) := by decide +kernel
theorem dL_degree_88 : decode cL_degree 88 = .ok (.iload 6, 2) := by decide +kernel
theorem dL_degree_90 : decode cL_degree 90 = .ok (.iload 8, 2) := by decide +kernel
theorem dL_degree_92 : decode cL_degree 92 = .ok (.ifCond .ge 8, 3) := by decide +kernel
theorem dL_degree_95 : decode cL_degree 95 = .ok (.iload 7, 2) := by decide +kernel
theorem dL_degree_97 : decode cL_degree 97 = .ok (.goto 5, 3) := by decide +kernel
theorem dL_degree_100 : decode cL_degree 100 = .ok (.iload 8, 2) := by decide +kernel
theorem dL_degree_102 : decode cL_degree 102 = .ok (.iadd, 1) := by decide +kernel
theorem dL_degree_103 : decode cL_degree 103 = .ok (.iaload, 1) := by decide +kernel
theorem dL_degree_104 : decode cL_degree 104 = .ok (.iconst 1, 1) := by decide +kernel
theorem dL_degree_105 : decode cL_degree 105 = .ok (.isub, 1) := by decide +kernel
theorem dL_degree_106 : decode cL_degree 106 = .ok (.istore 10, 2) := by decide +kernel
theorem dL_degree_108 : decode cL_degree 108 = .ok (.iload 7, 2) := by decide +kernel
theorem dL_degree_110 : decode cL_degree 110 = .ok (.ifCond .lt 15, 3) := by decide +kernel
theorem dL_degree_113 : decode cL_degree 113 = .ok (.iload 8, 2) := by decide +kernel
theorem dL_degree_115 : decode cL_degree 115 = .ok (.ifCond .lt 10, 3) := by decide +kernel
theorem dL_degree_118 : decode cL_degree 118 = .ok (.iload 7, 2) := by decide +kernel
theorem dL_degree_120 : decode cL_degree 120 = .ok (.iload 8, 2) := by decide +kernel
theorem dL_degree_122 : decode cL_degree 122 = .ok (.if_icmp .ne 16, 3) := by decide +kernel
theorem dL_degree_125 : decode cL_degree 125 = .ok (.iload 7, 2) := by decide +kernel
theorem dL_degree_127 : decode cL_degree 127 = .ok (.ifCond .ge 8, 3) := by decide +kernel
theorem dL_degree_130 : decode cL_degree 130 = .ok (.iload 10, 2) := by decide +kernel
theorem dL_degree_132 : decode cL_degree 132 = .ok (.goto 5, 3) := by decide +kernel
theorem dL_degree_135 : decode cL_degree 135 = .ok (.iload 9, 2) := by decide +kernel
theorem dL_degree_137 : decode cL_degree 137 = .ok (.ireturn, 1) := by decide +kernel
theorem dL_degree_138 : decode cL_degree 138 = .ok (.iload 10, 2) := by decide +kernel
theorem dL_degree_140 : decode cL_degree 140 = .ok (.iload 9, 2) := by decide +kernel
theorem dL_degree_142 : decode cL_degree 142 = .ok (.if_icmp .lt 11, 3) := by decide +kernel
theorem dL_degree_145 : decode cL_degree 145 = .ok (.iload 10, 2) := by decide +kernel
theorem dL_degree_147 : decode cL_degree 147 = .ok (.iload 9, 2) := by decide +kernel
theorem dL_degree_149 : decode cL_degree 149 = .ok (.isub, 1) := by decide +kernel
theorem dL_degree_150 : decode cL_degree 150 = .ok (.goto 12, 3) := by decide +kernel
theorem dL_degree_153 : decode cL_degree 153 = .ok (.iload 10, 2) := by decide +kernel
theorem dL_degree_155 : decode cL_degree 155 = .ok (.iload 9, 2) := by decide +kernel
theorem dL_degree_157 : decode cL_degree 157 = .ok (.isub, 1) := by decide +kernel
theorem dL_degree_158 : decode cL_degree 158 = .ok (.sipush 360, 3) := by decide +kernel
theorem dL_degree_161 : decode cL_degree 161 = .ok (.iadd, 1) := by decide +kernel
theorem dL_degree_162 : decode cL_degree 162 = .ok (.istore 11, 2) := by decide +kernel
theorem dL_degree_164 : decode cL_degree 164 = .ok (.iload 11, 2) := by decide +kernel
theorem dL_degree_166 : decode cL_degree 166 = .ok (.sipush 180, 3) := by decide +kernel
theorem dL_degree_169 : decode cL_degree 169 = .ok (.if_icmp .gt 20, 3) := by decide +kernel
theorem dL_degree_172 : decode cL_degree 172 = .ok (.iload 11, 2) := by decide +kernel
theorem dL_degree_174 : decode cL_degree 174 = .ok (.iload 5, 2) := by decide +kernel
theorem dL_degree_176 : decode cL_degree 176 = .ok (.iload 7, 2) := by decide +kernel
theorem dL_degree_178 : decode cL_degree 178 = .ok (.isub, 1) := by decide +kernel
theorem dL_degree_179 : decode cL_degree 179 = .ok (.imul, 1) := by decide +kernel
theorem dL_degree_180 : decode cL_degree 180 = .ok (.iload 8, 2) := by decide +kernel
theorem dL_degree_182 : decode cL_degree 182 = .ok (.iload 7, 2) := by decide +kernel
theorem dL_degree_184 : decode cL_degree 184 = .ok (.isub, 1) := by decide +kernel
theorem dL_degree_185 : decode cL_degree 185 = .ok (.idiv, 1) := by decide +kernel
theorem dL_degree_186 : decode cL_degree 186 = .ok (.goto 22, 3) := by decide +kernel
theorem dL_degree_189 : decode cL_degree 189 = .ok (.sipush 360, 3) := by decide +kernel
theorem dL_degree_192 : decode cL_degree 192 = .ok (.iload 11, 2) := by decide +kernel
theorem dL_degree_194 : decode cL_degree 194 = .ok (.isub, 1) := by decide +kernel
theorem dL_degree_195 : decode cL_degree 195 = .ok (.iload 5, 2) := by decide +kernel
theorem dL_degree_197 : decode cL_degree 197 = .ok (.iload 7, 2) := by decide +kernel
theorem dL_degree_199 : decode cL_degree 199 = .ok (.isub, 1) := by decide +kernel
theorem dL_degree_200 : decode cL_degree 200 = .ok (.imul, 1) := by decide +kernel
theorem dL_degree_201 : decode cL_degree 201 = .ok (.iload 8, 2) := by decide +kernel
theorem dL_degree_203 : decode cL_degree 203 = .ok (.iload 7, 2) := by decide +kernel
theorem dL_degree_205 : decode cL_degree 205 = .ok (.isub, 1) := by decide +kernel
theorem dL_degree_206 : decode cL_degree 206 = .ok (.idiv, 1) := by decide +kernel
theorem dL_degree_207 : decode cL_degree 207 = .ok (.ineg, 1) := by decide +kernel
theorem dL_degree_208 : decode cL_degree 208 = .ok (.istore 12, 2) := by decide +kernel
theorem dL_degree_210 : decode cL_degree 210 = .ok (.iload 9, 2) := by decide +kernel

theorem dX5_degree_9 : decode cX5_degree 9 = .ok (.getfield 134, 3) := by decide +kernel
theorem dX5_degree_12 : decode cX5_degree 12 = .ok (.iload_n 2, 1) := by decide +kernel
theorem dX5_degree_13 : decode cX5_degree 13 = .ok (.invokestatic 138, 3) := by decide +kernel
theorem dX5_degree_16 : decode cX5_degree 16 = .ok (.aload 4, 2) := by decide +kernel
theorem dX5_degree_18 : decode cX5_degree 18 = .ok (.iload_n 3, 1) := by decide +kernel
theorem dX5_degree_19 : decode cX5_degree 19 = .ok (.invokestatic 142, 3) := by decide +kernel
theorem dX5_degree_22 : decode cX5_degree 22 = .ok (.aload 4, 2) := by decide +kernel
theorem dX5_degree_24 : decode cX5_degree 24 = .ok (.iload_n 2, 1) := by decide +kernel
theorem dX5_degree_25 : decode cX5_degree 25 = .ok (.iload_n 3, 1) := by decide +kernel
theorem dX5_degree_26 : decode cX5_degree 26 = .ok (.invokevirtual 154, 3) := by decide +kernel
theorem dX5_degree_29 : decode cX5_degree 29 = .ok (.ireturn, 1) := by decide +kernel
theorem dX5_mouth_0 : decode cX5_mouth 0 = .ok (.aload_n 0, 1) := by decide +kernel
theorem dX5_mouth_1 : decode cX5_mouth 1 = .ok (.iload_n 1, 1) := by decide +kernel
theorem dX5_mouth_2 : decode cX5_mouth 2 = .ok (.invokevirtual 106, 3) := by decide +kernel
theorem dX5_mouth_5 : decode cX5_mouth 5 = .ok (.astore_n 3, 1) := by decide +kernel
theorem dX5_mouth_6 : decode cX5_mouth 6 = .ok (.aload_n 3, 1) := by decide +kernel
theorem dX5_mouth_7 : decode cX5_mouth 7 = .ok (.iload_n 2, 1) := by decide +kernel
theorem dX5_mouth_8 : decode cX5_mouth 8 = .ok (.invokestatic 142, 3) := by decide +kernel
theorem dX5_mouth_11 : decode cX5_mouth 11 = .ok (.aload_n 0, 1) := by decide +kernel
theorem dX5_mouth_12 : decode cX5_mouth 12 = .ok (.aload_n 3, 1) := by decide +kernel
theorem dX5_mouth_13 : decode cX5_mouth 13 = .ok (.iload_n 2, 1) := by decide +kernel
theorem dX5_mouth_14 : decode cX5_mouth 14 = .ok (.invokevirtual 231, 3) := by decide +kernel
theorem dX5_mouth_17 : decode cX5_mouth 17 = .ok (.ireturn, 1) := by decide +kernel
theorem dX5_place_0 : decode cX5_place 0 = .ok (.aload_n 0, 1) := by decide +kernel
theorem dX5_place_1 : decode cX5_place 1 = .ok (.iload_n 1, 1) := by decide +kernel
theorem dX5_place_2 : decode cX5_place 2 = .ok (.invokevirtual 106, 3) := by decide +kernel
theorem dX5_place_5 : decode cX5_place 5 = .ok (.astore_n 3, 1) := by decide +kernel
theorem dX5_place_6 : decode cX5_place 6 = .ok (.aload_n 3, 1) := by decide +kernel
theorem dX5_place_7 : decode cX5_place 7 = .ok (.iload_n 2, 1) := by decide +kernel
theorem dX5_place_8 : decode cX5_place 8 = .ok (.invokestatic 142, 3) := by decide +kernel
theorem dX5_place_11 : decode cX5_place 11 = .ok (.aload_n 3, 1) := by decide +kernel
theorem dX5_place_12 : decode cX5_place 12 = .ok (.getfield 167, 3) := by decide +kernel
theorem dX5_place_15 : decode cX5_place 15 = .ok (.iload_n 2, 1) := by decide +kernel
theorem dX5_place_16 : decode cX5_place 16 = .ok (.invokevirtual 171, 3) := by decide +kernel
theorem dX5_place_19 : decode cX5_place 19 = .ok (.ireturn, 1) := by decide +kernel
theorem dX5_wants_0 : decode cX5_wants 0 = .ok (.aload_n 0, 1) := by decide +kernel
theorem dX5_wants_1 : decode cX5_wants 1 = .ok (.iload_n 1, 1) := by decide +kernel
theorem dX5_wants_2 : decode cX5_wants 2 = .ok (.invokevirtual 106, 3) := by decide +kernel
theorem dX5_wants_5 : decode cX5_wants 5 = .ok (.astore_n 3, 1) := by decide +kernel
theorem dX5_wants_6 : decode cX5_wants 6 = .ok (.iload_n 2, 1) := by decide +kernel
theorem dX5_wants_7 : decode cX5_wants 7 = .ok (.invokestatic 77, 3) := by decide +kernel
theorem dX5_wants_10 : decode cX5_wants 10 = .ok (.iconst 0, 1) := by decide +kernel
theorem dX5_wants_11 : decode cX5_wants 11 = .ok (.istore 4, 2) := by decide +kernel
theorem dX5_wants_13 : decode cX5_wants 13 = .ok (.iconst (-1), 1) := by decide +kernel
theorem dX5_wants_14 : decode cX5_wants 14 = .ok (.istore 5, 2) := by decide +kernel
theorem dX5_wants_16 : decode cX5_wants 16 = .ok (.iconst 0, 1) := by decide +kernel
theorem dX5_wants_17 : decode cX5_wants 17 = .ok (.istore 6, 2) := by decide +kernel
theorem dX5_wants_19 : decode cX5_wants 19 = .ok (.iload 6, 2) := by decide +kernel
theorem dX5_wants_21 : decode cX5_wants 21 = .ok (.aload_n 3, 1) := by decide +kernel
theorem dX5_wants_22 : decode cX5_wants 22 = .ok (.getfield 235, 3) := by decide +kernel
theorem dX5_wants_25 : decode cX5_wants 25 = .ok (.if_icmp .ge 38, 3) := by decide +kernel
theorem dX5_wants_28 : decode cX5_wants 28 = .ok (.aload_n 0, 1) := by decide +kernel
theorem dX5_wants_29 : decode cX5_wants 29 = .ok (.aload_n 3, 1) := by decide +kernel
theorem dX5_wants_30 : decode cX5_wants 30 = .ok (.iload 6, 2) := by decide +kernel
theorem dX5_wants_32 : decode cX5_wants 32 = .ok (.invokevirtual 231, 3) := by decide +kernel
theorem dX5_wants_35 : decode cX5_wants 35 = .ok (.istore 7, 2) := by decide +kernel
theorem dX5_wants_37 : decode cX5_wants 37 = .ok (.iload 7, 2) := by decide +kernel
theorem dX5_wants_39 : decode cX5_wants 39 = .ok (.iload_n 2, 1) := by decide +kernel
theorem dX5_wants_40 : decode cX5_wants 40 = .ok (.if_icmp .ne 13, 3) := by decide +kernel
theorem dX5_wants_43 : decode cX5_wants 43 = .ok (.iload 7, 2) := by decide +kernel
theorem dX5_wants_45 : decode cX5_wants 45 = .ok (.iload 5, 2) := by decide +kernel
theorem dX5_wants_47 : decode cX5_wants 47 = .ok (.if_icmp .eq 6, 3) := by decide +kernel
theorem dX5_wants_50 : decode cX5_wants 50 = .ok (.iinc 4 1, 3) := by decide +kernel
theorem dX5_wants_53 : decode cX5_wants 53 = .ok (.iload 7, 2) := by decide +kernel
theorem dX5_wants_55 : decode cX5_wants 55 = .ok (.istore 5, 2) := by decide +kernel
theorem dX5_wants_57 : decode cX5_wants 57 = .ok (.iinc 6 1, 3) := by decide +kernel
theorem dX5_wants_60 : decode cX5_wants 60 = .ok (.goto (-41), 3) := by decide +kernel
theorem dX5_wants_63 : decode cX5_wants 63 = .ok (.iload 4, 2) := by decide +kernel
theorem dX5_wants_65 : decode cX5_wants 65 = .ok (.ireturn, 1) := by decide +kernel
theorem dX5_bars_0 : decode cX5_bars 0 = .ok (.aload_n 0, 1) := by decide +kernel
theorem dX5_bars_1 : decode cX5_bars 1 = .ok (.aload_n 0, 1) := by decide +kernel
theorem dX5_bars_2 : decode cX5_bars 2 = .ok (.iload_n 1, 1) := by decide +kernel
theorem dX5_bars_3 : decode cX5_bars 3 = .ok (.invokevirtual 106, 3) := by decide +kernel
theorem dX5_bars_6 : decode cX5_bars 6 = .ok (.invokevirtual 175, 3) := by decide +kernel
theorem dX5_bars_9 : decode cX5_bars 9 = .ok (.ireturn, 1) := by decide +kernel
theorem dX5_wears_0 : decode cX5_wears 0 = .ok (.aload_n 0, 1) := by decide +kernel
theorem dX5_wears_1 : decode cX5_wears 1 = .ok (.iload_n 1, 1) := by decide +kernel
theorem dX5_wears_2 : decode cX5_wears 2 = .ok (.invokevirtual 106, 3) := by decide +kernel
theorem dX5_wears_5 : decode cX5_wears 5 = .ok (.astore_n 3, 1) := by decide +kernel
theorem dX5_wears_6 : decode cX5_wears 6 = .ok (.aload_n 3, 1) := by decide +kernel
theorem dX5_wears_7 : decode cX5_wears 7 = .ok (.getfield 134, 3) := by decide +kernel
theorem dX5_wears_10 : decode cX5_wears 10 = .ok (.iload_n 2, 1) := by decide +kernel
theorem dX5_wears_11 : decode cX5_wears 11 = .ok (.invokestatic 138, 3) := by decide +kernel
theorem dX5_wears_14 : decode cX5_wears 14 = .ok (.aload_n 3, 1) := by decide +kernel
theorem dX5_wears_15 : decode cX5_wears 15 = .ok (.getfield 134, 3) := by decide +kernel
theorem dX5_wears_18 : decode cX5_wears 18 = .ok (.getfield 238, 3) := by decide +kernel
theorem dX5_wears_21 : decode cX5_wears 21 = .ok (.iload_n 2, 1) := by decide +kernel
theorem dX5_wears_22 : decode cX5_wears 22 = .ok (.iaload, 1) := by decide +kernel
theorem dX5_wears_23 : decode cX5_wears 23 = .ok (.istore 4, 2) := by decide +kernel
theorem dX5_wears_25 : decode cX5_wears 25 = .ok (.iconst 0, 1) := by decide +kernel
theorem dX5_wears_26 : decode cX5_wears 26 = .ok (.istore 5, 2) := by decide +kernel
theorem dX5_wears_28 : decode cX5_wears 28 = .ok (.aload_n 3, 1) := by decide +kernel
theorem dX5_wears_29 : decode cX5_wears 29 = .ok (.getfield 182, 3) := by decide +kernel
theorem dX5_wears_32 : decode cX5_wears 32 = .ok (.getfield 186, 3) := by decide +kernel
theorem dX5_wears_35 : decode cX5_wears 35 = .ok (.istore 6, 2) := by decide +kernel
theorem dX5_wears_37 : decode cX5_wears 37 = .ok (.iload 6, 2) := by decide +kernel
theorem dX5_wears_39 : decode cX5_wears 39 = .ok (.aload_n 3, 1) := by decide +kernel
theorem dX5_wears_40 : decode cX5_wears 40 = .ok (.getfield 235, 3) := by decide +kernel
theorem dX5_wears_43 : decode cX5_wears 43 = .ok (.if_icmp .ge 46, 3) := by decide +kernel
theorem dX5_wears_46 : decode cX5_wears 46 = .ok (.aload_n 3, 1) := by decide +kernel
theorem dX5_wears_47 : decode cX5_wears 47 = .ok (.iload 6, 2) := by decide +kernel
theorem dX5_wears_49 : decode cX5_wears 49 = .ok (.invokevirtual 149, 3) := by decide +kernel
theorem dX5_wears_52 : decode cX5_wears 52 = .ok (.ifCond .ne 31, 3) := by decide +kernel
theorem dX5_wears_55 : decode cX5_wears 55 = .ok (.aload_n 3, 1) := by decide +kernel
theorem dX5_wears_56 : decode cX5_wears 56 = .ok (.iload_n 2, 1) := by decide +kernel
theorem dX5_wears_57 : decode cX5_wears 57 = .ok (.iload 6, 2) := by decide +kernel
theorem dX5_wears_59 : decode cX5_wears 59 = .ok (.invokevirtual 154, 3) := by decide +kernel
theorem dX5_wears_62 : decode cX5_wears 62 = .ok (.istore 7, 2) := by decide +kernel
theorem dX5_wears_64 : decode cX5_wears 64 = .ok (.iload 5, 2) := by decide +kernel
theorem dX5_wears_66 : decode cX5_wears 66 = .ok (.iload 4, 2) := by decide +kernel
theorem dX5_wears_68 : decode cX5_wears 68 = .ok (.iload 7, 2) := by decide +kernel
theorem dX5_wears_70 : decode cX5_wears 70 = .ok (.invokestatic 241, 3) := by decide +kernel
theorem dX5_wears_73 : decode cX5_wears 73 = .ok (.invokestatic 244, 3) := by decide +kernel
theorem dX5_wears_76 : decode cX5_wears 76 = .ok (.iadd, 1) := by decide +kernel
theorem dX5_wears_77 : decode cX5_wears 77 = .ok (.istore 5, 2) := by decide +kernel
theorem dX5_wears_79 : decode cX5_wears 79 = .ok (.iload 7, 2) := by decide +kernel
theorem dX5_wears_81 : decode cX5_wears 81 = .ok (.istore 4, 2) := by decide +kernel
theorem dX5_wears_83 : decode cX5_wears 83 = .ok (.iinc 6 1, 3) := by decide +kernel
theorem dX5_wears_86 : decode cX5_wears 86 = .ok (.goto (-49), 3) := by decide +kernel
theorem dX5_wears_89 : decode cX5_wears 89 = .ok (.iload 5, 2) := by decide +kernel
theorem dX5_wears_91 : decode cX5_wears 91 = .ok (.ireturn, 1) := by decide +kernel
theorem dX5_struck_0 : decode cX5_struck 0 = .ok (.aload_n 0, 1) := by decide +kernel
theorem dX5_struck_1 : decode cX5_struck 1 = .ok (.iload_n 1, 1) := by decide +kernel
theorem dX5_struck_2 : decode cX5_struck 2 = .ok (.invokevirtual 106, 3) := by decide +kernel
theorem dX5_struck_5 : decode cX5_struck 5 = .ok (.getfield 182, 3) := by decide +kernel
theorem dX5_struck_8 : decode cX5_struck 8 = .ok (.getfield 186, 3) := by decide +kernel
theorem dX5_struck_11 : decode cX5_struck 11 = .ok (.ireturn, 1) := by decide +kernel
theorem dX5_pose_0 : decode cX5_pose 0 = .ok (.aload_n 0, 1) := by decide +kernel
theorem dX5_pose_1 : decode cX5_pose 1 = .ok (.iload_n 1, 1) := by decide +kernel
theorem dX5_pose_2 : decode cX5_pose 2 = .ok (.invokevirtual 106, 3) := by decide +kernel
theorem dX5_pose_5 : decode cX5_pose 5 = .ok (.astore 4, 2) := by decide +kernel
theorem dX5_pose_7 : decode cX5_pose 7 = .ok (.aload 4, 2) := by decide +kernel
theorem dX5_pose_9 : decode cX5_pose 9 = .ok (.getfield 134, 3) := by decide +kernel
theorem dX5_pose_12 : decode cX5_pose 12 = .ok (.iload_n 2, 1) := by decide +kernel
theorem dX5_pose_13 : decode cX5_pose 13 = .ok (.invokestatic 138, 3) := by decide +kernel
theorem dX5_pose_16 : decode cX5_pose 16 = .ok (.aload 4, 2) := by decide +kernel
theorem dX5_pose_18 : decode cX5_pose 18 = .ok (.iload_n 3, 1) := by decide +kernel
theorem dX5_pose_19 : decode cX5_pose 19 = .ok (.invokestatic 249, 3) := by decide +kernel
theorem dX5_pose_22 : decode cX5_pose 22 = .ok (.aload 4, 2) := by decide +kernel
theorem dX5_pose_24 : decode cX5_pose 24 = .ok (.getfield 182, 3) := by decide +kernel
theorem dX5_pose_27 : decode cX5_pose 27 = .ok (.getfield 252, 3) := by decide +kernel
theorem dX5_pose_30 : decode cX5_pose 30 = .ok (.iload_n 2, 1) := by decide +kernel
theorem dX5_pose_31 : decode cX5_pose 31 = .ok (.aaload, 1) := by decide +kernel
theorem dX5_pose_32 : decode cX5_pose 32 = .ok (.iload_n 3, 1) := by decide +kernel
theorem dX5_pose_33 : decode cX5_pose 33 = .ok (.iaload, 1) := by decide +kernel
theorem dX5_pose_34 : decode cX5_pose 34 = .ok (.ireturn, 1) := by decide +kernel
theorem dX5_ofFrame_0 : decode cX5_ofFrame 0 = .ok (.aload_n 0, 1) := by decide +kernel
theorem dX5_ofFrame_1 : decode cX5_ofFrame 1 = .ok (.iload_n 1, 1) := by decide +kernel
theorem dX5_ofFrame_2 : decode cX5_ofFrame 2 = .ok (.invokevirtual 106, 3) := by decide +kernel
theorem dX5_ofFrame_5 : decode cX5_ofFrame 5 = .ok (.astore 4, 2) := by decide +kernel
theorem dX5_ofFrame_7 : decode cX5_ofFrame 7 = .ok (.aload 4, 2) := by decide +kernel
theorem dX5_ofFrame_9 : decode cX5_ofFrame 9 = .ok (.iload_n 2, 1) := by decide +kernel
theorem dX5_ofFrame_10 : decode cX5_ofFrame 10 = .ok (.invokestatic 249, 3) := by decide +kernel
theorem dX5_ofFrame_13 : decode cX5_ofFrame 13 = .ok (.iload_n 3, 1) := by decide +kernel
theorem dX5_ofFrame_14 : decode cX5_ofFrame 14 = .ok (.iconst 0, 1) := by decide +kernel
theorem dX5_ofFrame_15 : decode cX5_ofFrame 15 = .ok (.iconst 3, 1) := by decide +kernel
theorem dX5_ofFrame_16 : decode cX5_ofFrame 16 = .ok (.invokestatic 59, 3) := by decide +kernel
theorem dX5_ofFrame_19 : decode cX5_ofFrame 19 = .ok (.iload_n 3, 1) := by decide +kernel
theorem dX5_ofFrame_20 : decode cX5_ofFrame 20 = .ok (.tableswitch 61 0 2 #[28, 39, 50], 28) := by decide +kernel
theorem dX5_ofFrame_48 : decode cX5_ofFrame 48 = .ok (.aload 4, 2) := by decide +kernel
theorem dX5_ofFrame_50 : decode cX5_ofFrame 50 = .ok (.getfield 182, 3) := by decide +kernel
theorem dX5_ofFrame_53 : decode cX5_ofFrame 53 = .ok (.getfield 256, 3) := by decide +kernel
theorem dX5_ofFrame_56 : decode cX5_ofFrame 56 = .ok (.iload_n 2, 1) := by decide +kernel
theorem dX5_ofFrame_57 : decode cX5_ofFrame 57 = .ok (.iaload, 1) := by decide +kernel
theorem dX5_ofFrame_58 : decode cX5_ofFrame 58 = .ok (.ireturn, 1) := by decide +kernel
theorem dX5_ofFrame_59 : decode cX5_ofFrame 59 = .ok (.aload 4, 2) := by decide +kernel
theorem dX5_ofFrame_61 : decode cX5_ofFrame 61 = .ok (.getfield 182, 3) := by decide +kernel
theorem dX5_ofFrame_64 : decode cX5_ofFrame 64 = .ok (.getfield 259, 3) := by decide +kernel
theorem dX5_ofFrame_67 : decode cX5_ofFrame 67 = .ok (.iload_n 2, 1) := by decide +kernel
theorem dX5_ofFrame_68 : decode cX5_ofFrame 68 = .ok (.iaload, 1) := by decide +kernel
theorem dX5_ofFrame_69 : decode cX5_ofFrame 69 = .ok (.ireturn, 1) := by decide +kernel
theorem dX5_ofFrame_70 : decode cX5_ofFrame 70 = .ok (.aload 4, 2) := by decide +kernel
theorem dX5_ofFrame_72 : decode cX5_ofFrame 72 = .ok (.getfield 182, 3) := by decide +kernel
theorem dX5_ofFrame_75 : decode cX5_ofFrame 75 = .ok (.getfield 262, 3) := by decide +kernel
theorem dX5_ofFrame_78 : decode cX5_ofFrame 78 = .ok (.iload_n 2, 1) := by decide +kernel
theorem dX5_ofFrame_79 : decode cX5_ofFrame 79 = .ok (.iaload, 1) := by decide +kernel
theorem dX5_ofFrame_80 : decode cX5_ofFrame 80 = .ok (.ireturn, 1) := by decide +kernel
theorem dX5_ofFrame_81 : decode cX5_ofFrame 81 = .ok (.aload 4, 2) := by decide +kernel
theorem dX5_ofFrame_83 : decode cX5_ofFrame 83 = .ok (.getfield 182, 3) := by decide +kernel
theorem dX5_ofFrame_86 : decode cX5_ofFrame 86 = .ok (.getfield 265, 3) := by decide +kernel
theorem dX5_ofFrame_89 : decode cX5_ofFrame 89 = .ok (.iload_n 2, 1) := by decide +kernel
theorem dX5_ofFrame_90 : decode cX5_ofFrame 90 = .ok (.iaload, 1) := by decide +kernel
theorem dX5_ofFrame_91 : decode cX5_ofFrame 91 = .ok (.ireturn, 1) := by decide +kernel
theorem dX5_faults_0 : decode cX5_faults 0 = .ok (.aload_n 0, 1) := by decide +kernel
theorem dX5_faults_1 : decode cX5_faults 1 = .ok (.iload_n 1, 1) := by decide +kernel
theorem dX5_faults_2 : decode cX5_faults 2 = .ok (.invokevirtual 106, 3) := by decide +kernel
theorem dX5_faults_5 : decode cX5_faults 5 = .ok (.astore_n 3, 1) := by decide +kernel
theorem dX5_faults_6 : decode cX5_faults 6 = .ok (.aload_n 3, 1) := by decide +kernel
theorem dX5_faults_7 : decode cX5_faults 7 = .ok (.iload_n 2, 1) := by decide +kernel
theorem dX5_faults_8 : decode cX5_faults 8 = .ok (.invokestatic 249, 3) := by decide +kernel
theorem dX5_faults_11 : decode cX5_faults 11 = .ok (.aload_n 3, 1) := by decide +kernel
theorem dX5_faults_12 : decode cX5_faults 12 = .ok (.getfield 182, 3) := by decide +kernel
theorem dX5_faults_15 : decode cX5_faults 15 = .ok (.astore 4, 2) := by decide +kernel
theorem dX5_faults_17 : decode cX5_faults 17 = .ok (.aload_n 3, 1) := by decide +kernel
theorem dX5_faults_18 : decode cX5_faults 18 = .ok (.iload_n 2, 1) := by decide +kernel
theorem dX5_faults_19 : decode cX5_faults 19 = .ok (.invokevirtual 268, 3) := by decide +kernel
theorem dX5_faults_22 : decode cX5_faults 22 = .ok (.ifCond .eq 7, 3) := by decide +kernel
theorem dX5_faults_25 : decode cX5_faults 25 = .ok (.iconst 0, 1) := by decide +kernel
theorem dX5_faults_26 : decode cX5_faults 26 = .ok (.goto 4, 3) := by decide +kernel
theorem dX5_faults_29 : decode cX5_faults 29 = .ok (.iconst 1, 1) := by decide +kernel
theorem dX5_faults_30 : decode cX5_faults 30 = .ok (.istore 5, 2) := by decide +kernel
theorem dX5_faults_32 : decode cX5_faults 32 = .ok (.aload 4, 2) := by decide +kernel
theorem dX5_faults_34 : decode cX5_faults 34 = .ok (.getfield 256, 3) := by decide +kernel
theorem dX5_faults_37 : decode cX5_faults 37 = .ok (.iload_n 2, 1) := by decide +kernel
theorem dX5_faults_38 : decode cX5_faults 38 = .ok (.iaload, 1) := by decide +kernel
theorem dX5_faults_39 : decode cX5_faults 39 = .ok (.aload_n 0, 1) := by decide +kernel
theorem dX5_faults_40 : decode cX5_faults 40 = .ok (.aload_n 3, 1) := by decide +kernel
theorem dX5_faults_41 : decode cX5_faults 41 = .ok (.iload_n 2, 1) := by decide +kernel
theorem dX5_faults_42 : decode cX5_faults 42 = .ok (.invokevirtual 231, 3) := by decide +kernel
theorem dX5_faults_45 : decode cX5_faults 45 = .ok (.if_icmp .eq 9, 3) := by decide +kernel
theorem dX5_faults_48 : decode cX5_faults 48 = .ok (.iload 5, 2) := by decide +kernel
theorem dX5_faults_50 : decode cX5_faults 50 = .ok (.iconst 2, 1) := by decide +kernel
theorem dX5_faults_51 : decode cX5_faults 51 = .ok (.ior, 1) := by decide +kernel
theorem dX5_faults_52 : decode cX5_faults 52 = .ok (.istore 5, 2) := by decide +kernel
theorem dX5_faults_54 : decode cX5_faults 54 = .ok (.aload 4, 2) := by decide +kernel
theorem dX5_faults_56 : decode cX5_faults 56 = .ok (.getfield 265, 3) := by decide +kernel
theorem dX5_faults_59 : decode cX5_faults 59 = .ok (.iload_n 2, 1) := by decide +kernel
theorem dX5_faults_60 : decode cX5_faults 60 = .ok (.iaload, 1) := by decide +kernel
theorem dX5_faults_61 : decode cX5_faults 61 = .ok (.ifCond .eq 9, 3) := by decide +kernel
theorem dX5_faults_64 : decode cX5_faults 64 = .ok (.iload 5, 2) := by decide +kernel
theorem dX5_faults_66 : decode cX5_faults 66 = .ok (.iconst 4, 1) := by decide +kernel
theorem dX5_faults_67 : decode cX5_faults 67 = .ok (.ior, 1) := by decide +kernel
theorem dX5_faults_68 : decode cX5_faults 68 = .ok (.istore 5, 2) := by decide +kernel
theorem dX5_faults_70 : decode cX5_faults 70 = .ok (.iload_n 2, 1) := by decide +kernel
theorem dX5_faults_71 : decode cX5_faults 71 = .ok (.ifCond .le 35, 3) := by decide +kernel
theorem dX5_faults_74 : decode cX5_faults 74 = .ok (.aload 4, 2) := by decide +kernel
theorem dX5_faults_76 : decode cX5_faults 76 = .ok (.getfield 262, 3) := by decide +kernel
theorem dX5_faults_79 : decode cX5_faults 79 = .ok (.iload_n 2, 1) := by decide +kernel
theorem dX5_faults_80 : decode cX5_faults 80 = .ok (.iaload, 1) := by decide +kernel
theorem dX5_faults_81 : decode cX5_faults 81 = .ok (.aload 4, 2) := by decide +kernel
theorem dX5_faults_83 : decode cX5_faults 83 = .ok (.getfield 262, 3) := by decide +kernel
theorem dX5_faults_86 : decode cX5_faults 86 = .ok (.iload_n 2, 1) := by decide +kernel
theorem dX5_faults_87 : decode cX5_faults 87 = .ok (.iconst 1, 1) := by decide +kernel
theorem dX5_faults_88 : decode cX5_faults 88 = .ok (.isub, 1) := by decide +kernel
theorem dX5_faults_89 : decode cX5_faults 89 = .ok (.iaload, 1) := by decide +kernel
theorem dX5_faults_90 : decode cX5_faults 90 = .ok (.isub, 1) := by decide +kernel
theorem dX5_faults_91 : decode cX5_faults 91 = .ok (.invokestatic 244, 3) := by decide +kernel
theorem dX5_faults_94 : decode cX5_faults 94 = .ok (.bipush 20, 2) := by decide +kernel
theorem dX5_faults_96 : decode cX5_faults 96 = .ok (.if_icmp .le 10, 3) := by decide +kernel
theorem dX5_faults_99 : decode cX5_faults 99 = .ok (.iload 5, 2) := by decide +kernel
theorem dX5_faults_101 : decode cX5_faults 101 = .ok (.bipush 8, 2) := by decide +kernel
theorem dX5_faults_103 : decode cX5_faults 103 = .ok (.ior, 1) := by decide +kernel
theorem dX5_faults_104 : decode cX5_faults 104 = .ok (.istore 5, 2) := by decide +kernel
theorem dX5_faults_106 : decode cX5_faults 106 = .ok (.aload 4, 2) := by decide +kernel
theorem dX5_faults_108 : decode cX5_faults 108 = .ok (.getfield 259, 3) := by decide +kernel
theorem dX5_faults_111 : decode cX5_faults 111 = .ok (.iload_n 2, 1) := by decide +kernel
theorem dX5_faults_112 : decode cX5_faults 112 = .ok (.iaload, 1) := by decide +kernel
theorem dX5_faults_113 : decode cX5_faults 113 = .ok (.aload_n 3, 1) := by decide +kernel
theorem dX5_faults_114 : decode cX5_faults 114 = .ok (.getfield 167, 3) := by decide +kernel
theorem dX5_faults_117 : decode cX5_faults 117 = .ok (.iload_n 2, 1) := by decide +kernel
theorem dX5_faults_118 : decode cX5_faults 118 = .ok (.invokevirtual 171, 3) := by decide +kernel
theorem dX5_faults_121 : decode cX5_faults 121 = .ok (.if_icmp .eq 10, 3) := by decide +kernel
theorem dX5_faults_124 : decode cX5_faults 124 = .ok (.iload 5, 2) := by decide +kernel
theorem dX5_faults_126 : decode cX5_faults 126 = .ok (.bipush 16, 2) := by decide +kernel
theorem dX5_faults_128 : decode cX5_faults 128 = .ok (.ior, 1) := by decide +kernel
theorem dX5_faults_129 : decode cX5_faults 129 = .ok (.istore 5, 2) := by decide +kernel
theorem dX5_faults_131 : decode cX5_faults 131 = .ok (.iload 5, 2) := by decide +kernel
theorem dX5_faults_133 : decode cX5_faults 133 = .ok (.ireturn, 1) := by decide +kernel
theorem dX5_ofJoint_0 : decode cX5_ofJoint 0 = .ok (.aload_n 0, 1) := by decide +kernel
theorem dX5_ofJoint_1 : decode cX5_ofJoint 1 = .ok (.iload_n 1, 1) := by decide +kernel
theorem dX5_ofJoint_2 : decode cX5_ofJoint 2 = .ok (.invokevirtual 73, 3) := by decide +kernel
theorem dX5_ofJoint_5 : decode cX5_ofJoint 5 = .ok (.astore 4, 2) := by decide +kernel
theorem dX5_ofJoint_7 : decode cX5_ofJoint 7 = .ok (.aload 4, 2) := by decide +kernel
theorem dX5_ofJoint_9 : decode cX5_ofJoint 9 = .ok (.iload_n 2, 1) := by decide +kernel
theorem dX5_ofJoint_10 : decode cX5_ofJoint 10 = .ok (.invokestatic 138, 3) := by decide +kernel
theorem dX5_ofJoint_13 : decode cX5_ofJoint 13 = .ok (.iload_n 3, 1) := by decide +kernel
theorem dX5_ofJoint_14 : decode cX5_ofJoint 14 = .ok (.iconst 0, 1) := by decide +kernel
theorem dX5_ofJoint_15 : decode cX5_ofJoint 15 = .ok (.iconst 1, 1) := by decide +kernel
theorem dX5_ofJoint_16 : decode cX5_ofJoint 16 = .ok (.invokestatic 59, 3) := by decide +kernel
theorem dX5_ofJoint_19 : decode cX5_ofJoint 19 = .ok (.iload_n 3, 1) := by decide +kernel
theorem dX5_ofJoint_20 : decode cX5_ofJoint 20 = .ok (.ifCond .ne 13, 3) := by decide +kernel
theorem dX5_ofJoint_23 : decode cX5_ofJoint 23 = .ok (.aload 4, 2) := by decide +kernel
theorem dX5_ofJoint_25 : decode cX5_ofJoint 25 = .ok (.getfield 238, 3) := by decide +kernel
theorem dX5_ofJoint_28 : decode cX5_ofJoint 28 = .ok (.iload_n 2, 1) := by decide +kernel
theorem dX5_ofJoint_29 : decode cX5_ofJoint 29 = .ok (.iaload, 1) := by decide +kernel
theorem dX5_ofJoint_30 : decode cX5_ofJoint 30 = .ok (.goto 10, 3) := by decide +kernel
theorem dX5_ofJoint_33 : decode cX5_ofJoint 33 = .ok (.aload 4, 2) := by decide +kernel
theorem dX5_ofJoint_35 : decode cX5_ofJoint 35 = .ok (.getfield 218, 3) := by decide +kernel
theorem dX5_ofJoint_38 : decode cX5_ofJoint 38 = .ok (.iload_n 2, 1) := by decide +kernel
theorem dX5_ofJoint_39 : decode cX5_ofJoint 39 = .ok (.iaload, 1) := by decide +kernel
theorem dX5_ofJoint_40 : decode cX5_ofJoint 40 = .ok (.ireturn, 1) := by decide +kernel
theorem dX5_left_0 : decode cX5_left 0 = .ok (.aload_n 0, 1) := by decide +kernel
theorem dX5_left_1 : decode cX5_left 1 = .ok (.iload_n 1, 1) := by decide +kernel
theorem dX5_left_2 : decode cX5_left 2 = .ok (.invokevirtual 73, 3) := by decide +kernel
theorem dX5_left_5 : decode cX5_left 5 = .ok (.astore_n 3, 1) := by decide +kernel
theorem dX5_left_6 : decode cX5_left 6 = .ok (.iload_n 2, 1) := by decide +kernel
theorem dX5_left_7 : decode cX5_left 7 = .ok (.invokestatic 77, 3) := by decide +kernel
theorem dX5_left_10 : decode cX5_left 10 = .ok (.aload_n 3, 1) := by decide +kernel
theorem dX5_left_11 : decode cX5_left 11 = .ok (.getfield 80, 3) := by decide +kernel
theorem dX5_left_14 : decode cX5_left 14 = .ok (.iload_n 2, 1) := by decide +kernel
theorem dX5_left_15 : decode cX5_left 15 = .ok (.iaload, 1) := by decide +kernel
theorem dX5_left_16 : decode cX5_left 16 = .ok (.ireturn, 1) := by decide +kernel
theorem dX5_light_0 : decode cX5_light 0 = .ok (.aload_n 0, 1) := by decide +kernel
theorem dX5_light_1 : decode cX5_light 1 = .ok (.invokevirtual 195, 3) := by decide +kernel
theorem dX5_light_4 : decode cX5_light 4 = .ok (.ireturn, 1) := by decide +kernel
theorem dX5_film_0 : decode cX5_film 0 = .ok (.iload_n 1, 1) := by decide +kernel
theorem dX5_film_1 : decode cX5_film 1 = .ok (.ifCond .ge 14, 3) := by decide +kernel
theorem dX5_film_4 : decode cX5_film 4 = .ok (.new 271, 3) := by decide +kernel
theorem dX5_film_7 : decode cX5_film 7 = .ok (.dup, 1) := by decide +kernel
theorem dX5_film_8 : decode cX5_film 8 = .ok (.ldc_w 273, 3) := by decide +kernel
theorem dX5_film_11 : decode cX5_film 11 = .ok (.invokespecial 275, 3) := by decide +kernel
theorem dX5_film_14 : decode cX5_film 14 = .ok (.athrow, 1) := by decide +kernel
theorem dX5_film_15 : decode cX5_film 15 = .ok (.iconst 0, 1) := by decide +kernel
theorem dX5_film_16 : decode cX5_film 16 = .ok (.istore_n 2, 1) := by decide +kernel
theorem dX5_film_17 : decode cX5_film 17 = .ok (.iconst 0, 1) := by decide +kernel
theorem dX5_film_18 : decode cX5_film 18 = .ok (.istore_n 3, 1) := by decide +kernel
theorem dX5_film_19 : decode cX5_film 19 = .ok (.iload_n 3, 1) := by decide +kernel
theorem dX5_film_20 : decode cX5_film 20 = .ok (.aload_n 0, 1) := by decide +kernel
theorem dX5_film_21 : decode cX5_film 21 = .ok (.getfield 50, 3) := by decide +kernel
theorem dX5_film_24 : decode cX5_film 24 = .ok (.if_icmp .ge 52, 3) := by decide +kernel
theorem dX5_film_27 : decode cX5_film 27 = .ok (.aload_n 0, 1) := by decide +kernel
theorem dX5_film_28 : decode cX5_film 28 = .ok (.getfield 35, 3) := by decide +kernel
theorem dX5_film_31 : decode cX5_film 31 = .ok (.aload_n 0, 1) := by decide +kernel
theorem dX5_film_32 : decode cX5_film 32 = .ok (.getfield 46, 3) := by decide +kernel
theorem dX5_film_35 : decode cX5_film 35 = .ok (.iload_n 3, 1) := by decide +kernel
theorem dX5_film_36 : decode cX5_film 36 = .ok (.iaload, 1) := by decide +kernel
theorem dX5_film_37 : decode cX5_film 37 = .ok (.aaload, 1) := by decide +kernel
theorem dX5_film_38 : decode cX5_film 38 = .ok (.getfield 235, 3) := by decide +kernel
theorem dX5_film_41 : decode cX5_film 41 = .ok (.istore 4, 2) := by decide +kernel
theorem dX5_film_43 : decode cX5_film 43 = .ok (.iload_n 1, 1) := by decide +kernel
theorem dX5_film_44 : decode cX5_film 44 = .ok (.iload_n 2, 1) := by decide +kernel
theorem dX5_film_45 : decode cX5_film 45 = .ok (.isub, 1) := by decide +kernel
theorem dX5_film_46 : decode cX5_film 46 = .ok (.iload 4, 2) := by decide +kernel
theorem dX5_film_48 : decode cX5_film 48 = .ok (.if_icmp .ge 17, 3) := by decide +kernel
theorem dX5_film_51 : decode cX5_film 51 = .ok (.bipush 100, 2) := by decide +kernel
theorem dX5_film_53 : decode cX5_film 53 = .ok (.aload_n 0, 1) := by decide +kernel
theorem dX5_film_54 : decode cX5_film 54 = .ok (.getfield 46, 3) := by decide +kernel
theorem dX5_film_57 : decode cX5_film 57 = .ok (.iload_n 3, 1) := by decide +kernel
theorem dX5_film_58 : decode cX5_film 58 = .ok (.iaload, 1) := by decide +kernel
theorem dX5_film_59 : decode cX5_film 59 = .ok (.imul, 1) := by decide +kernel
theorem dX5_film_60 : decode cX5_film 60 = .ok (.iload_n 1, 1) := by decide +kernel
theorem dX5_film_61 : decode cX5_film 61 = .ok (.iadd, 1) := by decide +kernel
theorem dX5_film_62 : decode cX5_film 62 = .ok (.iload_n 2, 1) := by decide +kernel
theorem dX5_film_63 : decode cX5_film 63 = .ok (.isub, 1) := by decide +kernel
theorem dX5_film_64 : decode cX5_film 64 = .ok (.ireturn, 1) := by decide +kernel
theorem dX5_film_65 : decode cX5_film 65 = .ok (.iload_n 2, 1) := by decide +kernel
theorem dX5_film_66 : decode cX5_film 66 = .ok (.iload 4, 2) := by decide +kernel
theorem dX5_film_68 : decode cX5_film 68 = .ok (.iadd, 1) := by decide +kernel
theorem dX5_film_69 : decode cX5_film 69 = .ok (.istore_n 2, 1) := by decide +kernel
theorem dX5_film_70 : decode cX5_film 70 = .ok (.iinc 3 1, 3) := by decide +kernel
theorem dX5_film_73 : decode cX5_film 73 = .ok (.goto (-54), 3) := by decide +kernel
theorem dX5_film_76 : decode cX5_film 76 = .ok (.iconst (-1), 1) := by decide +kernel
theorem dX5_film_77 : decode cX5_film 77 = .ok (.ireturn, 1) := by decide +kernel
theorem dX5_needRange_0 : decode cX5_needRange 0 = .ok (.iload_n 0, 1) := by decide +kernel
theorem dX5_needRange_1 : decode cX5_needRange 1 = .ok (.iload_n 1, 1) := by decide +kernel
theorem dX5_needRange_2 : decode cX5_needRange 2 = .ok (.if_icmp .lt 8, 3) := by decide +kernel
theorem dX5_needRange_5 : decode cX5_needRange 5 = .ok (.iload_n 0, 1) := by decide +kernel
theorem dX5_needRange_6 : decode cX5_needRange 6 = .ok (.iload_n 2, 1) := by decide +kernel
theorem dX5_needRange_7 : decode cX5_needRange 7 = .ok (.if_icmp .le 14, 3) := by decide +kernel
theorem dX5_needRange_10 : decode cX5_needRange 10 = .ok (.new 276, 3) := by decide +kernel
theorem dX5_needRange_13 : decode cX5_needRange 13 = .ok (.dup, 1) := by decide +kernel
theorem dX5_needRange_14 : decode cX5_needRange 14 = .ok (.ldc_w 278, 3) := by decide +kernel
theorem dX5_needRange_17 : decode cX5_needRange 17 = .ok (.invokespecial 280, 3) := by decide +kernel
theorem dX5_needRange_20 : decode cX5_needRange 20 = .ok (.athrow, 1) := by decide +kernel
theorem dX5_needRange_21 : decode cX5_needRange 21 = .ok (.return_, 1) := by decide +kernel
theorem dX5_needSound_0 : decode cX5_needSound 0 = .ok (.iload_n 0, 1) := by decide +kernel
theorem dX5_needSound_1 : decode cX5_needSound 1 = .ok (.iconst 0, 1) := by decide +kernel
theorem dX5_needSound_2 : decode cX5_needSound 2 = .ok (.bipush 9, 2) := by decide +kernel
theorem dX5_needSound_4 : decode cX5_needSound 4 = .ok (.invokestatic 59, 3) := by decide +kernel
theorem dX5_needSound_7 : decode cX5_needSound 7 = .ok (.return_, 1) := by decide +kernel
theorem dX5_needAnimator_0 : decode cX5_needAnimator 0 = .ok (.iload_n 0, 1) := by decide +kernel
theorem dX5_needAnimator_1 : decode cX5_needAnimator 1 = .ok (.ifCond .lt 8, 3) := by decide +kernel
theorem dX5_needAnimator_4 : decode cX5_needAnimator 4 = .ok (.iload_n 0, 1) := by decide +kernel
theorem dX5_needAnimator_5 : decode cX5_needAnimator 5 = .ok (.iconst 5, 1) := by decide +kernel
theorem dX5_needAnimator_6 : decode cX5_needAnimator 6 = .ok (.if_icmp .lt 14, 3) := by decide +kernel
theorem dX5_needAnimator_9 : decode cX5_needAnimator 9 = .ok (.new 271, 3) := by decide +kernel
theorem dX5_needAnimator_12 : decode cX5_needAnimator 12 = .ok (.dup, 1) := by decide +kernel
theorem dX5_needAnimator_13 : decode cX5_needAnimator 13 = .ok (.ldc_w 281, 3) := by decide +kernel
theorem dX5_needAnimator_16 : decode cX5_needAnimator 16 = .ok (.invokespecial 275, 3) := by decide +kernel
theorem dX5_needAnimator_19 : decode cX5_needAnimator 19 = .ok (.athrow, 1) := by decide +kernel
theorem dX5_needAnimator_20 : decode cX5_needAnimator 20 = .ok (.return_, 1) := by decide +kernel
theorem dX5_needVoiceOrNone_0 : decode cX5_needVoiceOrNone 0 = .ok (.iload_n 1, 1) := by decide +kernel
theorem dX5_needVoiceOrNone_1 : decode cX5_needVoiceOrNone 1 = .ok (.iconst (-1), 1) := by decide +kernel
theorem dX5_needVoiceOrNone_2 : decode cX5_needVoiceOrNone 2 = .ok (.if_icmp .eq 26, 3) := by decide +kernel
theorem dX5_needVoiceOrNone_5 : decode cX5_needVoiceOrNone 5 = .ok (.iload_n 1, 1) := by decide +kernel
theorem dX5_needVoiceOrNone_6 : decode cX5_needVoiceOrNone 6 = .ok (.ifCond .lt 11, 3) := by decide +kernel
theorem dX5_needVoiceOrNone_9 : decode cX5_needVoiceOrNone 9 = .ok (.iload_n 1, 1) := by decide +kernel
theorem dX5_needVoiceOrNone_10 : decode cX5_needVoiceOrNone 10 = .ok (.aload_n 0, 1) := by decide +kernel
theorem dX5_needVoiceOrNone_11 : decode cX5_needVoiceOrNone 11 = .ok (.getfield 25, 3) := by decide +kernel
theorem dX5_needVoiceOrNone_14 : decode cX5_needVoiceOrNone 14 = .ok (.if_icmp .lt 14, 3) := by decide +kernel
theorem dX5_needVoiceOrNone_17 : decode cX5_needVoiceOrNone 17 = .ok (.new 271, 3) := by decide +kernel
theorem dX5_needVoiceOrNone_20 : decode cX5_needVoiceOrNone 20 = .ok (.dup, 1) := by decide +kernel
theorem dX5_needVoiceOrNone_21 : decode cX5_needVoiceOrNone 21 = .ok (.ldc_w 283, 3) := by decide +kernel
theorem dX5_needVoiceOrNone_24 : decode cX5_needVoiceOrNone 24 = .ok (.invokespecial 275, 3) := by decide +kernel
theorem dX5_needVoiceOrNone_27 : decode cX5_needVoiceOrNone 27 = .ok (.athrow, 1) := by decide +kernel
theorem dX5_needVoiceOrNone_28 : decode cX5_needVoiceOrNone 28 = .ok (.return_, 1) := by decide +kernel
theorem dX5_needShot_0 : decode cX5_needShot 0 = .ok (.iload_n 1, 1) := by decide +kernel
theorem dX5_needShot_1 : decode cX5_needShot 1 = .ok (.ifCond .lt 11, 3) := by decide +kernel
theorem dX5_needShot_4 : decode cX5_needShot 4 = .ok (.iload_n 1, 1) := by decide +kernel
theorem dX5_needShot_5 : decode cX5_needShot 5 = .ok (.aload_n 0, 1) := by decide +kernel
theorem dX5_needShot_6 : decode cX5_needShot 6 = .ok (.getfield 39, 3) := by decide +kernel
theorem dX5_needShot_9 : decode cX5_needShot 9 = .ok (.if_icmp .lt 14, 3) := by decide +kernel
theorem dX5_needShot_12 : decode cX5_needShot 12 = .ok (.new 271, 3) := by decide +kernel
theorem dX5_needShot_15 : decode cX5_needShot 15 = .ok (.dup, 1) := by decide +kernel
theorem dX5_needShot_16 : decode cX5_needShot 16 = .ok (.ldc_w 285, 3) := by decide +kernel
theorem dX5_needShot_19 : decode cX5_needShot 19 = .ok (.invokespecial 275, 3) := by decide +kernel
theorem dX5_needShot_22 : decode cX5_needShot 22 = .ok (.athrow, 1) := by decide +kernel
theorem dX5_needShot_23 : decode cX5_needShot 23 = .ok (.return_, 1) := by decide +kernel
theorem dX5_needJoint_0 : decode cX5_needJoint 0 = .ok (.iload_n 1, 1) := by decide +kernel
theorem dX5_needJoint_1 : decode cX5_needJoint 1 = .ok (.ifCond .lt 11, 3) := by decide +kernel
theorem dX5_needJoint_4 : decode cX5_needJoint 4 = .ok (.iload_n 1, 1) := by decide +kernel
theorem dX5_needJoint_5 : decode cX5_needJoint 5 = .ok (.aload_n 0, 1) := by decide +kernel
theorem dX5_needJoint_6 : decode cX5_needJoint 6 = .ok (.getfield 287, 3) := by decide +kernel
theorem dX5_needJoint_9 : decode cX5_needJoint 9 = .ok (.if_icmp .lt 14, 3) := by decide +kernel
theorem dX5_needJoint_12 : decode cX5_needJoint 12 = .ok (.new 271, 3) := by decide +kernel
theorem dX5_needJoint_15 : decode cX5_needJoint 15 = .ok (.dup, 1) := by decide +kernel
theorem dX5_needJoint_16 : decode cX5_needJoint 16 = .ok (.ldc_w 290, 3) := by decide +kernel
theorem dX5_needJoint_19 : decode cX5_needJoint 19 = .ok (.invokespecial 275, 3) := by decide +kernel
theorem dX5_needJoint_22 : decode cX5_needJoint 22 = .ok (.athrow, 1) := by decide +kernel
theorem dX5_needJoint_23 : decode cX5_needJoint 23 = .ok (.return_, 1) := by decide +kernel
theorem dX5_needFrame_0 : decode cX5_needFrame 0 = .ok (.iload_n 1, 1) := by decide +kernel
theorem dX5_needFrame_1 : decode cX5_needFrame 1 = .ok (.ifCond .lt 11, 3) := by decide +kernel
theorem dX5_needFrame_4 : decode cX5_needFrame 4 = .ok (.iload_n 1, 1) := by decide +kernel
theorem dX5_needFrame_5 : decode cX5_needFrame 5 = .ok (.aload_n 0, 1) := by decide +kernel
theorem dX5_needFrame_6 : decode cX5_needFrame 6 = .ok (.getfield 235, 3) := by decide +kernel
theorem dX5_needFrame_9 : decode cX5_needFrame 9 = .ok (.if_icmp .lt 14, 3) := by decide +kernel
theorem dX5_needFrame_12 : decode cX5_needFrame 12 = .ok (.new 271, 3) := by decide +kernel
theorem dX5_needFrame_15 : decode cX5_needFrame 15 = .ok (.dup, 1) := by decide +kernel
theorem dX5_needFrame_16 : decode cX5_needFrame 16 = .ok (.ldc_w 292, 3) := by decide +kernel
theorem dX5_needFrame_19 : decode cX5_needFrame 19 = .ok (.invokespecial 275, 3) := by decide +kernel
theorem dX5_needFrame_22 : decode cX5_needFrame 22 = .ok (.athrow, 1) := by decide +kernel
theorem dX5_needFrame_23 : decode cX5_needFrame 23 = .ok (.return_, 1) := by decide +kernel
theorem dX5_needStruck_0 : decode cX5_needStruck 0 = .ok (.iload_n 1, 1) := by decide +kernel
theorem dX5_needStruck_1 : decode cX5_needStruck 1 = .ok (.ifCond .lt 11, 3) := by decide +kernel
theorem dX5_needStruck_4 : decode cX5_needStruck 4 = .ok (.aload_n 0, 1) := by decide +kernel
theorem dX5_needStruck_5 : decode cX5_needStruck 5 = .ok (.iload_n 1, 1) := by decide +kernel
theorem dX5_needStruck_6 : decode cX5_needStruck 6 = .ok (.invokevirtual 208, 3) := by decide +kernel
theorem dX5_needStruck_9 : decode cX5_needStruck 9 = .ok (.ifCond .ne 14, 3) := by decide +kernel
theorem dX5_needStruck_12 : decode cX5_needStruck 12 = .ok (.new 271, 3) := by decide +kernel
theorem dX5_needStruck_15 : decode cX5_needStruck 15 = .ok (.dup, 1) := by decide +kernel
theorem dX5_needStruck_16 : decode cX5_needStruck 16 = .ok (.ldc_w 294, 3) := by decide +kernel
theorem dX5_needStruck_19 : decode cX5_needStruck 19 = .ok (.invokespecial 275, 3) := by decide +kernel
theorem dX5_needStruck_22 : decode cX5_needStruck 22 = .ok (.athrow, 1) := by decide +kernel
theorem dX5_needStruck_23 : decode cX5_needStruck 23 = .ok (.return_, 1) := by decide +kernel
theorem dX5_needNotStruck_0 : decode cX5_needNotStruck 0 = .ok (.aload_n 0, 1) := by decide +kernel
theorem dX5_needNotStruck_1 : decode cX5_needNotStruck 1 = .ok (.iload_n 1, 1) := by decide +kernel
theorem dX5_needNotStruck_2 : decode cX5_needNotStruck 2 = .ok (.invokevirtual 208, 3) := by decide +kernel
theorem dX5_needNotStruck_5 : decode cX5_needNotStruck 5 = .ok (.ifCond .eq 14, 3) := by decide +kernel
theorem dX5_needNotStruck_8 : decode cX5_needNotStruck 8 = .ok (.new 63, 3) := by decide +kernel
theorem dX5_needNotStruck_11 : decode cX5_needNotStruck 11 = .ok (.dup, 1) := by decide +kernel
theorem dX5_needNotStruck_12 : decode cX5_needNotStruck 12 = .ok (.ldc_w 296, 3) := by decide +kernel
theorem dX5_needNotStruck_15 : decode cX5_needNotStruck 15 = .ok (.invokespecial 67, 3) := by decide +kernel
theorem dX5_needNotStruck_18 : decode cX5_needNotStruck 18 = .ok (.athrow, 1) := by decide +kernel
theorem dX5_needNotStruck_19 : decode cX5_needNotStruck 19 = .ok (.return_, 1) := by decide +kernel
theorem dX5_puppetAt_0 : decode cX5_puppetAt 0 = .ok (.iload_n 1, 1) := by decide +kernel
theorem dX5_puppetAt_1 : decode cX5_puppetAt 1 = .ok (.ifCond .lt 11, 3) := by decide +kernel
theorem dX5_puppetAt_4 : decode cX5_puppetAt 4 = .ok (.iload_n 1, 1) := by decide +kernel
theorem dX5_puppetAt_5 : decode cX5_puppetAt 5 = .ok (.aload_n 0, 1) := by decide +kernel
theorem dX5_puppetAt_6 : decode cX5_puppetAt 6 = .ok (.getfield 15, 3) := by decide +kernel
theorem dX5_puppetAt_9 : decode cX5_puppetAt 9 = .ok (.if_icmp .lt 14, 3) := by decide +kernel
theorem dX5_puppetAt_12 : decode cX5_puppetAt 12 = .ok (.new 271, 3) := by decide +kernel
theorem dX5_puppetAt_15 : decode cX5_puppetAt 15 = .ok (.dup, 1) := by decide +kernel
theorem dX5_puppetAt_16 : decode cX5_puppetAt 16 = .ok (.ldc_w 298, 3) := by decide +kernel
theorem dX5_puppetAt_19 : decode cX5_puppetAt 19 = .ok (.invokespecial 275, 3) := by decide +kernel
theorem dX5_puppetAt_22 : decode cX5_puppetAt 22 = .ok (.athrow, 1) := by decide +kernel
theorem dX5_puppetAt_23 : decode cX5_puppetAt 23 = .ok (.aload_n 0, 1) := by decide +kernel
theorem dX5_puppetAt_24 : decode cX5_puppetAt 24 = .ok (.getfield 11, 3) := by decide +kernel
theorem dX5_puppetAt_27 : decode cX5_puppetAt 27 = .ok (.iload_n 1, 1) := by decide +kernel
theorem dX5_puppetAt_28 : decode cX5_puppetAt 28 = .ok (.aaload, 1) := by decide +kernel
theorem dX5_puppetAt_29 : decode cX5_puppetAt 29 = .ok (.areturn, 1) := by decide +kernel
theorem dX5_shotAt_0 : decode cX5_shotAt 0 = .ok (.aload_n 0, 1) := by decide +kernel
theorem dX5_shotAt_1 : decode cX5_shotAt 1 = .ok (.iload_n 1, 1) := by decide +kernel
theorem dX5_shotAt_2 : decode cX5_shotAt 2 = .ok (.invokevirtual 226, 3) := by decide +kernel
theorem dX5_shotAt_5 : decode cX5_shotAt 5 = .ok (.aload_n 0, 1) := by decide +kernel
theorem dX5_shotAt_6 : decode cX5_shotAt 6 = .ok (.getfield 35, 3) := by decide +kernel
theorem dX5_shotAt_9 : decode cX5_shotAt 9 = .ok (.iload_n 1, 1) := by decide +kernel
theorem dX5_shotAt_10 : decode cX5_shotAt 10 = .ok (.aaload, 1) := by decide +kernel
theorem dX5_shotAt_11 : decode cX5_shotAt 11 = .ok (.areturn, 1) := by decide +kernel
theorem dX5_isIll_0 : decode cX5_isIll 0 = .ok (.iload_n 1, 1) := by decide +kernel
theorem dX5_isIll_1 : decode cX5_isIll 1 = .ok (.iconst (-1), 1) := by decide +kernel
theorem dX5_isIll_2 : decode cX5_isIll 2 = .ok (.if_icmp .eq 16, 3) := by decide +kernel
theorem dX5_isIll_5 : decode cX5_isIll 5 = .ok (.aload_n 0, 1) := by decide +kernel
theorem dX5_isIll_6 : decode cX5_isIll 6 = .ok (.getfield 42, 3) := by decide +kernel
theorem dX5_isIll_9 : decode cX5_isIll 9 = .ok (.iload_n 1, 1) := by decide +kernel
theorem dX5_isIll_10 : decode cX5_isIll 10 = .ok (.baload, 1) := by decide +kernel
theorem dX5_isIll_11 : decode cX5_isIll 11 = .ok (.ifCond .eq 7, 3) := by decide +kernel
theorem dX5_isIll_14 : decode cX5_isIll 14 = .ok (.iconst 1, 1) := by decide +kernel
theorem dX5_isIll_15 : decode cX5_isIll 15 = .ok (.goto 4, 3) := by decide +kernel
theorem dX5_isIll_18 : decode cX5_isIll 18 = .ok (.iconst 0, 1) := by decide +kernel
theorem dX5_isIll_19 : decode cX5_isIll 19 = .ok (.ireturn, 1) := by decide +kernel
theorem dX5_barOf_0 : decode cX5_barOf 0 = .ok (.aload_n 1, 1) := by decide +kernel
theorem dX5_barOf_1 : decode cX5_barOf 1 = .ok (.invokevirtual 113, 3) := by decide +kernel
theorem dX5_barOf_4 : decode cX5_barOf 4 = .ok (.ifCond .eq 6, 3) := by decide +kernel
theorem dX5_barOf_7 : decode cX5_barOf 7 = .ok (.bipush 7, 2) := by decide +kernel
theorem dX5_barOf_9 : decode cX5_barOf 9 = .ok (.ireturn, 1) := by decide +kernel
theorem dX5_barOf_10 : decode cX5_barOf 10 = .ok (.aload_n 1, 1) := by decide +kernel
theorem dX5_barOf_11 : decode cX5_barOf 11 = .ok (.getfield 122, 3) := by decide +kernel
theorem dX5_barOf_14 : decode cX5_barOf 14 = .ok (.iconst (-1), 1) := by decide +kernel
theorem dX5_barOf_15 : decode cX5_barOf 15 = .ok (.if_icmp .ne 5, 3) := by decide +kernel
theorem dX5_barOf_18 : decode cX5_barOf 18 = .ok (.iconst 1, 1) := by decide +kernel
theorem dX5_barOf_19 : decode cX5_barOf 19 = .ok (.ireturn, 1) := by decide +kernel
theorem dX5_barOf_20 : decode cX5_barOf 20 = .ok (.aload_n 0, 1) := by decide +kernel
theorem dX5_barOf_21 : decode cX5_barOf 21 = .ok (.aload_n 1, 1) := by decide +kernel
theorem dX5_barOf_22 : decode cX5_barOf 22 = .ok (.getfield 122, 3) := by decide +kernel
theorem dX5_barOf_25 : decode cX5_barOf 25 = .ok (.invokevirtual 125, 3) := by decide +kernel
theorem dX5_barOf_28 : decode cX5_barOf 28 = .ok (.ifCond .eq 5, 3) := by decide +kernel
theorem dX5_barOf_31 : decode cX5_barOf 31 = .ok (.iconst 2, 1) := by decide +kernel
theorem dX5_barOf_32 : decode cX5_barOf 32 = .ok (.ireturn, 1) := by decide +kernel
theorem dX5_barOf_33 : decode cX5_barOf 33 = .ok (.aload_n 0, 1) := by decide +kernel
theorem dX5_barOf_34 : decode cX5_barOf 34 = .ok (.aload_n 1, 1) := by decide +kernel
theorem dX5_barOf_35 : decode cX5_barOf 35 = .ok (.invokevirtual 300, 3) := by decide +kernel
theorem dX5_barOf_38 : decode cX5_barOf 38 = .ok (.ifCond .eq 5, 3) := by decide +kernel
theorem dX5_barOf_41 : decode cX5_barOf 41 = .ok (.iconst 3, 1) := by decide +kernel
theorem dX5_barOf_42 : decode cX5_barOf 42 = .ok (.ireturn, 1) := by decide +kernel
theorem dX5_barOf_43 : decode cX5_barOf 43 = .ok (.aload_n 0, 1) := by decide +kernel
theorem dX5_barOf_44 : decode cX5_barOf 44 = .ok (.aload_n 1, 1) := by decide +kernel
theorem dX5_barOf_45 : decode cX5_barOf 45 = .ok (.invokevirtual 304, 3) := by decide +kernel
theorem dX5_barOf_48 : decode cX5_barOf 48 = .ok (.ifCond .eq 5, 3) := by decide +kernel
theorem dX5_barOf_51 : decode cX5_barOf 51 = .ok (.iconst 4, 1) := by decide +kernel
theorem dX5_barOf_52 : decode cX5_barOf 52 = .ok (.ireturn, 1) := by decide +kernel
theorem dX5_barOf_53 : decode cX5_barOf 53 = .ok (.aload_n 1, 1) := by decide +kernel
theorem dX5_barOf_54 : decode cX5_barOf 54 = .ok (.aload_n 1, 1) := by decide +kernel
theorem dX5_barOf_55 : decode cX5_barOf 55 = .ok (.getfield 182, 3) := by decide +kernel
theorem dX5_barOf_58 : decode cX5_barOf 58 = .ok (.getfield 186, 3) := by decide +kernel
theorem dX5_barOf_61 : decode cX5_barOf 61 = .ok (.invokevirtual 149, 3) := by decide +kernel
theorem dX5_barOf_64 : decode cX5_barOf 64 = .ok (.ifCond .eq 7, 3) := by decide +kernel
theorem dX5_barOf_67 : decode cX5_barOf 67 = .ok (.iconst 0, 1) := by decide +kernel
theorem dX5_barOf_68 : decode cX5_barOf 68 = .ok (.goto 8, 3) := by decide +kernel
theorem dX5_barOf_71 : decode cX5_barOf 71 = .ok (.aload_n 0, 1) := by decide +kernel
theorem dX5_barOf_72 : decode cX5_barOf 72 = .ok (.aload_n 1, 1) := by decide +kernel
theorem dX5_barOf_73 : decode cX5_barOf 73 = .ok (.invokevirtual 307, 3) := by decide +kernel
theorem dX5_barOf_76 : decode cX5_barOf 76 = .ok (.ireturn, 1) := by decide +kernel
theorem dX5_barOfPosing_0 : decode cX5_barOfPosing 0 = .ok (.aload_n 1, 1) := by decide +kernel
theorem dX5_barOfPosing_1 : decode cX5_barOfPosing 1 = .ok (.getfield 134, 3) := by decide +kernel
theorem dX5_barOfPosing_4 : decode cX5_barOfPosing 4 = .ok (.invokevirtual 310, 3) := by decide +kernel
theorem dX5_barOfPosing_7 : decode cX5_barOfPosing 7 = .ok (.ifCond .eq 5, 3) := by decide +kernel
theorem dX5_barOfPosing_10 : decode cX5_barOfPosing 10 = .ok (.iconst 5, 1) := by decide +kernel
theorem dX5_barOfPosing_11 : decode cX5_barOfPosing 11 = .ok (.ireturn, 1) := by decide +kernel
theorem dX5_barOfPosing_12 : decode cX5_barOfPosing 12 = .ok (.aload_n 0, 1) := by decide +kernel
theorem dX5_barOfPosing_13 : decode cX5_barOfPosing 13 = .ok (.aload_n 1, 1) := by decide +kernel
theorem dX5_barOfPosing_14 : decode cX5_barOfPosing 14 = .ok (.aload_n 1, 1) := by decide +kernel
theorem dX5_barOfPosing_15 : decode cX5_barOfPosing 15 = .ok (.getfield 182, 3) := by decide +kernel
theorem dX5_barOfPosing_18 : decode cX5_barOfPosing 18 = .ok (.getfield 186, 3) := by decide +kernel
theorem dX5_barOfPosing_21 : decode cX5_barOfPosing 21 = .ok (.invokevirtual 313, 3) := by decide +kernel
theorem dX5_barOfPosing_24 : decode cX5_barOfPosing 24 = .ok (.istore_n 2, 1) := by decide +kernel
theorem dX5_barOfPosing_25 : decode cX5_barOfPosing 25 = .ok (.iload_n 2, 1) := by decide +kernel
theorem dX5_barOfPosing_26 : decode cX5_barOfPosing 26 = .ok (.iconst (-1), 1) := by decide +kernel
theorem dX5_barOfPosing_27 : decode cX5_barOfPosing 27 = .ok (.if_icmp .eq 18, 3) := by decide +kernel
theorem dX5_barOfPosing_30 : decode cX5_barOfPosing 30 = .ok (.aload_n 1, 1) := by decide +kernel
theorem dX5_barOfPosing_31 : decode cX5_barOfPosing 31 = .ok (.getfield 134, 3) := by decide +kernel
theorem dX5_barOfPosing_34 : decode cX5_barOfPosing 34 = .ok (.getfield 80, 3) := by decide +kernel
theorem dX5_barOfPosing_37 : decode cX5_barOfPosing 37 = .ok (.iload_n 2, 1) := by decide +kernel
theorem dX5_barOfPosing_38 : decode cX5_barOfPosing 38 = .ok (.iaload, 1) := by decide +kernel
theorem dX5_barOfPosing_39 : decode cX5_barOfPosing 39 = .ok (.ifCond .ne 6, 3) := by decide +kernel
theorem dX5_barOfPosing_42 : decode cX5_barOfPosing 42 = .ok (.bipush 6, 2) := by decide +kernel
theorem dX5_barOfPosing_44 : decode cX5_barOfPosing 44 = .ok (.ireturn, 1) := by decide +kernel
theorem dX5_barOfPosing_45 : decode cX5_barOfPosing 45 = .ok (.iconst 0, 1) := by decide +kernel
theorem dX5_barOfPosing_46 : decode cX5_barOfPosing 46 = .ok (.ireturn, 1) := by decide +kernel
theorem dX5_animatorIsBusy_0 : decode cX5_animatorIsBusy 0 = .ok (.iconst 0, 1) := by decide +kernel
theorem dX5_animatorIsBusy_1 : decode cX5_animatorIsBusy 1 = .ok (.istore_n 2, 1) := by decide +kernel
theorem dX5_animatorIsBusy_2 : decode cX5_animatorIsBusy 2 = .ok (.iload_n 2, 1) := by decide +kernel
theorem dX5_animatorIsBusy_3 : decode cX5_animatorIsBusy 3 = .ok (.aload_n 0, 1) := by decide +kernel
theorem dX5_animatorIsBusy_4 : decode cX5_animatorIsBusy 4 = .ok (.getfield 39, 3) := by decide +kernel
theorem dX5_animatorIsBusy_7 : decode cX5_animatorIsBusy 7 = .ok (.if_icmp .ge 41, 3) := by decide +kernel
theorem dX5_animatorIsBusy_10 : decode cX5_animatorIsBusy 10 = .ok (.aload_n 0, 1) := by decide +kernel
theorem dX5_animatorIsBusy_11 : decode cX5_animatorIsBusy 11 = .ok (.getfield 35, 3) := by decide +kernel
theorem dX5_animatorIsBusy_14 : decode cX5_animatorIsBusy 14 = .ok (.iload_n 2, 1) := by decide +kernel
theorem dX5_animatorIsBusy_15 : decode cX5_animatorIsBusy 15 = .ok (.aaload, 1) := by decide +kernel
theorem dX5_animatorIsBusy_16 : decode cX5_animatorIsBusy 16 = .ok (.astore_n 3, 1) := by decide +kernel
theorem dX5_animatorIsBusy_17 : decode cX5_animatorIsBusy 17 = .ok (.aload_n 3, 1) := by decide +kernel
theorem dX5_animatorIsBusy_18 : decode cX5_animatorIsBusy 18 = .ok (.aload_n 1, 1) := by decide +kernel
theorem dX5_animatorIsBusy_19 : decode cX5_animatorIsBusy 19 = .ok (.if_acmp .eq 23, 3) := by decide +kernel
theorem dX5_animatorIsBusy_22 : decode cX5_animatorIsBusy 22 = .ok (.aload_n 3, 1) := by decide +kernel
theorem dX5_animatorIsBusy_23 : decode cX5_animatorIsBusy 23 = .ok (.invokevirtual 316, 3) := by decide +kernel
theorem dX5_animatorIsBusy_26 : decode cX5_animatorIsBusy 26 = .ok (.ifCond .eq 16, 3) := by decide +kernel
theorem dX5_animatorIsBusy_29 : decode cX5_animatorIsBusy 29 = .ok (.aload_n 3, 1) := by decide +kernel
theorem dX5_animatorIsBusy_30 : decode cX5_animatorIsBusy 30 = .ok (.getfield 122, 3) := by decide +kernel
theorem dX5_animatorIsBusy_33 : decode cX5_animatorIsBusy 33 = .ok (.aload_n 1, 1) := by decide +kernel
theorem dX5_animatorIsBusy_34 : decode cX5_animatorIsBusy 34 = .ok (.getfield 122, 3) := by decide +kernel
theorem dX5_animatorIsBusy_37 : decode cX5_animatorIsBusy 37 = .ok (.if_icmp .ne 5, 3) := by decide +kernel
theorem dX5_animatorIsBusy_40 : decode cX5_animatorIsBusy 40 = .ok (.iconst 1, 1) := by decide +kernel
theorem dX5_animatorIsBusy_41 : decode cX5_animatorIsBusy 41 = .ok (.ireturn, 1) := by decide +kernel
theorem dX5_animatorIsBusy_42 : decode cX5_animatorIsBusy 42 = .ok (.iinc 2 1, 3) := by decide +kernel
theorem dX5_animatorIsBusy_45 : decode cX5_animatorIsBusy 45 = .ok (.goto (-43), 3) := by decide +kernel
theorem dX5_animatorIsBusy_48 : decode cX5_animatorIsBusy 48 = .ok (.iconst 0, 1) := by decide +kernel
theorem dX5_animatorIsBusy_49 : decode cX5_animatorIsBusy 49 = .ok (.ireturn, 1) := by decide +kernel
theorem dX5_puppetIsBusy_0 : decode cX5_puppetIsBusy 0 = .ok (.iconst 0, 1) := by decide +kernel
theorem dX5_puppetIsBusy_1 : decode cX5_puppetIsBusy 1 = .ok (.istore_n 2, 1) := by decide +kernel
theorem dX5_puppetIsBusy_2 : decode cX5_puppetIsBusy 2 = .ok (.iload_n 2, 1) := by decide +kernel
theorem dX5_puppetIsBusy_3 : decode cX5_puppetIsBusy 3 = .ok (.aload_n 0, 1) := by decide +kernel
theorem dX5_puppetIsBusy_4 : decode cX5_puppetIsBusy 4 = .ok (.getfield 39, 3) := by decide +kernel
theorem dX5_puppetIsBusy_7 : decode cX5_puppetIsBusy 7 = .ok (.if_icmp .ge 41, 3) := by decide +kernel
theorem dX5_puppetIsBusy_10 : decode cX5_puppetIsBusy 10 = .ok (.aload_n 0, 1) := by decide +kernel
theorem dX5_puppetIsBusy_11 : decode cX5_puppetIsBusy 11 = .ok (.getfield 35, 3) := by decide +kernel
theorem dX5_puppetIsBusy_14 : decode cX5_puppetIsBusy 14 = .ok (.iload_n 2, 1) := by decide +kernel
theorem dX5_puppetIsBusy_15 : decode cX5_puppetIsBusy 15 = .ok (.aaload, 1) := by decide +kernel
theorem dX5_puppetIsBusy_16 : decode cX5_puppetIsBusy 16 = .ok (.astore_n 3, 1) := by decide +kernel
theorem dX5_puppetIsBusy_17 : decode cX5_puppetIsBusy 17 = .ok (.aload_n 3, 1) := by decide +kernel
theorem dX5_puppetIsBusy_18 : decode cX5_puppetIsBusy 18 = .ok (.aload_n 1, 1) := by decide +kernel
theorem dX5_puppetIsBusy_19 : decode cX5_puppetIsBusy 19 = .ok (.if_acmp .eq 23, 3) := by decide +kernel
theorem dX5_puppetIsBusy_22 : decode cX5_puppetIsBusy 22 = .ok (.aload_n 3, 1) := by decide +kernel
theorem dX5_puppetIsBusy_23 : decode cX5_puppetIsBusy 23 = .ok (.invokevirtual 316, 3) := by decide +kernel
theorem dX5_puppetIsBusy_26 : decode cX5_puppetIsBusy 26 = .ok (.ifCond .eq 16, 3) := by decide +kernel
theorem dX5_puppetIsBusy_29 : decode cX5_puppetIsBusy 29 = .ok (.aload_n 3, 1) := by decide +kernel
theorem dX5_puppetIsBusy_30 : decode cX5_puppetIsBusy 30 = .ok (.getfield 134, 3) := by decide +kernel
theorem dX5_puppetIsBusy_33 : decode cX5_puppetIsBusy 33 = .ok (.aload_n 1, 1) := by decide +kernel
theorem dX5_puppetIsBusy_34 : decode cX5_puppetIsBusy 34 = .ok (.getfield 134, 3) := by decide +kernel
theorem dX5_puppetIsBusy_37 : decode cX5_puppetIsBusy 37 = .ok (.if_acmp .ne 5, 3) := by decide +kernel
theorem dX5_puppetIsBusy_40 : decode cX5_puppetIsBusy 40 = .ok (.iconst 1, 1) := by decide +kernel
theorem dX5_puppetIsBusy_41 : decode cX5_puppetIsBusy 41 = .ok (.ireturn, 1) := by decide +kernel
theorem dX5_puppetIsBusy_42 : decode cX5_puppetIsBusy 42 = .ok (.iinc 2 1, 3) := by decide +kernel
theorem dX5_puppetIsBusy_45 : decode cX5_puppetIsBusy 45 = .ok (.goto (-43), 3) := by decide +kernel
theorem dX5_puppetIsBusy_48 : decode cX5_puppetIsBusy 48 = .ok (.iconst 0, 1) := by decide +kernel
theorem dX5_puppetIsBusy_49 : decode cX5_puppetIsBusy 49 = .ok (.ireturn, 1) := by decide +kernel
theorem dX5_refuseBarred_0 : decode cX5_refuseBarred 0 = .ok (.iload_n 0, 1) := by decide +kernel
theorem dX5_refuseBarred_1 : decode cX5_refuseBarred 1 = .ok (.tableswitch 99 0 6 #[43, 44, 55, 66, 66, 77, 88], 43) := by decide +kernel
theorem dX5_refuseBarred_44 : decode cX5_refuseBarred 44 = .ok (.return_, 1) := by decide +kernel
theorem dX5_refuseBarred_45 : decode cX5_refuseBarred 45 = .ok (.new 63, 3) := by decide +kernel
theorem dX5_refuseBarred_48 : decode cX5_refuseBarred 48 = .ok (.dup, 1) := by decide +kernel
theorem dX5_refuseBarred_49 : decode cX5_refuseBarred 49 = .ok (.ldc_w 319, 3) := by decide +kernel
theorem dX5_refuseBarred_52 : decode cX5_refuseBarred 52 = .ok (.invokespecial 67, 3) := by decide +kernel
theorem dX5_refuseBarred_55 : decode cX5_refuseBarred 55 = .ok (.athrow, 1) := by decide +kernel
theorem dX5_refuseBarred_56 : decode cX5_refuseBarred 56 = .ok (.new 63, 3) := by decide +kernel
theorem dX5_refuseBarred_59 : decode cX5_refuseBarred 59 = .ok (.dup, 1) := by decide +kernel
theorem dX5_refuseBarred_60 : decode cX5_refuseBarred 60 = .ok (.ldc_w 321, 3) := by decide +kernel
theorem dX5_refuseBarred_63 : decode cX5_refuseBarred 63 = .ok (.invokespecial 67, 3) := by decide +kernel
theorem dX5_refuseBarred_66 : decode cX5_refuseBarred 66 = .ok (.athrow, 1) := by decide +kernel
theorem dX5_refuseBarred_67 : decode cX5_refuseBarred 67 = .ok (.new 63, 3) := by decide +kernel
theorem dX5_refuseBarred_70 : decode cX5_refuseBarred 70 = .ok (.dup, 1) := by decide +kernel
theorem dX5_refuseBarred_71 : decode cX5_refuseBarred 71 = .ok (.ldc_w 323, 3) := by decide +kernel
theorem dX5_refuseBarred_74 : decode cX5_refuseBarred 74 = .ok (.invokespecial 67, 3) := by decide +kernel
theorem dX5_refuseBarred_77 : decode cX5_refuseBarred 77 = .ok (.athrow, 1) := by decide +kernel
theorem dX5_refuseBarred_78 : decode cX5_refuseBarred 78 = .ok (.new 63, 3) := by decide +kernel
theorem dX5_refuseBarred_81 : decode cX5_refuseBarred 81 = .ok (.dup, 1) := by decide +kernel
theorem dX5_refuseBarred_82 : decode cX5_refuseBarred 82 = .ok (.ldc_w 325, 3) := by decide +kernel
theorem dX5_refuseBarred_85 : decode cX5_refuseBarred 85 = .ok (.invokespecial 67, 3) := by decide +kernel
theorem dX5_refuseBarred_88 : decode cX5_refuseBarred 88 = .ok (.athrow, 1) := by decide +kernel
theorem dX5_refuseBarred_89 : decode cX5_refuseBarred 89 = .ok (.new 63, 3) := by decide +kernel
theorem dX5_refuseBarred_92 : decode cX5_refuseBarred 92 = .ok (.dup, 1) := by decide +kernel
theorem dX5_refuseBarred_93 : decode cX5_refuseBarred 93 = .ok (.ldc_w 327, 3) := by decide +kernel
theorem dX5_refuseBarred_96 : decode cX5_refuseBarred 96 = .ok (.invokespecial 67, 3) := by decide +kernel
theorem dX5_refuseBarred_99 : decode cX5_refuseBarred 99 = .ok (.athrow, 1) := by decide +kernel
theorem dX5_refuseBarred_100 : decode cX5_refuseBarred 100 = .ok (.new 63, 3) := by decide +kernel
theorem dX5_refuseBarred_103 : decode cX5_refuseBarred 103 = .ok (.dup, 1) := by decide +kernel
theorem dX5_refuseBarred_104 : decode cX5_refuseBarred 104 = .ok (.ldc 117, 2) := by decide +kernel
theorem dX5_refuseBarred_106 : decode cX5_refuseBarred 106 = .ok (.invokespecial 67, 3) := by decide +kernel
theorem dX5_refuseBarred_109 : decode cX5_refuseBarred 109 = .ok (.athrow, 1) := by decide +kernel
theorem dX5_poseNext_0 : decode cX5_poseNext 0 = .ok (.aload_n 0, 1) := by decide +kernel
theorem dX5_poseNext_1 : decode cX5_poseNext 1 = .ok (.aload_n 1, 1) := by decide +kernel
theorem dX5_poseNext_2 : decode cX5_poseNext 2 = .ok (.iload_n 2, 1) := by decide +kernel
theorem dX5_poseNext_3 : decode cX5_poseNext 3 = .ok (.invokevirtual 313, 3) := by decide +kernel
theorem dX5_poseNext_6 : decode cX5_poseNext 6 = .ok (.istore_n 3, 1) := by decide +kernel
theorem dX5_poseNext_7 : decode cX5_poseNext 7 = .ok (.iload_n 3, 1) := by decide +kernel
theorem dX5_poseNext_8 : decode cX5_poseNext 8 = .ok (.iconst (-1), 1) := by decide +kernel
theorem dX5_poseNext_9 : decode cX5_poseNext 9 = .ok (.if_icmp .eq 16, 3) := by decide +kernel
theorem dX5_poseNext_12 : decode cX5_poseNext 12 = .ok (.aload_n 1, 1) := by decide +kernel
theorem dX5_poseNext_13 : decode cX5_poseNext 13 = .ok (.getfield 134, 3) := by decide +kernel
theorem dX5_poseNext_16 : decode cX5_poseNext 16 = .ok (.getfield 80, 3) := by decide +kernel
theorem dX5_poseNext_19 : decode cX5_poseNext 19 = .ok (.iload_n 3, 1) := by decide +kernel
theorem dX5_poseNext_20 : decode cX5_poseNext 20 = .ok (.dup2, 1) := by decide +kernel
theorem dX5_poseNext_21 : decode cX5_poseNext 21 = .ok (.iaload, 1) := by decide +kernel
theorem dX5_poseNext_22 : decode cX5_poseNext 22 = .ok (.iconst 1, 1) := by decide +kernel
theorem dX5_poseNext_23 : decode cX5_poseNext 23 = .ok (.isub, 1) := by decide +kernel
theorem dX5_poseNext_24 : decode cX5_poseNext 24 = .ok (.iastore, 1) := by decide +kernel
theorem dX5_poseNext_25 : decode cX5_poseNext 25 = .ok (.aload_n 1, 1) := by decide +kernel
theorem dX5_poseNext_26 : decode cX5_poseNext 26 = .ok (.getfield 182, 3) := by decide +kernel
theorem dX5_poseNext_29 : decode cX5_poseNext 29 = .ok (.getfield 256, 3) := by decide +kernel
theorem dX5_poseNext_32 : decode cX5_poseNext 32 = .ok (.iload_n 2, 1) := by decide +kernel
theorem dX5_poseNext_33 : decode cX5_poseNext 33 = .ok (.aload_n 0, 1) := by decide +kernel
theorem dX5_poseNext_34 : decode cX5_poseNext 34 = .ok (.aload_n 1, 1) := by decide +kernel
theorem dX5_poseNext_35 : decode cX5_poseNext 35 = .ok (.iload_n 2, 1) := by decide +kernel
theorem dX5_poseNext_36 : decode cX5_poseNext 36 = .ok (.invokevirtual 231, 3) := by decide +kernel
theorem dX5_poseNext_39 : decode cX5_poseNext 39 = .ok (.iastore, 1) := by decide +kernel
theorem dX5_poseNext_40 : decode cX5_poseNext 40 = .ok (.iconst 0, 1) := by decide +kernel
theorem dX5_poseNext_41 : decode cX5_poseNext 41 = .ok (.istore 4, 2) := by decide +kernel
theorem dX5_poseNext_43 : decode cX5_poseNext 43 = .ok (.iload 4, 2) := by decide +kernel
theorem dX5_poseNext_45 : decode cX5_poseNext 45 = .ok (.aload_n 1, 1) := by decide +kernel
theorem dX5_poseNext_46 : decode cX5_poseNext 46 = .ok (.getfield 134, 3) := by decide +kernel
theorem dX5_poseNext_49 : decode cX5_poseNext 49 = .ok (.getfield 287, 3) := by decide +kernel
theorem dX5_poseNext_52 : decode cX5_poseNext 52 = .ok (.if_icmp .ge 43, 3) := by decide +kernel
theorem dX5_poseNext_55 : decode cX5_poseNext 55 = .ok (.aload_n 1, 1) := by decide +kernel
theorem dX5_poseNext_56 : decode cX5_poseNext 56 = .ok (.iload 4, 2) := by decide +kernel
theorem dX5_poseNext_58 : decode cX5_poseNext 58 = .ok (.iload_n 2, 1) := by decide +kernel
theorem dX5_poseNext_59 : decode cX5_poseNext 59 = .ok (.invokevirtual 154, 3) := by decide +kernel
theorem dX5_poseNext_62 : decode cX5_poseNext 62 = .ok (.istore 5, 2) := by decide +kernel
theorem dX5_poseNext_64 : decode cX5_poseNext 64 = .ok (.aload_n 1, 1) := by decide +kernel
theorem dX5_poseNext_65 : decode cX5_poseNext 65 = .ok (.getfield 134, 3) := by decide +kernel
theorem dX5_poseNext_68 : decode cX5_poseNext 68 = .ok (.iload 4, 2) := by decide +kernel
theorem dX5_poseNext_70 : decode cX5_poseNext 70 = .ok (.iload 5, 2) := by decide +kernel
theorem dX5_poseNext_72 : decode cX5_poseNext 72 = .ok (.invokevirtual 329, 3) := by decide +kernel
theorem dX5_poseNext_75 : decode cX5_poseNext 75 = .ok (.aload_n 1, 1) := by decide +kernel
theorem dX5_poseNext_76 : decode cX5_poseNext 76 = .ok (.getfield 182, 3) := by decide +kernel
theorem dX5_poseNext_79 : decode cX5_poseNext 79 = .ok (.getfield 252, 3) := by decide +kernel
theorem dX5_poseNext_82 : decode cX5_poseNext 82 = .ok (.iload 4, 2) := by decide +kernel
theorem dX5_poseNext_84 : decode cX5_poseNext 84 = .ok (.aaload, 1) := by decide +kernel
theorem dX5_poseNext_85 : decode cX5_poseNext 85 = .ok (.iload_n 2, 1) := by decide +kernel
theorem dX5_poseNext_86 : decode cX5_poseNext 86 = .ok (.iload 5, 2) := by decide +kernel
theorem dX5_poseNext_88 : decode cX5_poseNext 88 = .ok (.iastore, 1) := by decide +kernel
theorem dX5_poseNext_89 : decode cX5_poseNext 89 = .ok (.iinc 4 1, 3) := by decide +kernel
theorem dX5_poseNext_92 : decode cX5_poseNext 92 = .ok (.goto (-49), 3) := by decide +kernel
theorem dX5_poseNext_95 : decode cX5_poseNext 95 = .ok (.return_, 1) := by decide +kernel
theorem dX5_sheetMouth_0 : decode cX5_sheetMouth 0 = .ok (.aload_n 1, 1) := by decide +kernel
theorem dX5_sheetMouth_1 : decode cX5_sheetMouth 1 = .ok (.getfield 131, 3) := by decide +kernel
theorem dX5_sheetMouth_4 : decode cX5_sheetMouth 4 = .ok (.iconst (-1), 1) := by decide +kernel
theorem dX5_sheetMouth_5 : decode cX5_sheetMouth 5 = .ok (.if_icmp .ne 7, 3) := by decide +kernel
theorem dX5_sheetMouth_8 : decode cX5_sheetMouth 8 = .ok (.iconst (-1), 1) := by decide +kernel
theorem dX5_sheetMouth_9 : decode cX5_sheetMouth 9 = .ok (.goto 20, 3) := by decide +kernel
theorem dX5_sheetMouth_12 : decode cX5_sheetMouth 12 = .ok (.aload_n 0, 1) := by decide +kernel
theorem dX5_sheetMouth_13 : decode cX5_sheetMouth 13 = .ok (.getfield 21, 3) := by decide +kernel
theorem dX5_sheetMouth_16 : decode cX5_sheetMouth 16 = .ok (.aload_n 1, 1) := by decide +kernel
theorem dX5_sheetMouth_17 : decode cX5_sheetMouth 17 = .ok (.getfield 131, 3) := by decide +kernel
theorem dX5_sheetMouth_20 : decode cX5_sheetMouth 20 = .ok (.aaload, 1) := by decide +kernel
theorem dX5_sheetMouth_21 : decode cX5_sheetMouth 21 = .ok (.aload_n 1, 1) := by decide +kernel
theorem dX5_sheetMouth_22 : decode cX5_sheetMouth 22 = .ok (.iload_n 2, 1) := by decide +kernel
theorem dX5_sheetMouth_23 : decode cX5_sheetMouth 23 = .ok (.invokevirtual 332, 3) := by decide +kernel
theorem dX5_sheetMouth_26 : decode cX5_sheetMouth 26 = .ok (.invokevirtual 335, 3) := by decide +kernel
theorem dX5_sheetMouth_29 : decode cX5_sheetMouth 29 = .ok (.ireturn, 1) := by decide +kernel
theorem dX5_mouthWanted_0 : decode cX5_mouthWanted 0 = .ok (.aload_n 0, 1) := by decide +kernel
theorem dX5_mouthWanted_1 : decode cX5_mouthWanted 1 = .ok (.aload_n 1, 1) := by decide +kernel
theorem dX5_mouthWanted_2 : decode cX5_mouthWanted 2 = .ok (.iload_n 2, 1) := by decide +kernel
theorem dX5_mouthWanted_3 : decode cX5_mouthWanted 3 = .ok (.invokevirtual 231, 3) := by decide +kernel
theorem dX5_mouthWanted_6 : decode cX5_mouthWanted 6 = .ok (.istore_n 3, 1) := by decide +kernel
theorem dX5_mouthWanted_7 : decode cX5_mouthWanted 7 = .ok (.iload_n 3, 1) := by decide +kernel
theorem dX5_mouthWanted_8 : decode cX5_mouthWanted 8 = .ok (.aload_n 1, 1) := by decide +kernel
theorem dX5_mouthWanted_9 : decode cX5_mouthWanted 9 = .ok (.getfield 182, 3) := by decide +kernel
theorem dX5_mouthWanted_12 : decode cX5_mouthWanted 12 = .ok (.invokevirtual 338, 3) := by decide +kernel
theorem dX5_mouthWanted_15 : decode cX5_mouthWanted 15 = .ok (.if_icmp .ne 7, 3) := by decide +kernel
theorem dX5_mouthWanted_18 : decode cX5_mouthWanted 18 = .ok (.iconst (-1), 1) := by decide +kernel
theorem dX5_mouthWanted_19 : decode cX5_mouthWanted 19 = .ok (.goto 4, 3) := by decide +kernel
theorem dX5_mouthWanted_22 : decode cX5_mouthWanted 22 = .ok (.iload_n 3, 1) := by decide +kernel
theorem dX5_mouthWanted_23 : decode cX5_mouthWanted 23 = .ok (.ireturn, 1) := by decide +kernel
theorem dX5_lampLight_0 : decode cX5_lampLight 0 = .ok (.sipush 500, 3) := by decide +kernel
theorem dX5_lampLight_3 : decode cX5_lampLight 3 = .ok (.sipush 1000, 3) := by decide +kernel
theorem dX5_lampLight_6 : decode cX5_lampLight 6 = .ok (.aload_n 0, 1) := by decide +kernel
theorem dX5_lampLight_7 : decode cX5_lampLight 7 = .ok (.getfield 56, 3) := by decide +kernel
theorem dX5_lampLight_10 : decode cX5_lampLight 10 = .ok (.iconst 3, 1) := by decide +kernel
theorem dX5_lampLight_11 : decode cX5_lampLight 11 = .ok (.idiv, 1) := by decide +kernel
theorem dX5_lampLight_12 : decode cX5_lampLight 12 = .ok (.isub, 1) := by decide +kernel
theorem dX5_lampLight_13 : decode cX5_lampLight 13 = .ok (.invokestatic 341, 3) := by decide +kernel
theorem dX5_lampLight_16 : decode cX5_lampLight 16 = .ok (.ireturn, 1) := by decide +kernel
theorem dX5_cutIndex_0 : decode cX5_cutIndex 0 = .ok (.iconst 0, 1) := by decide +kernel
theorem dX5_cutIndex_1 : decode cX5_cutIndex 1 = .ok (.istore_n 2, 1) := by decide +kernel
theorem dX5_cutIndex_2 : decode cX5_cutIndex 2 = .ok (.iload_n 2, 1) := by decide +kernel
theorem dX5_cutIndex_3 : decode cX5_cutIndex 3 = .ok (.aload_n 0, 1) := by decide +kernel
theorem dX5_cutIndex_4 : decode cX5_cutIndex 4 = .ok (.getfield 50, 3) := by decide +kernel
theorem dX5_cutIndex_7 : decode cX5_cutIndex 7 = .ok (.if_icmp .ge 21, 3) := by decide +kernel
theorem dX5_cutIndex_10 : decode cX5_cutIndex 10 = .ok (.aload_n 0, 1) := by decide +kernel
theorem dX5_cutIndex_11 : decode cX5_cutIndex 11 = .ok (.getfield 46, 3) := by decide +kernel
theorem dX5_cutIndex_14 : decode cX5_cutIndex 14 = .ok (.iload_n 2, 1) := by decide +kernel
theorem dX5_cutIndex_15 : decode cX5_cutIndex 15 = .ok (.iaload, 1) := by decide +kernel
theorem dX5_cutIndex_16 : decode cX5_cutIndex 16 = .ok (.iload_n 1, 1) := by decide +kernel
theorem dX5_cutIndex_17 : decode cX5_cutIndex 17 = .ok (.if_icmp .ne 5, 3) := by decide +kernel
theorem dX5_cutIndex_20 : decode cX5_cutIndex 20 = .ok (.iload_n 2, 1) := by decide +kernel
theorem dX5_cutIndex_21 : decode cX5_cutIndex 21 = .ok (.ireturn, 1) := by decide +kernel
theorem dX5_cutIndex_22 : decode cX5_cutIndex 22 = .ok (.iinc 2 1, 3) := by decide +kernel
theorem dX5_cutIndex_25 : decode cX5_cutIndex 25 = .ok (.goto (-23), 3) := by decide +kernel
theorem dX5_cutIndex_28 : decode cX5_cutIndex 28 = .ok (.iconst (-1), 1) := by decide +kernel
theorem dX5_cutIndex_29 : decode cX5_cutIndex 29 = .ok (.ireturn, 1) := by decide +kernel
theorem dX5_filmLength_0 : decode cX5_filmLength 0 = .ok (.iconst 0, 1) := by decide +kernel
theorem dX5_filmLength_1 : decode cX5_filmLength 1 = .ok (.istore_n 1, 1) := by decide +kernel
theorem dX5_filmLength_2 : decode cX5_filmLength 2 = .ok (.iconst 0, 1) := by decide +kernel
theorem dX5_filmLength_3 : decode cX5_filmLength 3 = .ok (.istore_n 2, 1) := by decide +kernel
theorem dX5_filmLength_4 : decode cX5_filmLength 4 = .ok (.iload_n 2, 1) := by decide +kernel
theorem dX5_filmLength_5 : decode cX5_filmLength 5 = .ok (.aload_n 0, 1) := by decide +kernel
theorem dX5_filmLength_6 : decode cX5_filmLength 6 = .ok (.getfield 50, 3) := by decide +kernel
theorem dX5_filmLength_9 : decode cX5_filmLength 9 = .ok (.if_icmp .ge 26, 3) := by decide +kernel
theorem dX5_filmLength_12 : decode cX5_filmLength 12 = .ok (.iload_n 1, 1) := by decide +kernel
theorem dX5_filmLength_13 : decode cX5_filmLength 13 = .ok (.aload_n 0, 1) := by decide +kernel
theorem dX5_filmLength_14 : decode cX5_filmLength 14 = .ok (.getfield 35, 3) := by decide +kernel
theorem dX5_filmLength_17 : decode cX5_filmLength 17 = .ok (.aload_n 0, 1) := by decide +kernel
theorem dX5_filmLength_18 : decode cX5_filmLength 18 = .ok (.getfield 46, 3) := by decide +kernel
theorem dX5_filmLength_21 : decode cX5_filmLength 21 = .ok (.iload_n 2, 1) := by decide +kernel
theorem dX5_filmLength_22 : decode cX5_filmLength 22 = .ok (.iaload, 1) := by decide +kernel
theorem dX5_filmLength_23 : decode cX5_filmLength 23 = .ok (.aaload, 1) := by decide +kernel
theorem dX5_filmLength_24 : decode cX5_filmLength 24 = .ok (.getfield 235, 3) := by decide +kernel
theorem dX5_filmLength_27 : decode cX5_filmLength 27 = .ok (.iadd, 1) := by decide +kernel
theorem dX5_filmLength_28 : decode cX5_filmLength 28 = .ok (.istore_n 1, 1) := by decide +kernel
theorem dX5_filmLength_29 : decode cX5_filmLength 29 = .ok (.iinc 2 1, 3) := by decide +kernel
theorem dX5_filmLength_32 : decode cX5_filmLength 32 = .ok (.goto (-28), 3) := by decide +kernel
theorem dX5_filmLength_35 : decode cX5_filmLength 35 = .ok (.iload_n 1, 1) := by decide +kernel
theorem dX5_filmLength_36 : decode cX5_filmLength 36 = .ok (.ireturn, 1) := by decide +kernel
theorem dX5_shorterWay_0 : decode cX5_shorterWay 0 = .ok (.iload_n 1, 1) := by decide +kernel
theorem dX5_shorterWay_1 : decode cX5_shorterWay 1 = .ok (.iload_n 0, 1) := by decide +kernel
theorem dX5_shorterWay_2 : decode cX5_shorterWay 2 = .ok (.isub, 1) := by decide +kernel
theorem dX5_shorterWay_3 : decode cX5_shorterWay 3 = .ok (.sipush 360, 3) := by decide +kernel
theorem dX5_shorterWay_6 : decode cX5_shorterWay 6 = .ok (.invokestatic 344, 3) := by decide +kernel
theorem dX5_shorterWay_9 : decode cX5_shorterWay 9 = .ok (.istore_n 2, 1) := by decide +kernel
theorem dX5_shorterWay_10 : decode cX5_shorterWay 10 = .ok (.iload_n 2, 1) := by decide +kernel
theorem dX5_shorterWay_11 : decode cX5_shorterWay 11 = .ok (.sipush 180, 3) := by decide +kernel
theorem dX5_shorterWay_14 : decode cX5_shorterWay 14 = .ok (.if_icmp .le 11, 3) := by decide +kernel
theorem dX5_shorterWay_17 : decode cX5_shorterWay 17 = .ok (.iload_n 2, 1) := by decide +kernel
theorem dX5_shorterWay_18 : decode cX5_shorterWay 18 = .ok (.sipush 360, 3) := by decide +kernel
theorem dX5_shorterWay_21 : decode cX5_shorterWay 21 = .ok (.isub, 1) := by decide +kernel
theorem dX5_shorterWay_22 : decode cX5_shorterWay 22 = .ok (.goto 4, 3) := by decide +kernel
theorem dX5_shorterWay_25 : decode cX5_shorterWay 25 = .ok (.iload_n 2, 1) := by decide +kernel
theorem dX5_shorterWay_26 : decode cX5_shorterWay 26 = .ok (.ireturn, 1) := by decide +kernel
theorem dX6_init_0 : decode cX6_init 0 = .ok (.aload_n 0, 1) := by decide +kernel
theorem dX6_init_1 : decode cX6_init 1 = .ok (.invokespecial 1, 3) := by decide +kernel
theorem dX6_init_4 : decode cX6_init 4 = .ok (.aload_n 0, 1) := by decide +kernel
theorem dX6_init_5 : decode cX6_init 5 = .ok (.iconst 5, 1) := by decide +kernel
theorem dX6_init_6 : decode cX6_init 6 = .ok (.newarray .int, 2) := by decide +kernel
theorem dX6_init_8 : decode cX6_init 8 = .ok (.putfield 7, 3) := by decide +kernel
theorem dX6_init_11 : decode cX6_init 11 = .ok (.aload_n 0, 1) := by decide +kernel
theorem dX6_init_12 : decode cX6_init 12 = .ok (.bipush 30, 2) := by decide +kernel
theorem dX6_init_14 : decode cX6_init 14 = .ok (.newarray .int, 2) := by decide +kernel
theorem dX6_init_16 : decode cX6_init 16 = .ok (.putfield 13, 3) := by decide +kernel
theorem dX6_init_19 : decode cX6_init 19 = .ok (.aload_n 0, 1) := by decide +kernel
theorem dX6_init_20 : decode cX6_init 20 = .ok (.bipush 30, 2) := by decide +kernel
theorem dX6_init_22 : decode cX6_init 22 = .ok (.newarray .int, 2) := by decide +kernel
theorem dX6_init_24 : decode cX6_init 24 = .ok (.putfield 16, 3) := by decide +kernel
theorem dX6_init_27 : decode cX6_init 27 = .ok (.aload_n 0, 1) := by decide +kernel
theorem dX6_init_28 : decode cX6_init 28 = .ok (.bipush 50, 2) := by decide +kernel
theorem dX6_init_30 : decode cX6_init 30 = .ok (.newarray .int, 2) := by decide +kernel
theorem dX6_init_32 : decode cX6_init 32 = .ok (.putfield 19, 3) := by decide +kernel
theorem dX6_init_35 : decode cX6_init 35 = .ok (.aload_n 0, 1) := by decide +kernel
theorem dX6_init_36 : decode cX6_init 36 = .ok (.bipush 7, 2) := by decide +kernel
theorem dX6_init_38 : decode cX6_init 38 = .ok (.newarray .int, 2) := by decide +kernel
theorem dX6_init_40 : decode cX6_init 40 = .ok (.putfield 22, 3) := by decide +kernel
theorem dX6_init_43 : decode cX6_init 43 = .ok (.aload_n 0, 1) := by decide +kernel
theorem dX6_init_44 : decode cX6_init 44 = .ok (.bipush 84, 2) := by decide +kernel
theorem dX6_init_46 : decode cX6_init 46 = .ok (.newarray .int, 2) := by decide +kernel
theorem dX6_init_48 : decode cX6_init 48 = .ok (.putfield 25, 3) := by decide +kernel
theorem dX6_init_51 : decode cX6_init 51 = .ok (.aload_n 0, 1) := by decide +kernel
theorem dX6_init_52 : decode cX6_init 52 = .ok (.bipush 84, 2) := by decide +kernel
theorem dX6_init_54 : decode cX6_init 54 = .ok (.newarray .int, 2) := by decide +kernel
theorem dX6_init_56 : decode cX6_init 56 = .ok (.putfield 28, 3) := by decide +kernel
theorem dX6_init_59 : decode cX6_init 59 = .ok (.aload_n 0, 1) := by decide +kernel
theorem dX6_init_60 : decode cX6_init 60 = .ok (.bipush 8, 2) := by decide +kernel
theorem dX6_init_62 : decode cX6_init 62 = .ok (.newarray .int, 2) := by decide +kernel
theorem dX6_init_64 : decode cX6_init 64 = .ok (.putfield 31, 3) := by decide +kernel
theorem dX6_init_67 : decode cX6_init 67 = .ok (.aload_n 0, 1) := by decide +kernel
theorem dX6_init_68 : decode cX6_init 68 = .ok (.bipush 8, 2) := by decide +kernel
theorem dX6_init_70 : decode cX6_init 70 = .ok (.newarray .int, 2) := by decide +kernel
theorem dX6_init_72 : decode cX6_init 72 = .ok (.putfield 34, 3) := by decide +kernel
theorem dX6_init_75 : decode cX6_init 75 = .ok (.aload_n 0, 1) := by decide +kernel
theorem dX6_init_76 : decode cX6_init 76 = .ok (.bipush 8, 2) := by decide +kernel
theorem dX6_init_78 : decode cX6_init 78 = .ok (.newarray .int, 2) := by decide +kernel
theorem dX6_init_80 : decode cX6_init 80 = .ok (.putfield 37, 3) := by decide +kernel
theorem dX6_init_83 : decode cX6_init 83 = .ok (.aload_n 0, 1) := by decide +kernel
theorem dX6_init_84 : decode cX6_init 84 = .ok (.bipush 8, 2) := by decide +kernel
theorem dX6_init_86 : decode cX6_init 86 = .ok (.newarray .int, 2) := by decide +kernel
theorem dX6_init_88 : decode cX6_init 88 = .ok (.putfield 40, 3) := by decide +kernel
theorem dX6_init_91 : decode cX6_init 91 = .ok (.aload_n 0, 1) := by decide +kernel
theorem dX6_init_92 : decode cX6_init 92 = .ok (.bipush 8, 2) := by decide +kernel
theorem dX6_init_94 : decode cX6_init 94 = .ok (.newarray .int, 2) := by decide +kernel
theorem dX6_init_96 : decode cX6_init 96 = .ok (.putfield 43, 3) := by decide +kernel
theorem dX6_init_99 : decode cX6_init 99 = .ok (.aload_n 0, 1) := by decide +kernel
theorem dX6_init_100 : decode cX6_init 100 = .ok (.bipush 8, 2) := by decide +kernel
theorem dX6_init_102 : decode cX6_init 102 = .ok (.newarray .int, 2) := by decide +kernel
theorem dX6_init_104 : decode cX6_init 104 = .ok (.putfield 46, 3) := by decide +kernel
theorem dX6_init_107 : decode cX6_init 107 = .ok (.aload_n 0, 1) := by decide +kernel
theorem dX6_init_108 : decode cX6_init 108 = .ok (.bipush 8, 2) := by decide +kernel
theorem dX6_init_110 : decode cX6_init 110 = .ok (.newarray .int, 2) := by decide +kernel
theorem dX6_init_112 : decode cX6_init 112 = .ok (.putfield 49, 3) := by decide +kernel
theorem dX6_init_115 : decode cX6_init 115 = .ok (.aload_n 0, 1) := by decide +kernel
theorem dX6_init_116 : decode cX6_init 116 = .ok (.iconst 5, 1) := by decide +kernel
theorem dX6_init_117 : decode cX6_init 117 = .ok (.newarray .boolean, 2) := by decide +kernel
theorem dX6_init_119 : decode cX6_init 119 = .ok (.putfield 52, 3) := by decide +kernel
theorem dX6_init_122 : decode cX6_init 122 = .ok (.aload_n 0, 1) := by decide +kernel
theorem dX6_init_123 : decode cX6_init 123 = .ok (.sipush 2304, 3) := by decide +kernel
theorem dX6_init_126 : decode cX6_init 126 = .ok (.newarray .int, 2) := by decide +kernel
theorem dX6_init_128 : decode cX6_init 128 = .ok (.putfield 56, 3) := by decide +kernel
theorem dX6_init_131 : decode cX6_init 131 = .ok (.aload_n 0, 1) := by decide +kernel
theorem dX6_init_132 : decode cX6_init 132 = .ok (.sipush 384, 3) := by decide +kernel
theorem dX6_init_135 : decode cX6_init 135 = .ok (.newarray .int, 2) := by decide +kernel
theorem dX6_init_137 : decode cX6_init 137 = .ok (.putfield 59, 3) := by decide +kernel
theorem dX6_init_140 : decode cX6_init 140 = .ok (.aload_n 0, 1) := by decide +kernel
theorem dX6_init_141 : decode cX6_init 141 = .ok (.sipush 2304, 3) := by decide +kernel
theorem dX6_init_144 : decode cX6_init 144 = .ok (.newarray .int, 2) := by decide +kernel
theorem dX6_init_146 : decode cX6_init 146 = .ok (.putfield 62, 3) := by decide +kernel
theorem dX6_init_149 : decode cX6_init 149 = .ok (.aload_n 0, 1) := by decide +kernel
theorem dX6_init_150 : decode cX6_init 150 = .ok (.sipush 384, 3) := by decide +kernel
theorem dX6_init_153 : decode cX6_init 153 = .ok (.newarray .int, 2) := by decide +kernel
theorem dX6_init_155 : decode cX6_init 155 = .ok (.putfield 65, 3) := by decide +kernel
theorem dX6_init_158 : decode cX6_init 158 = .ok (.aload_n 0, 1) := by decide +kernel
theorem dX6_init_159 : decode cX6_init 159 = .ok (.sipush 384, 3) := by decide +kernel
theorem dX6_init_162 : decode cX6_init 162 = .ok (.newarray .int, 2) := by decide +kernel
theorem dX6_init_164 : decode cX6_init 164 = .ok (.putfield 68, 3) := by decide +kernel
theorem dX6_init_167 : decode cX6_init 167 = .ok (.aload_n 0, 1) := by decide +kernel
theorem dX6_init_168 : decode cX6_init 168 = .ok (.sipush 384, 3) := by decide +kernel
theorem dX6_init_171 : decode cX6_init 171 = .ok (.newarray .int, 2) := by decide +kernel
theorem dX6_init_173 : decode cX6_init 173 = .ok (.putfield 71, 3) := by decide +kernel
theorem dX6_init_176 : decode cX6_init 176 = .ok (.aload_n 0, 1) := by decide +kernel
theorem dX6_init_177 : decode cX6_init 177 = .ok (.sipush 384, 3) := by decide +kernel
theorem dX6_init_180 : decode cX6_init 180 = .ok (.newarray .int, 2) := by decide +kernel
theorem dX6_init_182 : decode cX6_init 182 = .ok (.putfield 74, 3) := by decide +kernel
theorem dX6_init_185 : decode cX6_init 185 = .ok (.aload_n 0, 1) := by decide +kernel
theorem dX6_init_186 : decode cX6_init 186 = .ok (.sipush 384, 3) := by decide +kernel
theorem dX6_init_189 : decode cX6_init 189 = .ok (.newarray .int, 2) := by decide +kernel
theorem dX6_init_191 : decode cX6_init 191 = .ok (.putfield 77, 3) := by decide +kernel
theorem dX6_init_194 : decode cX6_init 194 = .ok (.aload_n 0, 1) := by decide +kernel
theorem dX6_init_195 : decode cX6_init 195 = .ok (.bipush 8, 2) := by decide +kernel
theorem dX6_init_197 : decode cX6_init 197 = .ok (.newarray .int, 2) := by decide +kernel
theorem dX6_init_199 : decode cX6_init 199 = .ok (.putfield 80, 3) := by decide +kernel
theorem dX6_init_202 : decode cX6_init 202 = .ok (.iconst 0, 1) := by decide +kernel
theorem dX6_init_203 : decode cX6_init 203 = .ok (.istore_n 1, 1) := by decide +kernel
theorem dX6_init_204 : decode cX6_init 204 = .ok (.iload_n 1, 1) := by decide +kernel
theorem dX6_init_205 : decode cX6_init 205 = .ok (.sipush 2304, 3) := by decide +kernel
theorem dX6_init_208 : decode cX6_init 208 = .ok (.if_icmp .ge 16, 3) := by decide +kernel
theorem dX6_init_211 : decode cX6_init 211 = .ok (.aload_n 0, 1) := by decide +kernel
theorem dX6_init_212 : decode cX6_init 212 = .ok (.getfield 56, 3) := by decide +kernel
theorem dX6_init_215 : decode cX6_init 215 = .ok (.iload_n 1, 1) := by decide +kernel
theorem dX6_init_216 : decode cX6_init 216 = .ok (.iconst (-1), 1) := by decide +kernel
theorem dX6_init_217 : decode cX6_init 217 = .ok (.iastore, 1) := by decide +kernel
theorem dX6_init_218 : decode cX6_init 218 = .ok (.iinc 1 1, 3) := by decide +kernel
theorem dX6_init_221 : decode cX6_init 221 = .ok (.goto (-17), 3) := by decide +kernel
theorem dX6_init_224 : decode cX6_init 224 = .ok (.iconst 0, 1) := by decide +kernel
theorem dX6_init_225 : decode cX6_init 225 = .ok (.istore_n 1, 1) := by decide +kernel
theorem dX6_init_226 : decode cX6_init 226 = .ok (.iload_n 1, 1) := by decide +kernel
theorem dX6_init_227 : decode cX6_init 227 = .ok (.sipush 384, 3) := by decide +kernel
theorem dX6_init_230 : decode cX6_init 230 = .ok (.if_icmp .ge 17, 3) := by decide +kernel
theorem dX6_init_233 : decode cX6_init 233 = .ok (.aload_n 0, 1) := by decide +kernel
theorem dX6_init_234 : decode cX6_init 234 = .ok (.getfield 59, 3) := by decide +kernel
theorem dX6_init_237 : decode cX6_init 237 = .ok (.iload_n 1, 1) := by decide +kernel
theorem dX6_init_238 : decode cX6_init 238 = .ok (.ldc 83, 2) := by decide +kernel
theorem dX6_init_240 : decode cX6_init 240 = .ok (.iastore, 1) := by decide +kernel
theorem dX6_init_241 : decode cX6_init 241 = .ok (.iinc 1 1, 3) := by decide +kernel
theorem dX6_init_244 : decode cX6_init 244 = .ok (.goto (-18), 3) := by decide +kernel
theorem dX6_init_247 : decode cX6_init 247 = .ok (.return_, 1) := by decide +kernel
theorem dX6_thrown_0 : decode cX6_thrown 0 = .ok (.aload_n 0, 1) := by decide +kernel
theorem dX6_thrown_1 : decode cX6_thrown 1 = .ok (.getfield 84, 3) := by decide +kernel
theorem dX6_thrown_4 : decode cX6_thrown 4 = .ok (.ireturn, 1) := by decide +kernel
theorem dX6_fails_0 : decode cX6_fails 0 = .ok (.aload_n 0, 1) := by decide +kernel
theorem dX6_fails_1 : decode cX6_fails 1 = .ok (.iload_n 1, 1) := by decide +kernel
theorem dX6_fails_2 : decode cX6_fails 2 = .ok (.putfield 84, 3) := by decide +kernel
theorem dX6_fails_5 : decode cX6_fails 5 = .ok (.iload_n 1, 1) := by decide +kernel
theorem dX6_fails_6 : decode cX6_fails 6 = .ok (.ifCond .le 7, 3) := by decide +kernel
theorem dX6_fails_9 : decode cX6_fails 9 = .ok (.iconst 1, 1) := by decide +kernel
theorem dX6_fails_10 : decode cX6_fails 10 = .ok (.goto 4, 3) := by decide +kernel
theorem dX6_fails_13 : decode cX6_fails 13 = .ok (.iconst 0, 1) := by decide +kernel
theorem dX6_fails_14 : decode cX6_fails 14 = .ok (.ireturn, 1) := by decide +kernel
theorem dX6_isIn_0 : decode cX6_isIn 0 = .ok (.iload_n 0, 1) := by decide +kernel
theorem dX6_isIn_1 : decode cX6_isIn 1 = .ok (.iload_n 1, 1) := by decide +kernel
theorem dX6_isIn_2 : decode cX6_isIn 2 = .ok (.if_icmp .lt 12, 3) := by decide +kernel
theorem dX6_isIn_5 : decode cX6_isIn 5 = .ok (.iload_n 0, 1) := by decide +kernel
theorem dX6_isIn_6 : decode cX6_isIn 6 = .ok (.iload_n 2, 1) := by decide +kernel
theorem dX6_isIn_7 : decode cX6_isIn 7 = .ok (.if_icmp .gt 7, 3) := by decide +kernel
theorem dX6_isIn_10 : decode cX6_isIn 10 = .ok (.iconst 1, 1) := by decide +kernel
theorem dX6_isIn_11 : decode cX6_isIn 11 = .ok (.goto 4, 3) := by decide +kernel
theorem dX6_isIn_14 : decode cX6_isIn 14 = .ok (.iconst 0, 1) := by decide +kernel
theorem dX6_isIn_15 : decode cX6_isIn 15 = .ok (.ireturn, 1) := by decide +kernel
theorem dX6_isPuppet_0 : decode cX6_isPuppet 0 = .ok (.iload_n 1, 1) := by decide +kernel
theorem dX6_isPuppet_1 : decode cX6_isPuppet 1 = .ok (.iconst 0, 1) := by decide +kernel
theorem dX6_isPuppet_2 : decode cX6_isPuppet 2 = .ok (.aload_n 0, 1) := by decide +kernel
theorem dX6_isPuppet_3 : decode cX6_isPuppet 3 = .ok (.getfield 88, 3) := by decide +kernel
theorem dX6_isPuppet_6 : decode cX6_isPuppet 6 = .ok (.iconst 1, 1) := by decide +kernel
theorem dX6_isPuppet_7 : decode cX6_isPuppet 7 = .ok (.isub, 1) := by decide +kernel
theorem dX6_isPuppet_8 : decode cX6_isPuppet 8 = .ok (.invokestatic 91, 3) := by decide +kernel
theorem dX6_isPuppet_11 : decode cX6_isPuppet 11 = .ok (.ireturn, 1) := by decide +kernel
theorem dX6_isJoint_0 : decode cX6_isJoint 0 = .ok (.aload_n 0, 1) := by decide +kernel
theorem dX6_isJoint_1 : decode cX6_isJoint 1 = .ok (.iload_n 1, 1) := by decide +kernel
theorem dX6_isJoint_2 : decode cX6_isJoint 2 = .ok (.invokevirtual 95, 3) := by decide +kernel
theorem dX6_isJoint_5 : decode cX6_isJoint 5 = .ok (.ifCond .eq 23, 3) := by decide +kernel
theorem dX6_isJoint_8 : decode cX6_isJoint 8 = .ok (.iload_n 2, 1) := by decide +kernel
theorem dX6_isJoint_9 : decode cX6_isJoint 9 = .ok (.iconst 0, 1) := by decide +kernel
theorem dX6_isJoint_10 : decode cX6_isJoint 10 = .ok (.aload_n 0, 1) := by decide +kernel
theorem dX6_isJoint_11 : decode cX6_isJoint 11 = .ok (.getfield 7, 3) := by decide +kernel
theorem dX6_isJoint_14 : decode cX6_isJoint 14 = .ok (.iload_n 1, 1) := by decide +kernel
theorem dX6_isJoint_15 : decode cX6_isJoint 15 = .ok (.iaload, 1) := by decide +kernel
theorem dX6_isJoint_16 : decode cX6_isJoint 16 = .ok (.iconst 1, 1) := by decide +kernel
theorem dX6_isJoint_17 : decode cX6_isJoint 17 = .ok (.isub, 1) := by decide +kernel
theorem dX6_isJoint_18 : decode cX6_isJoint 18 = .ok (.invokestatic 91, 3) := by decide +kernel
theorem dX6_isJoint_21 : decode cX6_isJoint 21 = .ok (.ifCond .eq 7, 3) := by decide +kernel
theorem dX6_isJoint_24 : decode cX6_isJoint 24 = .ok (.iconst 1, 1) := by decide +kernel
theorem dX6_isJoint_25 : decode cX6_isJoint 25 = .ok (.goto 4, 3) := by decide +kernel
theorem dX6_isJoint_28 : decode cX6_isJoint 28 = .ok (.iconst 0, 1) := by decide +kernel
theorem dX6_isJoint_29 : decode cX6_isJoint 29 = .ok (.ireturn, 1) := by decide +kernel
theorem dX6_isVoice_0 : decode cX6_isVoice 0 = .ok (.iload_n 1, 1) := by decide +kernel
theorem dX6_isVoice_1 : decode cX6_isVoice 1 = .ok (.iconst (-1), 1) := by decide +kernel
theorem dX6_isVoice_2 : decode cX6_isVoice 2 = .ok (.aload_n 0, 1) := by decide +kernel
theorem dX6_isVoice_3 : decode cX6_isVoice 3 = .ok (.getfield 99, 3) := by decide +kernel
theorem dX6_isVoice_6 : decode cX6_isVoice 6 = .ok (.iconst 1, 1) := by decide +kernel
theorem dX6_isVoice_7 : decode cX6_isVoice 7 = .ok (.isub, 1) := by decide +kernel
theorem dX6_isVoice_8 : decode cX6_isVoice 8 = .ok (.invokestatic 91, 3) := by decide +kernel
theorem dX6_isVoice_11 : decode cX6_isVoice 11 = .ok (.ireturn, 1) := by decide +kernel
theorem dX6_isShot_0 : decode cX6_isShot 0 = .ok (.iload_n 1, 1) := by decide +kernel
theorem dX6_isShot_1 : decode cX6_isShot 1 = .ok (.iconst 0, 1) := by decide +kernel
theorem dX6_isShot_2 : decode cX6_isShot 2 = .ok (.aload_n 0, 1) := by decide +kernel
theorem dX6_isShot_3 : decode cX6_isShot 3 = .ok (.getfield 102, 3) := by decide +kernel
theorem dX6_isShot_6 : decode cX6_isShot 6 = .ok (.iconst 1, 1) := by decide +kernel
theorem dX6_isShot_7 : decode cX6_isShot 7 = .ok (.isub, 1) := by decide +kernel
theorem dX6_isShot_8 : decode cX6_isShot 8 = .ok (.invokestatic 91, 3) := by decide +kernel
theorem dX6_isShot_11 : decode cX6_isShot 11 = .ok (.ireturn, 1) := by decide +kernel
theorem dX6_isFrame_0 : decode cX6_isFrame 0 = .ok (.aload_n 0, 1) := by decide +kernel
theorem dX6_isFrame_1 : decode cX6_isFrame 1 = .ok (.iload_n 1, 1) := by decide +kernel
theorem dX6_isFrame_2 : decode cX6_isFrame 2 = .ok (.invokevirtual 105, 3) := by decide +kernel
theorem dX6_isFrame_5 : decode cX6_isFrame 5 = .ok (.ifCond .eq 23, 3) := by decide +kernel
theorem dX6_isFrame_8 : decode cX6_isFrame 8 = .ok (.iload_n 2, 1) := by decide +kernel
theorem dX6_isFrame_9 : decode cX6_isFrame 9 = .ok (.iconst 0, 1) := by decide +kernel
theorem dX6_isFrame_10 : decode cX6_isFrame 10 = .ok (.aload_n 0, 1) := by decide +kernel
theorem dX6_isFrame_11 : decode cX6_isFrame 11 = .ok (.getfield 34, 3) := by decide +kernel
theorem dX6_isFrame_14 : decode cX6_isFrame 14 = .ok (.iload_n 1, 1) := by decide +kernel
theorem dX6_isFrame_15 : decode cX6_isFrame 15 = .ok (.iaload, 1) := by decide +kernel
theorem dX6_isFrame_16 : decode cX6_isFrame 16 = .ok (.iconst 1, 1) := by decide +kernel
theorem dX6_isFrame_17 : decode cX6_isFrame 17 = .ok (.isub, 1) := by decide +kernel
theorem dX6_isFrame_18 : decode cX6_isFrame 18 = .ok (.invokestatic 91, 3) := by decide +kernel
theorem dX6_isFrame_21 : decode cX6_isFrame 21 = .ok (.ifCond .eq 7, 3) := by decide +kernel
theorem dX6_isFrame_24 : decode cX6_isFrame 24 = .ok (.iconst 1, 1) := by decide +kernel
theorem dX6_isFrame_25 : decode cX6_isFrame 25 = .ok (.goto 4, 3) := by decide +kernel
theorem dX6_isFrame_28 : decode cX6_isFrame 28 = .ok (.iconst 0, 1) := by decide +kernel
theorem dX6_isFrame_29 : decode cX6_isFrame 29 = .ok (.ireturn, 1) := by decide +kernel
theorem dX6_isStruck_0 : decode cX6_isStruck 0 = .ok (.aload_n 0, 1) := by decide +kernel
theorem dX6_isStruck_1 : decode cX6_isStruck 1 = .ok (.iload_n 1, 1) := by decide +kernel
theorem dX6_isStruck_2 : decode cX6_isStruck 2 = .ok (.invokevirtual 105, 3) := by decide +kernel
theorem dX6_isStruck_5 : decode cX6_isStruck 5 = .ok (.ifCond .eq 23, 3) := by decide +kernel
theorem dX6_isStruck_8 : decode cX6_isStruck 8 = .ok (.iload_n 2, 1) := by decide +kernel
theorem dX6_isStruck_9 : decode cX6_isStruck 9 = .ok (.iconst 0, 1) := by decide +kernel
theorem dX6_isStruck_10 : decode cX6_isStruck 10 = .ok (.aload_n 0, 1) := by decide +kernel
theorem dX6_isStruck_11 : decode cX6_isStruck 11 = .ok (.getfield 46, 3) := by decide +kernel
theorem dX6_isStruck_14 : decode cX6_isStruck 14 = .ok (.iload_n 1, 1) := by decide +kernel
theorem dX6_isStruck_15 : decode cX6_isStruck 15 = .ok (.iaload, 1) := by decide +kernel
theorem dX6_isStruck_16 : decode cX6_isStruck 16 = .ok (.iconst 1, 1) := by decide +kernel
theorem dX6_isStruck_17 : decode cX6_isStruck 17 = .ok (.isub, 1) := by decide +kernel
theorem dX6_isStruck_18 : decode cX6_isStruck 18 = .ok (.invokestatic 91, 3) := by decide +kernel
theorem dX6_isStruck_21 : decode cX6_isStruck 21 = .ok (.ifCond .eq 7, 3) := by decide +kernel
theorem dX6_isStruck_24 : decode cX6_isStruck 24 = .ok (.iconst 1, 1) := by decide +kernel
theorem dX6_isStruck_25 : decode cX6_isStruck 25 = .ok (.goto 4, 3) := by decide +kernel
theorem dX6_isStruck_28 : decode cX6_isStruck 28 = .ok (.iconst 0, 1) := by decide +kernel
theorem dX6_isStruck_29 : decode cX6_isStruck 29 = .ok (.ireturn, 1) := by decide +kernel
theorem dX6_isAnimator_0 : decode cX6_isAnimator 0 = .ok (.iload_n 0, 1) := by decide +kernel
theorem dX6_isAnimator_1 : decode cX6_isAnimator 1 = .ok (.iconst 0, 1) := by decide +kernel
theorem dX6_isAnimator_2 : decode cX6_isAnimator 2 = .ok (.iconst 4, 1) := by decide +kernel
theorem dX6_isAnimator_3 : decode cX6_isAnimator 3 = .ok (.invokestatic 91, 3) := by decide +kernel
theorem dX6_isAnimator_6 : decode cX6_isAnimator 6 = .ok (.ireturn, 1) := by decide +kernel
theorem dX6_isSound_0 : decode cX6_isSound 0 = .ok (.iload_n 0, 1) := by decide +kernel
theorem dX6_isSound_1 : decode cX6_isSound 1 = .ok (.iconst 0, 1) := by decide +kernel
theorem dX6_isSound_2 : decode cX6_isSound 2 = .ok (.bipush 9, 2) := by decide +kernel
theorem dX6_isSound_4 : decode cX6_isSound 4 = .ok (.invokestatic 91, 3) := by decide +kernel
theorem dX6_isSound_7 : decode cX6_isSound 7 = .ok (.ireturn, 1) := by decide +kernel
theorem dX6_puppet_0 : decode cX6_puppet 0 = .ok (.aload_n 0, 1) := by decide +kernel
theorem dX6_puppet_1 : decode cX6_puppet 1 = .ok (.iload_n 1, 1) := by decide +kernel
theorem dX6_puppet_2 : decode cX6_puppet 2 = .ok (.iconst 1, 1) := by decide +kernel
theorem dX6_puppet_3 : decode cX6_puppet 3 = .ok (.bipush 6, 2) := by decide +kernel
theorem dX6_puppet_5 : decode cX6_puppet 5 = .ok (.invokestatic 91, 3) := by decide +kernel
theorem dX6_puppet_8 : decode cX6_puppet 8 = .ok (.ifCond .ne 7, 3) := by decide +kernel
theorem dX6_puppet_11 : decode cX6_puppet 11 = .ok (.iconst 1, 1) := by decide +kernel
theorem dX6_puppet_12 : decode cX6_puppet 12 = .ok (.goto 16, 3) := by decide +kernel
theorem dX6_puppet_15 : decode cX6_puppet 15 = .ok (.aload_n 0, 1) := by decide +kernel
theorem dX6_puppet_16 : decode cX6_puppet 16 = .ok (.getfield 88, 3) := by decide +kernel
theorem dX6_puppet_19 : decode cX6_puppet 19 = .ok (.iconst 5, 1) := by decide +kernel
theorem dX6_puppet_20 : decode cX6_puppet 20 = .ok (.if_icmp .ne 7, 3) := by decide +kernel
theorem dX6_puppet_23 : decode cX6_puppet 23 = .ok (.iconst 2, 1) := by decide +kernel
theorem dX6_puppet_24 : decode cX6_puppet 24 = .ok (.goto 4, 3) := by decide +kernel
theorem dX6_puppet_27 : decode cX6_puppet 27 = .ok (.iconst 0, 1) := by decide +kernel
theorem dX6_puppet_28 : decode cX6_puppet 28 = .ok (.invokevirtual 108, 3) := by decide +kernel
theorem dX6_puppet_31 : decode cX6_puppet 31 = .ok (.ifCond .eq 5, 3) := by decide +kernel
theorem dX6_puppet_34 : decode cX6_puppet 34 = .ok (.iconst 0, 1) := by decide +kernel
theorem dX6_puppet_35 : decode cX6_puppet 35 = .ok (.ireturn, 1) := by decide +kernel
theorem dX6_puppet_36 : decode cX6_puppet 36 = .ok (.aload_n 0, 1) := by decide +kernel
theorem dX6_puppet_37 : decode cX6_puppet 37 = .ok (.getfield 7, 3) := by decide +kernel
theorem dX6_puppet_40 : decode cX6_puppet 40 = .ok (.aload_n 0, 1) := by decide +kernel
theorem dX6_puppet_41 : decode cX6_puppet 41 = .ok (.getfield 88, 3) := by decide +kernel
theorem dX6_puppet_44 : decode cX6_puppet 44 = .ok (.iload_n 1, 1) := by decide +kernel
theorem dX6_puppet_45 : decode cX6_puppet 45 = .ok (.iastore, 1) := by decide +kernel
theorem dX6_puppet_46 : decode cX6_puppet 46 = .ok (.aload_n 0, 1) := by decide +kernel
theorem dX6_puppet_47 : decode cX6_puppet 47 = .ok (.dup, 1) := by decide +kernel
theorem dX6_puppet_48 : decode cX6_puppet 48 = .ok (.getfield 88, 3) := by decide +kernel
theorem dX6_puppet_51 : decode cX6_puppet 51 = .ok (.iconst 1, 1) := by decide +kernel
theorem dX6_puppet_52 : decode cX6_puppet 52 = .ok (.iadd, 1) := by decide +kernel
theorem dX6_puppet_53 : decode cX6_puppet 53 = .ok (.putfield 88, 3) := by decide +kernel
theorem dX6_puppet_56 : decode cX6_puppet 56 = .ok (.aload_n 0, 1) := by decide +kernel
theorem dX6_puppet_57 : decode cX6_puppet 57 = .ok (.getfield 88, 3) := by decide +kernel
theorem dX6_puppet_60 : decode cX6_puppet 60 = .ok (.iconst 1, 1) := by decide +kernel
theorem dX6_puppet_61 : decode cX6_puppet 61 = .ok (.isub, 1) := by decide +kernel
theorem dX6_puppet_62 : decode cX6_puppet 62 = .ok (.ireturn, 1) := by decide +kernel
theorem dX6_mouths_0 : decode cX6_mouths 0 = .ok (.iload_n 2, 1) := by decide +kernel
theorem dX6_mouths_1 : decode cX6_mouths 1 = .ok (.invokestatic 111, 3) := by decide +kernel
theorem dX6_mouths_4 : decode cX6_mouths 4 = .ok (.ifCond .eq 17, 3) := by decide +kernel
theorem dX6_mouths_7 : decode cX6_mouths 7 = .ok (.iload_n 3, 1) := by decide +kernel
theorem dX6_mouths_8 : decode cX6_mouths 8 = .ok (.iconst 1, 1) := by decide +kernel
theorem dX6_mouths_9 : decode cX6_mouths 9 = .ok (.bipush 9, 2) := by decide +kernel
theorem dX6_mouths_11 : decode cX6_mouths 11 = .ok (.invokestatic 91, 3) := by decide +kernel
theorem dX6_mouths_14 : decode cX6_mouths 14 = .ok (.ifCond .eq 7, 3) := by decide +kernel
theorem dX6_mouths_17 : decode cX6_mouths 17 = .ok (.iconst 1, 1) := by decide +kernel
theorem dX6_mouths_18 : decode cX6_mouths 18 = .ok (.goto 4, 3) := by decide +kernel
theorem dX6_mouths_21 : decode cX6_mouths 21 = .ok (.iconst 0, 1) := by decide +kernel
theorem dX6_mouths_22 : decode cX6_mouths 22 = .ok (.istore 4, 2) := by decide +kernel
theorem dX6_mouths_24 : decode cX6_mouths 24 = .ok (.aload_n 0, 1) := by decide +kernel
theorem dX6_mouths_25 : decode cX6_mouths 25 = .ok (.aload_n 0, 1) := by decide +kernel
theorem dX6_mouths_26 : decode cX6_mouths 26 = .ok (.iload_n 1, 1) := by decide +kernel
theorem dX6_mouths_27 : decode cX6_mouths 27 = .ok (.invokevirtual 95, 3) := by decide +kernel
theorem dX6_mouths_30 : decode cX6_mouths 30 = .ok (.ifCond .ne 7, 3) := by decide +kernel
theorem dX6_mouths_33 : decode cX6_mouths 33 = .ok (.iconst 1, 1) := by decide +kernel
theorem dX6_mouths_34 : decode cX6_mouths 34 = .ok (.goto 35, 3) := by decide +kernel
theorem dX6_mouths_37 : decode cX6_mouths 37 = .ok (.iload 4, 2) := by decide +kernel
theorem dX6_mouths_39 : decode cX6_mouths 39 = .ok (.ifCond .ne 7, 3) := by decide +kernel
theorem dX6_mouths_42 : decode cX6_mouths 42 = .ok (.iconst 2, 1) := by decide +kernel
theorem dX6_mouths_43 : decode cX6_mouths 43 = .ok (.goto 26, 3) := by decide +kernel
theorem dX6_mouths_46 : decode cX6_mouths 46 = .ok (.aload_n 0, 1) := by decide +kernel
theorem dX6_mouths_47 : decode cX6_mouths 47 = .ok (.getfield 19, 3) := by decide +kernel
theorem dX6_mouths_50 : decode cX6_mouths 50 = .ok (.bipush 10, 2) := by decide +kernel
theorem dX6_mouths_52 : decode cX6_mouths 52 = .ok (.iload_n 1, 1) := by decide +kernel
theorem dX6_mouths_53 : decode cX6_mouths 53 = .ok (.imul, 1) := by decide +kernel
theorem dX6_mouths_54 : decode cX6_mouths 54 = .ok (.iload_n 2, 1) := by decide +kernel
theorem dX6_mouths_55 : decode cX6_mouths 55 = .ok (.iadd, 1) := by decide +kernel
theorem dX6_mouths_56 : decode cX6_mouths 56 = .ok (.iaload, 1) := by decide +kernel
theorem dX6_mouths_57 : decode cX6_mouths 57 = .ok (.iload_n 3, 1) := by decide +kernel
theorem dX6_mouths_58 : decode cX6_mouths 58 = .ok (.iadd, 1) := by decide +kernel
theorem dX6_mouths_59 : decode cX6_mouths 59 = .ok (.bipush 9, 2) := by decide +kernel
theorem dX6_mouths_61 : decode cX6_mouths 61 = .ok (.if_icmp .le 7, 3) := by decide +kernel
theorem dX6_mouths_64 : decode cX6_mouths 64 = .ok (.iconst 3, 1) := by decide +kernel
theorem dX6_mouths_65 : decode cX6_mouths 65 = .ok (.goto 4, 3) := by decide +kernel
theorem dX6_mouths_68 : decode cX6_mouths 68 = .ok (.iconst 0, 1) := by decide +kernel
theorem dX6_mouths_69 : decode cX6_mouths 69 = .ok (.invokevirtual 108, 3) := by decide +kernel
theorem dX6_mouths_72 : decode cX6_mouths 72 = .ok (.ifCond .eq 5, 3) := by decide +kernel
theorem dX6_mouths_75 : decode cX6_mouths 75 = .ok (.iconst 0, 1) := by decide +kernel
theorem dX6_mouths_76 : decode cX6_mouths 76 = .ok (.ireturn, 1) := by decide +kernel
theorem dX6_mouths_77 : decode cX6_mouths 77 = .ok (.aload_n 0, 1) := by decide +kernel
theorem dX6_mouths_78 : decode cX6_mouths 78 = .ok (.getfield 19, 3) := by decide +kernel
theorem dX6_mouths_81 : decode cX6_mouths 81 = .ok (.bipush 10, 2) := by decide +kernel
theorem dX6_mouths_83 : decode cX6_mouths 83 = .ok (.iload_n 1, 1) := by decide +kernel
theorem dX6_mouths_84 : decode cX6_mouths 84 = .ok (.imul, 1) := by decide +kernel
theorem dX6_mouths_85 : decode cX6_mouths 85 = .ok (.iload_n 2, 1) := by decide +kernel
theorem dX6_mouths_86 : decode cX6_mouths 86 = .ok (.iadd, 1) := by decide +kernel
theorem dX6_mouths_87 : decode cX6_mouths 87 = .ok (.dup2, 1) := by decide +kernel
theorem dX6_mouths_88 : decode cX6_mouths 88 = .ok (.iaload, 1) := by decide +kernel
theorem dX6_mouths_89 : decode cX6_mouths 89 = .ok (.iload_n 3, 1) := by decide +kernel
theorem dX6_mouths_90 : decode cX6_mouths 90 = .ok (.iadd, 1) := by decide +kernel
theorem dX6_mouths_91 : decode cX6_mouths 91 = .ok (.iastore, 1) := by decide +kernel
theorem dX6_mouths_92 : decode cX6_mouths 92 = .ok (.aload_n 0, 1) := by decide +kernel
theorem dX6_mouths_93 : decode cX6_mouths 93 = .ok (.getfield 19, 3) := by decide +kernel
theorem dX6_mouths_96 : decode cX6_mouths 96 = .ok (.bipush 10, 2) := by decide +kernel
theorem dX6_mouths_98 : decode cX6_mouths 98 = .ok (.iload_n 1, 1) := by decide +kernel
theorem dX6_mouths_99 : decode cX6_mouths 99 = .ok (.imul, 1) := by decide +kernel
theorem dX6_mouths_100 : decode cX6_mouths 100 = .ok (.iload_n 2, 1) := by decide +kernel
theorem dX6_mouths_101 : decode cX6_mouths 101 = .ok (.iadd, 1) := by decide +kernel
theorem dX6_mouths_102 : decode cX6_mouths 102 = .ok (.iaload, 1) := by decide +kernel
theorem dX6_mouths_103 : decode cX6_mouths 103 = .ok (.ireturn, 1) := by decide +kernel
theorem dX6_sound_0 : decode cX6_sound 0 = .ok (.iload_n 1, 1) := by decide +kernel
theorem dX6_sound_1 : decode cX6_sound 1 = .ok (.invokestatic 111, 3) := by decide +kernel
theorem dX6_sound_4 : decode cX6_sound 4 = .ok (.ifCond .eq 17, 3) := by decide +kernel
theorem dX6_sound_7 : decode cX6_sound 7 = .ok (.iload_n 2, 1) := by decide +kernel
theorem dX6_sound_8 : decode cX6_sound 8 = .ok (.iconst 1, 1) := by decide +kernel
theorem dX6_sound_9 : decode cX6_sound 9 = .ok (.bipush 24, 2) := by decide +kernel
theorem dX6_sound_11 : decode cX6_sound 11 = .ok (.invokestatic 91, 3) := by decide +kernel
theorem dX6_sound_14 : decode cX6_sound 14 = .ok (.ifCond .eq 7, 3) := by decide +kernel
theorem dX6_sound_17 : decode cX6_sound 17 = .ok (.iconst 1, 1) := by decide +kernel
theorem dX6_sound_18 : decode cX6_sound 18 = .ok (.goto 4, 3) := by decide +kernel
theorem dX6_sound_21 : decode cX6_sound 21 = .ok (.iconst 0, 1) := by decide +kernel
theorem dX6_sound_22 : decode cX6_sound 22 = .ok (.istore_n 3, 1) := by decide +kernel
theorem dX6_sound_23 : decode cX6_sound 23 = .ok (.aload_n 0, 1) := by decide +kernel
theorem dX6_sound_24 : decode cX6_sound 24 = .ok (.iload_n 3, 1) := by decide +kernel
theorem dX6_sound_25 : decode cX6_sound 25 = .ok (.ifCond .ne 7, 3) := by decide +kernel
theorem dX6_sound_28 : decode cX6_sound 28 = .ok (.iconst 1, 1) := by decide +kernel
theorem dX6_sound_29 : decode cX6_sound 29 = .ok (.goto 22, 3) := by decide +kernel
theorem dX6_sound_32 : decode cX6_sound 32 = .ok (.aload_n 0, 1) := by decide +kernel
theorem dX6_sound_33 : decode cX6_sound 33 = .ok (.getfield 22, 3) := by decide +kernel
theorem dX6_sound_36 : decode cX6_sound 36 = .ok (.aload_n 0, 1) := by decide +kernel
theorem dX6_sound_37 : decode cX6_sound 37 = .ok (.getfield 99, 3) := by decide +kernel
theorem dX6_sound_40 : decode cX6_sound 40 = .ok (.iaload, 1) := by decide +kernel
theorem dX6_sound_41 : decode cX6_sound 41 = .ok (.bipush 12, 2) := by decide +kernel
theorem dX6_sound_43 : decode cX6_sound 43 = .ok (.if_icmp .ne 7, 3) := by decide +kernel
theorem dX6_sound_46 : decode cX6_sound 46 = .ok (.iconst 2, 1) := by decide +kernel
theorem dX6_sound_47 : decode cX6_sound 47 = .ok (.goto 4, 3) := by decide +kernel
theorem dX6_sound_50 : decode cX6_sound 50 = .ok (.iconst 0, 1) := by decide +kernel
theorem dX6_sound_51 : decode cX6_sound 51 = .ok (.invokevirtual 108, 3) := by decide +kernel
theorem dX6_sound_54 : decode cX6_sound 54 = .ok (.ifCond .eq 5, 3) := by decide +kernel
theorem dX6_sound_57 : decode cX6_sound 57 = .ok (.iconst 0, 1) := by decide +kernel
theorem dX6_sound_58 : decode cX6_sound 58 = .ok (.ireturn, 1) := by decide +kernel
theorem dX6_sound_59 : decode cX6_sound 59 = .ok (.aload_n 0, 1) := by decide +kernel
theorem dX6_sound_60 : decode cX6_sound 60 = .ok (.getfield 25, 3) := by decide +kernel
theorem dX6_sound_63 : decode cX6_sound 63 = .ok (.bipush 12, 2) := by decide +kernel
theorem dX6_sound_65 : decode cX6_sound 65 = .ok (.aload_n 0, 1) := by decide +kernel
theorem dX6_sound_66 : decode cX6_sound 66 = .ok (.getfield 99, 3) := by decide +kernel
theorem dX6_sound_69 : decode cX6_sound 69 = .ok (.imul, 1) := by decide +kernel
theorem dX6_sound_70 : decode cX6_sound 70 = .ok (.aload_n 0, 1) := by decide +kernel
theorem dX6_sound_71 : decode cX6_sound 71 = .ok (.getfield 22, 3) := by decide +kernel
theorem dX6_sound_74 : decode cX6_sound 74 = .ok (.aload_n 0, 1) := by decide +kernel
theorem dX6_sound_75 : decode cX6_sound 75 = .ok (.getfield 99, 3) := by decide +kernel
theorem dX6_sound_78 : decode cX6_sound 78 = .ok (.iaload, 1) := by decide +kernel
theorem dX6_sound_79 : decode cX6_sound 79 = .ok (.iadd, 1) := by decide +kernel
theorem dX6_sound_80 : decode cX6_sound 80 = .ok (.iload_n 1, 1) := by decide +kernel
theorem dX6_sound_81 : decode cX6_sound 81 = .ok (.iastore, 1) := by decide +kernel
theorem dX6_sound_82 : decode cX6_sound 82 = .ok (.aload_n 0, 1) := by decide +kernel
theorem dX6_sound_83 : decode cX6_sound 83 = .ok (.getfield 28, 3) := by decide +kernel
theorem dX6_sound_86 : decode cX6_sound 86 = .ok (.bipush 12, 2) := by decide +kernel
theorem dX6_sound_88 : decode cX6_sound 88 = .ok (.aload_n 0, 1) := by decide +kernel
theorem dX6_sound_89 : decode cX6_sound 89 = .ok (.getfield 99, 3) := by decide +kernel
theorem dX6_sound_92 : decode cX6_sound 92 = .ok (.imul, 1) := by decide +kernel
theorem dX6_sound_93 : decode cX6_sound 93 = .ok (.aload_n 0, 1) := by decide +kernel
theorem dX6_sound_94 : decode cX6_sound 94 = .ok (.getfield 22, 3) := by decide +kernel
theorem dX6_sound_97 : decode cX6_sound 97 = .ok (.aload_n 0, 1) := by decide +kernel
theorem dX6_sound_98 : decode cX6_sound 98 = .ok (.getfield 99, 3) := by decide +kernel
theorem dX6_sound_101 : decode cX6_sound 101 = .ok (.iaload, 1) := by decide +kernel
theorem dX6_sound_102 : decode cX6_sound 102 = .ok (.iadd, 1) := by decide +kernel
theorem dX6_sound_103 : decode cX6_sound 103 = .ok (.iload_n 2, 1) := by decide +kernel
theorem dX6_sound_104 : decode cX6_sound 104 = .ok (.iastore, 1) := by decide +kernel
theorem dX6_sound_105 : decode cX6_sound 105 = .ok (.aload_n 0, 1) := by decide +kernel
theorem dX6_sound_106 : decode cX6_sound 106 = .ok (.getfield 22, 3) := by decide +kernel
theorem dX6_sound_109 : decode cX6_sound 109 = .ok (.aload_n 0, 1) := by decide +kernel
theorem dX6_sound_110 : decode cX6_sound 110 = .ok (.getfield 99, 3) := by decide +kernel
theorem dX6_sound_113 : decode cX6_sound 113 = .ok (.dup2, 1) := by decide +kernel
theorem dX6_sound_114 : decode cX6_sound 114 = .ok (.iaload, 1) := by decide +kernel
theorem dX6_sound_115 : decode cX6_sound 115 = .ok (.iconst 1, 1) := by decide +kernel
theorem dX6_sound_116 : decode cX6_sound 116 = .ok (.iadd, 1) := by decide +kernel
theorem dX6_sound_117 : decode cX6_sound 117 = .ok (.iastore, 1) := by decide +kernel
theorem dX6_sound_118 : decode cX6_sound 118 = .ok (.aload_n 0, 1) := by decide +kernel
theorem dX6_sound_119 : decode cX6_sound 119 = .ok (.getfield 22, 3) := by decide +kernel
theorem dX6_sound_122 : decode cX6_sound 122 = .ok (.aload_n 0, 1) := by decide +kernel
theorem dX6_sound_123 : decode cX6_sound 123 = .ok (.getfield 99, 3) := by decide +kernel
theorem dX6_sound_126 : decode cX6_sound 126 = .ok (.iaload, 1) := by decide +kernel
theorem dX6_sound_127 : decode cX6_sound 127 = .ok (.ireturn, 1) := by decide +kernel
theorem dX6_voice_0 : decode cX6_voice 0 = .ok (.aload_n 0, 1) := by decide +kernel
theorem dX6_voice_1 : decode cX6_voice 1 = .ok (.aload_n 0, 1) := by decide +kernel
theorem dX6_voice_2 : decode cX6_voice 2 = .ok (.getfield 22, 3) := by decide +kernel
theorem dX6_voice_5 : decode cX6_voice 5 = .ok (.aload_n 0, 1) := by decide +kernel
theorem dX6_voice_6 : decode cX6_voice 6 = .ok (.getfield 99, 3) := by decide +kernel
theorem dX6_voice_9 : decode cX6_voice 9 = .ok (.iaload, 1) := by decide +kernel
theorem dX6_voice_10 : decode cX6_voice 10 = .ok (.ifCond .eq 12, 3) := by decide +kernel
theorem dX6_voice_13 : decode cX6_voice 13 = .ok (.aload_n 0, 1) := by decide +kernel

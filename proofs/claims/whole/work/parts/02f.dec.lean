theorem dL_cutOut_1 : decode cL_cutOut 1 = .ok (.iconst 0, 1) := by decide +kernel
theorem dL_cutOut_2 : decode cL_cutOut 2 = .ok (.aload_n 0, 1) := by decide +kernel
theorem dL_cutOut_3 : decode cL_cutOut 3 = .ok (.iload_n 1, 1) := by decide +kernel
theorem dL_cutOut_4 : decode cL_cutOut 4 = .ok (.invokevirtual 72, 3) := by decide +kernel
theorem dL_cutOut_7 : decode cL_cutOut 7 = .ok (.i2l, 1) := by decide +kernel
theorem dL_cutOut_8 : decode cL_cutOut 8 = .ok (.lastore, 1) := by decide +kernel
theorem dL_cutOut_9 : decode cL_cutOut 9 = .ok (.goto 9, 3) := by decide +kernel
theorem dL_cutOut_12 : decode cL_cutOut 12 = .ok (.astore_n 3, 1) := by decide +kernel
theorem dL_cutOut_13 : decode cL_cutOut 13 = .ok (.iconst 1, 1) := by decide +kernel
theorem dL_cutOut_14 : decode cL_cutOut 14 = .ok (.ireturn, 1) := by decide +kernel
theorem dL_cutOut_15 : decode cL_cutOut 15 = .ok (.astore_n 3, 1) := by decide +kernel
theorem dL_cutOut_16 : decode cL_cutOut 16 = .ok (.iconst 2, 1) := by decide +kernel
theorem dL_cutOut_17 : decode cL_cutOut 17 = .ok (.ireturn, 1) := by decide +kernel
theorem dL_cutOut_18 : decode cL_cutOut 18 = .ok (.iconst 0, 1) := by decide +kernel
theorem dL_cutOut_19 : decode cL_cutOut 19 = .ok (.ireturn, 1) := by decide +kernel
theorem dL_degree_0 : decode cL_degree 0 = .ok (.aload 4, 2) := by decide +kernel
theorem dL_degree_2 : decode cL_degree 2 = .ok (.iconst 0, 1) := by decide +kernel
theorem dL_degree_3 : decode cL_degree 3 = .ok (.aload_n 0, 1) := by decide +kernel
theorem dL_degree_4 : decode cL_degree 4 = .ok (.iload_n 1, 1) := by decide +kernel
theorem dL_degree_5 : decode cL_degree 5 = .ok (.iload_n 2, 1) := by decide +kernel
theorem dL_degree_6 : decode cL_degree 6 = .ok (.iload_n 3, 1) := by decide +kernel
theorem dL_degree_7 : decode cL_degree 7 = .ok (.invokevirtual 75, 3) := by decide +kernel
theorem dL_degree_10 : decode cL_degree 10 = .ok (.i2l, 1) := by decide +kernel
theorem dL_degree_11 : decode cL_degree 11 = .ok (.lastore, 1) := by decide +kernel
theorem dL_degree_12 : decode cL_degree 12 = .ok (.goto 7, 3) := by decide +kernel
theorem dL_degree_15 : decode cL_degree 15 = .ok (.astore 5, 2) := by decide +kernel
theorem dL_degree_17 : decode cL_degree 17 = .ok (.iconst 1, 1) := by decide +kernel
theorem dL_degree_18 : decode cL_degree 18 = .ok (.ireturn, 1) := by decide +kernel
theorem dL_degree_19 : decode cL_degree 19 = .ok (.iconst 0, 1) := by decide +kernel
theorem dL_degree_20 : decode cL_degree 20 = .ok (.ireturn, 1) := by decide +kernel
theorem dL_mouth_0 : decode cL_mouth 0 = .ok (.aload_n 3, 1) := by decide +kernel
theorem dL_mouth_1 : decode cL_mouth 1 = .ok (.iconst 0, 1) := by decide +kernel
theorem dL_mouth_2 : decode cL_mouth 2 = .ok (.aload_n 0, 1) := by decide +kernel
theorem dL_mouth_3 : decode cL_mouth 3 = .ok (.iload_n 1, 1) := by decide +kernel
theorem dL_mouth_4 : decode cL_mouth 4 = .ok (.iload_n 2, 1) := by decide +kernel
theorem dL_mouth_5 : decode cL_mouth 5 = .ok (.invokevirtual 78, 3) := by decide +kernel
theorem dL_mouth_8 : decode cL_mouth 8 = .ok (.i2l, 1) := by decide +kernel
theorem dL_mouth_9 : decode cL_mouth 9 = .ok (.lastore, 1) := by decide +kernel
theorem dL_mouth_10 : decode cL_mouth 10 = .ok (.goto 7, 3) := by decide +kernel
theorem dL_mouth_13 : decode cL_mouth 13 = .ok (.astore 4, 2) := by decide +kernel
theorem dL_mouth_15 : decode cL_mouth 15 = .ok (.iconst 1, 1) := by decide +kernel
theorem dL_mouth_16 : decode cL_mouth 16 = .ok (.ireturn, 1) := by decide +kernel
theorem dL_mouth_17 : decode cL_mouth 17 = .ok (.iconst 0, 1) := by decide +kernel
theorem dL_mouth_18 : decode cL_mouth 18 = .ok (.ireturn, 1) := by decide +kernel
theorem dL_place_0 : decode cL_place 0 = .ok (.aload_n 3, 1) := by decide +kernel
theorem dL_place_1 : decode cL_place 1 = .ok (.iconst 0, 1) := by decide +kernel
theorem dL_place_2 : decode cL_place 2 = .ok (.aload_n 0, 1) := by decide +kernel
theorem dL_place_3 : decode cL_place 3 = .ok (.iload_n 1, 1) := by decide +kernel
theorem dL_place_4 : decode cL_place 4 = .ok (.iload_n 2, 1) := by decide +kernel
theorem dL_place_5 : decode cL_place 5 = .ok (.invokevirtual 81, 3) := by decide +kernel
theorem dL_place_8 : decode cL_place 8 = .ok (.i2l, 1) := by decide +kernel
theorem dL_place_9 : decode cL_place 9 = .ok (.lastore, 1) := by decide +kernel
theorem dL_place_10 : decode cL_place 10 = .ok (.goto 7, 3) := by decide +kernel
theorem dL_place_13 : decode cL_place 13 = .ok (.astore 4, 2) := by decide +kernel
theorem dL_place_15 : decode cL_place 15 = .ok (.iconst 1, 1) := by decide +kernel
theorem dL_place_16 : decode cL_place 16 = .ok (.ireturn, 1) := by decide +kernel
theorem dL_place_17 : decode cL_place 17 = .ok (.iconst 0, 1) := by decide +kernel
theorem dL_place_18 : decode cL_place 18 = .ok (.ireturn, 1) := by decide +kernel
theorem dL_wants_0 : decode cL_wants 0 = .ok (.aload_n 3, 1) := by decide +kernel
theorem dL_wants_1 : decode cL_wants 1 = .ok (.iconst 0, 1) := by decide +kernel
theorem dL_wants_2 : decode cL_wants 2 = .ok (.aload_n 0, 1) := by decide +kernel
theorem dL_wants_3 : decode cL_wants 3 = .ok (.iload_n 1, 1) := by decide +kernel
theorem dL_wants_4 : decode cL_wants 4 = .ok (.iload_n 2, 1) := by decide +kernel
theorem dL_wants_5 : decode cL_wants 5 = .ok (.invokevirtual 84, 3) := by decide +kernel
theorem dL_wants_8 : decode cL_wants 8 = .ok (.i2l, 1) := by decide +kernel
theorem dL_wants_9 : decode cL_wants 9 = .ok (.lastore, 1) := by decide +kernel
theorem dL_wants_10 : decode cL_wants 10 = .ok (.goto 11, 3) := by decide +kernel
theorem dL_wants_13 : decode cL_wants 13 = .ok (.astore 4, 2) := by decide +kernel
theorem dL_wants_15 : decode cL_wants 15 = .ok (.iconst 1, 1) := by decide +kernel
theorem dL_wants_16 : decode cL_wants 16 = .ok (.ireturn, 1) := by decide +kernel
theorem dL_wants_17 : decode cL_wants 17 = .ok (.astore 4, 2) := by decide +kernel
theorem dL_wants_19 : decode cL_wants 19 = .ok (.iconst 2, 1) := by decide +kernel
theorem dL_wants_20 : decode cL_wants 20 = .ok (.ireturn, 1) := by decide +kernel
theorem dL_wants_21 : decode cL_wants 21 = .ok (.iconst 0, 1) := by decide +kernel
theorem dL_wants_22 : decode cL_wants 22 = .ok (.ireturn, 1) := by decide +kernel
theorem dL_bars_0 : decode cL_bars 0 = .ok (.aload_n 2, 1) := by decide +kernel
theorem dL_bars_1 : decode cL_bars 1 = .ok (.iconst 0, 1) := by decide +kernel
theorem dL_bars_2 : decode cL_bars 2 = .ok (.aload_n 0, 1) := by decide +kernel
theorem dL_bars_3 : decode cL_bars 3 = .ok (.iload_n 1, 1) := by decide +kernel
theorem dL_bars_4 : decode cL_bars 4 = .ok (.invokevirtual 87, 3) := by decide +kernel
theorem dL_bars_7 : decode cL_bars 7 = .ok (.i2l, 1) := by decide +kernel
theorem dL_bars_8 : decode cL_bars 8 = .ok (.lastore, 1) := by decide +kernel
theorem dL_bars_9 : decode cL_bars 9 = .ok (.goto 6, 3) := by decide +kernel
theorem dL_bars_12 : decode cL_bars 12 = .ok (.astore_n 3, 1) := by decide +kernel
theorem dL_bars_13 : decode cL_bars 13 = .ok (.iconst 1, 1) := by decide +kernel
theorem dL_bars_14 : decode cL_bars 14 = .ok (.ireturn, 1) := by decide +kernel
theorem dL_bars_15 : decode cL_bars 15 = .ok (.iconst 0, 1) := by decide +kernel
theorem dL_bars_16 : decode cL_bars 16 = .ok (.ireturn, 1) := by decide +kernel
theorem dL_wears_0 : decode cL_wears 0 = .ok (.aload_n 3, 1) := by decide +kernel
theorem dL_wears_1 : decode cL_wears 1 = .ok (.iconst 0, 1) := by decide +kernel
theorem dL_wears_2 : decode cL_wears 2 = .ok (.aload_n 0, 1) := by decide +kernel
theorem dL_wears_3 : decode cL_wears 3 = .ok (.iload_n 1, 1) := by decide +kernel
theorem dL_wears_4 : decode cL_wears 4 = .ok (.iload_n 2, 1) := by decide +kernel
theorem dL_wears_5 : decode cL_wears 5 = .ok (.invokevirtual 90, 3) := by decide +kernel
theorem dL_wears_8 : decode cL_wears 8 = .ok (.i2l, 1) := by decide +kernel
theorem dL_wears_9 : decode cL_wears 9 = .ok (.lastore, 1) := by decide +kernel
theorem dL_wears_10 : decode cL_wears 10 = .ok (.goto 7, 3) := by decide +kernel
theorem dL_wears_13 : decode cL_wears 13 = .ok (.astore 4, 2) := by decide +kernel
theorem dL_wears_15 : decode cL_wears 15 = .ok (.iconst 1, 1) := by decide +kernel
theorem dL_wears_16 : decode cL_wears 16 = .ok (.ireturn, 1) := by decide +kernel
theorem dL_wears_17 : decode cL_wears 17 = .ok (.iconst 0, 1) := by decide +kernel
theorem dL_wears_18 : decode cL_wears 18 = .ok (.ireturn, 1) := by decide +kernel
theorem dL_struck_0 : decode cL_struck 0 = .ok (.aload_n 2, 1) := by decide +kernel
theorem dL_struck_1 : decode cL_struck 1 = .ok (.iconst 0, 1) := by decide +kernel
theorem dL_struck_2 : decode cL_struck 2 = .ok (.aload_n 0, 1) := by decide +kernel
theorem dL_struck_3 : decode cL_struck 3 = .ok (.iload_n 1, 1) := by decide +kernel
theorem dL_struck_4 : decode cL_struck 4 = .ok (.invokevirtual 93, 3) := by decide +kernel
theorem dL_struck_7 : decode cL_struck 7 = .ok (.i2l, 1) := by decide +kernel
theorem dL_struck_8 : decode cL_struck 8 = .ok (.lastore, 1) := by decide +kernel
theorem dL_struck_9 : decode cL_struck 9 = .ok (.goto 6, 3) := by decide +kernel
theorem dL_struck_12 : decode cL_struck 12 = .ok (.astore_n 3, 1) := by decide +kernel
theorem dL_struck_13 : decode cL_struck 13 = .ok (.iconst 1, 1) := by decide +kernel
theorem dL_struck_14 : decode cL_struck 14 = .ok (.ireturn, 1) := by decide +kernel
theorem dL_struck_15 : decode cL_struck 15 = .ok (.iconst 0, 1) := by decide +kernel
theorem dL_struck_16 : decode cL_struck 16 = .ok (.ireturn, 1) := by decide +kernel
theorem dL_pose_0 : decode cL_pose 0 = .ok (.aload 4, 2) := by decide +kernel
theorem dL_pose_2 : decode cL_pose 2 = .ok (.iconst 0, 1) := by decide +kernel
theorem dL_pose_3 : decode cL_pose 3 = .ok (.aload_n 0, 1) := by decide +kernel
theorem dL_pose_4 : decode cL_pose 4 = .ok (.iload_n 1, 1) := by decide +kernel
theorem dL_pose_5 : decode cL_pose 5 = .ok (.iload_n 2, 1) := by decide +kernel
theorem dL_pose_6 : decode cL_pose 6 = .ok (.iload_n 3, 1) := by decide +kernel
theorem dL_pose_7 : decode cL_pose 7 = .ok (.invokevirtual 96, 3) := by decide +kernel
theorem dL_pose_10 : decode cL_pose 10 = .ok (.i2l, 1) := by decide +kernel
theorem dL_pose_11 : decode cL_pose 11 = .ok (.lastore, 1) := by decide +kernel
theorem dL_pose_12 : decode cL_pose 12 = .ok (.goto 7, 3) := by decide +kernel
theorem dL_pose_15 : decode cL_pose 15 = .ok (.astore 5, 2) := by decide +kernel
theorem dL_pose_17 : decode cL_pose 17 = .ok (.iconst 1, 1) := by decide +kernel
theorem dL_pose_18 : decode cL_pose 18 = .ok (.ireturn, 1) := by decide +kernel
theorem dL_pose_19 : decode cL_pose 19 = .ok (.iconst 0, 1) := by decide +kernel
theorem dL_pose_20 : decode cL_pose 20 = .ok (.ireturn, 1) := by decide +kernel
theorem dL_ofFrame_0 : decode cL_ofFrame 0 = .ok (.aload 4, 2) := by decide +kernel
theorem dL_ofFrame_2 : decode cL_ofFrame 2 = .ok (.iconst 0, 1) := by decide +kernel
theorem dL_ofFrame_3 : decode cL_ofFrame 3 = .ok (.aload_n 0, 1) := by decide +kernel
theorem dL_ofFrame_4 : decode cL_ofFrame 4 = .ok (.iload_n 1, 1) := by decide +kernel
theorem dL_ofFrame_5 : decode cL_ofFrame 5 = .ok (.iload_n 2, 1) := by decide +kernel
theorem dL_ofFrame_6 : decode cL_ofFrame 6 = .ok (.iload_n 3, 1) := by decide +kernel
theorem dL_ofFrame_7 : decode cL_ofFrame 7 = .ok (.invokevirtual 99, 3) := by decide +kernel
theorem dL_ofFrame_10 : decode cL_ofFrame 10 = .ok (.i2l, 1) := by decide +kernel
theorem dL_ofFrame_11 : decode cL_ofFrame 11 = .ok (.lastore, 1) := by decide +kernel
theorem dL_ofFrame_12 : decode cL_ofFrame 12 = .ok (.goto 11, 3) := by decide +kernel
theorem dL_ofFrame_15 : decode cL_ofFrame 15 = .ok (.astore 5, 2) := by decide +kernel
theorem dL_ofFrame_17 : decode cL_ofFrame 17 = .ok (.iconst 1, 1) := by decide +kernel
theorem dL_ofFrame_18 : decode cL_ofFrame 18 = .ok (.ireturn, 1) := by decide +kernel
theorem dL_ofFrame_19 : decode cL_ofFrame 19 = .ok (.astore 5, 2) := by decide +kernel
theorem dL_ofFrame_21 : decode cL_ofFrame 21 = .ok (.iconst 2, 1) := by decide +kernel
theorem dL_ofFrame_22 : decode cL_ofFrame 22 = .ok (.ireturn, 1) := by decide +kernel
theorem dL_ofFrame_23 : decode cL_ofFrame 23 = .ok (.iconst 0, 1) := by decide +kernel
theorem dL_ofFrame_24 : decode cL_ofFrame 24 = .ok (.ireturn, 1) := by decide +kernel
theorem dL_faults_0 : decode cL_faults 0 = .ok (.aload_n 3, 1) := by decide +kernel
theorem dL_faults_1 : decode cL_faults 1 = .ok (.iconst 0, 1) := by decide +kernel
theorem dL_faults_2 : decode cL_faults 2 = .ok (.aload_n 0, 1) := by decide +kernel
theorem dL_faults_3 : decode cL_faults 3 = .ok (.iload_n 1, 1) := by decide +kernel
theorem dL_faults_4 : decode cL_faults 4 = .ok (.iload_n 2, 1) := by decide +kernel
theorem dL_faults_5 : decode cL_faults 5 = .ok (.invokevirtual 102, 3) := by decide +kernel
theorem dL_faults_8 : decode cL_faults 8 = .ok (.i2l, 1) := by decide +kernel
theorem dL_faults_9 : decode cL_faults 9 = .ok (.lastore, 1) := by decide +kernel
theorem dL_faults_10 : decode cL_faults 10 = .ok (.goto 7, 3) := by decide +kernel
theorem dL_faults_13 : decode cL_faults 13 = .ok (.astore 4, 2) := by decide +kernel
theorem dL_faults_15 : decode cL_faults 15 = .ok (.iconst 1, 1) := by decide +kernel
theorem dL_faults_16 : decode cL_faults 16 = .ok (.ireturn, 1) := by decide +kernel
theorem dL_faults_17 : decode cL_faults 17 = .ok (.iconst 0, 1) := by decide +kernel
theorem dL_faults_18 : decode cL_faults 18 = .ok (.ireturn, 1) := by decide +kernel
theorem dL_ofJoint_0 : decode cL_ofJoint 0 = .ok (.aload 4, 2) := by decide +kernel
theorem dL_ofJoint_2 : decode cL_ofJoint 2 = .ok (.iconst 0, 1) := by decide +kernel
theorem dL_ofJoint_3 : decode cL_ofJoint 3 = .ok (.aload_n 0, 1) := by decide +kernel
theorem dL_ofJoint_4 : decode cL_ofJoint 4 = .ok (.iload_n 1, 1) := by decide +kernel
theorem dL_ofJoint_5 : decode cL_ofJoint 5 = .ok (.iload_n 2, 1) := by decide +kernel
theorem dL_ofJoint_6 : decode cL_ofJoint 6 = .ok (.iload_n 3, 1) := by decide +kernel
theorem dL_ofJoint_7 : decode cL_ofJoint 7 = .ok (.invokevirtual 105, 3) := by decide +kernel
theorem dL_ofJoint_10 : decode cL_ofJoint 10 = .ok (.i2l, 1) := by decide +kernel
theorem dL_ofJoint_11 : decode cL_ofJoint 11 = .ok (.lastore, 1) := by decide +kernel
theorem dL_ofJoint_12 : decode cL_ofJoint 12 = .ok (.goto 11, 3) := by decide +kernel
theorem dL_ofJoint_15 : decode cL_ofJoint 15 = .ok (.astore 5, 2) := by decide +kernel
theorem dL_ofJoint_17 : decode cL_ofJoint 17 = .ok (.iconst 1, 1) := by decide +kernel
theorem dL_ofJoint_18 : decode cL_ofJoint 18 = .ok (.ireturn, 1) := by decide +kernel
theorem dL_ofJoint_19 : decode cL_ofJoint 19 = .ok (.astore 5, 2) := by decide +kernel
theorem dL_ofJoint_21 : decode cL_ofJoint 21 = .ok (.iconst 2, 1) := by decide +kernel
theorem dL_ofJoint_22 : decode cL_ofJoint 22 = .ok (.ireturn, 1) := by decide +kernel
theorem dL_ofJoint_23 : decode cL_ofJoint 23 = .ok (.iconst 0, 1) := by decide +kernel
theorem dL_ofJoint_24 : decode cL_ofJoint 24 = .ok (.ireturn, 1) := by decide +kernel
theorem dL_left_0 : decode cL_left 0 = .ok (.aload_n 3, 1) := by decide +kernel
theorem dL_left_1 : decode cL_left 1 = .ok (.iconst 0, 1) := by decide +kernel
theorem dL_left_2 : decode cL_left 2 = .ok (.aload_n 0, 1) := by decide +kernel
theorem dL_left_3 : decode cL_left 3 = .ok (.iload_n 1, 1) := by decide +kernel
theorem dL_left_4 : decode cL_left 4 = .ok (.iload_n 2, 1) := by decide +kernel
theorem dL_left_5 : decode cL_left 5 = .ok (.invokevirtual 108, 3) := by decide +kernel
theorem dL_left_8 : decode cL_left 8 = .ok (.i2l, 1) := by decide +kernel
theorem dL_left_9 : decode cL_left 9 = .ok (.lastore, 1) := by decide +kernel
theorem dL_left_10 : decode cL_left 10 = .ok (.goto 11, 3) := by decide +kernel
theorem dL_left_13 : decode cL_left 13 = .ok (.astore 4, 2) := by decide +kernel
theorem dL_left_15 : decode cL_left 15 = .ok (.iconst 1, 1) := by decide +kernel
theorem dL_left_16 : decode cL_left 16 = .ok (.ireturn, 1) := by decide +kernel
theorem dL_left_17 : decode cL_left 17 = .ok (.astore 4, 2) := by decide +kernel
theorem dL_left_19 : decode cL_left 19 = .ok (.iconst 2, 1) := by decide +kernel
theorem dL_left_20 : decode cL_left 20 = .ok (.ireturn, 1) := by decide +kernel
theorem dL_left_21 : decode cL_left 21 = .ok (.iconst 0, 1) := by decide +kernel
theorem dL_left_22 : decode cL_left 22 = .ok (.ireturn, 1) := by decide +kernel
theorem dL_film_0 : decode cL_film 0 = .ok (.aload_n 2, 1) := by decide +kernel
theorem dL_film_1 : decode cL_film 1 = .ok (.iconst 0, 1) := by decide +kernel
theorem dL_film_2 : decode cL_film 2 = .ok (.aload_n 0, 1) := by decide +kernel
theorem dL_film_3 : decode cL_film 3 = .ok (.iload_n 1, 1) := by decide +kernel
theorem dL_film_4 : decode cL_film 4 = .ok (.invokevirtual 111, 3) := by decide +kernel
theorem dL_film_7 : decode cL_film 7 = .ok (.i2l, 1) := by decide +kernel
theorem dL_film_8 : decode cL_film 8 = .ok (.lastore, 1) := by decide +kernel
theorem dL_film_9 : decode cL_film 9 = .ok (.goto 6, 3) := by decide +kernel
theorem dL_film_12 : decode cL_film 12 = .ok (.astore_n 3, 1) := by decide +kernel
theorem dL_film_13 : decode cL_film 13 = .ok (.iconst 1, 1) := by decide +kernel
theorem dL_film_14 : decode cL_film 14 = .ok (.ireturn, 1) := by decide +kernel
theorem dL_film_15 : decode cL_film 15 = .ok (.iconst 0, 1) := by decide +kernel
theorem dL_film_16 : decode cL_film 16 = .ok (.ireturn, 1) := by decide +kernel

theorem dX11_breaks_0 : decode cX11_breaks 0 = .ok (.aload_n 0, 1) := by decide +kernel
theorem dX11_breaks_1 : decode cX11_breaks 1 = .ok (.getfield 62, 3) := by decide +kernel
theorem dX11_breaks_4 : decode cX11_breaks 4 = .ok (.iload_n 1, 1) := by decide +kernel
theorem dX11_breaks_5 : decode cX11_breaks 5 = .ok (.invokevirtual 256, 3) := by decide +kernel
theorem dX11_breaks_8 : decode cX11_breaks 8 = .ok (.ifCond .ne 6, 3) := by decide +kernel
theorem dX11_breaks_11 : decode cX11_breaks 11 = .ok (.bipush (-2), 2) := by decide +kernel
theorem dX11_breaks_13 : decode cX11_breaks 13 = .ok (.ireturn, 1) := by decide +kernel
theorem dX11_brings_0 : decode cX11_brings 0 = .ok (.aload_n 0, 1) := by decide +kernel
theorem dX11_brings_1 : decode cX11_brings 1 = .ok (.getfield 62, 3) := by decide +kernel
theorem dX11_brings_4 : decode cX11_brings 4 = .ok (.invokevirtual 105, 3) := by decide +kernel
theorem dX11_brings_7 : decode cX11_brings 7 = .ok (.ifCond .eq 11, 3) := by decide +kernel
theorem dX11_brings_18 : decode cX11_brings 18 = .ok (.bipush (-2), 2) := by decide +kernel
theorem dX11_brings_20 : decode cX11_brings 20 = .ok (.ireturn, 1) := by decide +kernel
theorem dX11_clash_0 : decode cX11_clash 0 = .ok (.aload_n 0, 1) := by decide +kernel
theorem dX11_clash_1 : decode cX11_clash 1 = .ok (.iload_n 1, 1) := by decide +kernel
theorem dX11_clash_2 : decode cX11_clash 2 = .ok (.invokevirtual 330, 3) := by decide +kernel
theorem dX11_clash_5 : decode cX11_clash 5 = .ok (.istore_n 2, 1) := by decide +kernel
theorem dX11_clash_6 : decode cX11_clash 6 = .ok (.iload_n 2, 1) := by decide +kernel
theorem dX11_clash_7 : decode cX11_clash 7 = .ok (.ifCond .eq 7, 3) := by decide +kernel
theorem dX11_clash_10 : decode cX11_clash 10 = .ok (.iload_n 2, 1) := by decide +kernel
theorem dX11_clash_11 : decode cX11_clash 11 = .ok (.goto 17, 3) := by decide +kernel
theorem dX11_clash_28 : decode cX11_clash 28 = .ok (.ireturn, 1) := by decide +kernel
theorem dX11_clicks_0 : decode cX11_clicks 0 = .ok (.aload_n 0, 1) := by decide +kernel
theorem dX11_clicks_1 : decode cX11_clicks 1 = .ok (.getfield 62, 3) := by decide +kernel
theorem dX11_clicks_4 : decode cX11_clicks 4 = .ok (.iload_n 1, 1) := by decide +kernel
theorem dX11_clicks_5 : decode cX11_clicks 5 = .ok (.invokevirtual 221, 3) := by decide +kernel
theorem dX11_clicks_8 : decode cX11_clicks 8 = .ok (.ifCond .ne 6, 3) := by decide +kernel
theorem dX11_clicks_11 : decode cX11_clicks 11 = .ok (.bipush (-2), 2) := by decide +kernel
theorem dX11_clicks_13 : decode cX11_clicks 13 = .ok (.ireturn, 1) := by decide +kernel
theorem dX11_covers_0 : decode cX11_covers 0 = .ok (.aload_n 0, 1) := by decide +kernel
theorem dX11_covers_1 : decode cX11_covers 1 = .ok (.getfield 62, 3) := by decide +kernel
theorem dX11_covers_4 : decode cX11_covers 4 = .ok (.iload_n 1, 1) := by decide +kernel
theorem dX11_covers_5 : decode cX11_covers 5 = .ok (.invokevirtual 131, 3) := by decide +kernel
theorem dX11_covers_8 : decode cX11_covers 8 = .ok (.ifCond .eq 13, 3) := by decide +kernel
theorem dX11_covers_21 : decode cX11_covers 21 = .ok (.bipush (-2), 2) := by decide +kernel
theorem dX11_covers_23 : decode cX11_covers 23 = .ok (.ireturn, 1) := by decide +kernel
theorem dX11_cut_0 : decode cX11_cut 0 = .ok (.aload_n 0, 1) := by decide +kernel
theorem dX11_cut_1 : decode cX11_cut 1 = .ok (.getfield 62, 3) := by decide +kernel
theorem dX11_cut_4 : decode cX11_cut 4 = .ok (.iload_n 3, 1) := by decide +kernel
theorem dX11_cut_5 : decode cX11_cut 5 = .ok (.invokevirtual 135, 3) := by decide +kernel
theorem dX11_cut_8 : decode cX11_cut 8 = .ok (.ifCond .eq 11, 3) := by decide +kernel
theorem dX11_cut_19 : decode cX11_cut 19 = .ok (.bipush (-2), 2) := by decide +kernel
theorem dX11_cut_21 : decode cX11_cut 21 = .ok (.ireturn, 1) := by decide +kernel
theorem dX11_differs_0 : decode cX11_differs 0 = .ok (.aload_n 0, 1) := by decide +kernel
theorem dX11_differs_1 : decode cX11_differs 1 = .ok (.getfield 62, 3) := by decide +kernel
theorem dX11_differs_4 : decode cX11_differs 4 = .ok (.iload_n 1, 1) := by decide +kernel
theorem dX11_differs_5 : decode cX11_differs 5 = .ok (.invokevirtual 146, 3) := by decide +kernel
theorem dX11_differs_8 : decode cX11_differs 8 = .ok (.ifCond .ne 6, 3) := by decide +kernel
theorem dX11_differs_11 : decode cX11_differs 11 = .ok (.bipush (-2), 2) := by decide +kernel
theorem dX11_differs_13 : decode cX11_differs 13 = .ok (.ireturn, 1) := by decide +kernel
theorem dX11_faults_0 : decode cX11_faults 0 = .ok (.aload_n 0, 1) := by decide +kernel
theorem dX11_faults_1 : decode cX11_faults 1 = .ok (.iload_n 1, 1) := by decide +kernel
theorem dX11_faults_2 : decode cX11_faults 2 = .ok (.iload_n 2, 1) := by decide +kernel
theorem dX11_faults_3 : decode cX11_faults 3 = .ok (.iload_n 3, 1) := by decide +kernel
theorem dX11_faults_4 : decode cX11_faults 4 = .ok (.invokevirtual 350, 3) := by decide +kernel
theorem dX11_faults_7 : decode cX11_faults 7 = .ok (.istore 4, 2) := by decide +kernel
theorem dX11_faults_9 : decode cX11_faults 9 = .ok (.iload 4, 2) := by decide +kernel
theorem dX11_faults_11 : decode cX11_faults 11 = .ok (.ifCond .eq 8, 3) := by decide +kernel
theorem dX11_faults_14 : decode cX11_faults 14 = .ok (.iload 4, 2) := by decide +kernel
theorem dX11_faults_16 : decode cX11_faults 16 = .ok (.goto 10, 3) := by decide +kernel
theorem dX11_faults_26 : decode cX11_faults 26 = .ok (.ireturn, 1) := by decide +kernel
theorem dX11_fewest_0 : decode cX11_fewest 0 = .ok (.aload_n 0, 1) := by decide +kernel
theorem dX11_fewest_1 : decode cX11_fewest 1 = .ok (.iload_n 1, 1) := by decide +kernel
theorem dX11_fewest_2 : decode cX11_fewest 2 = .ok (.invokevirtual 330, 3) := by decide +kernel
theorem dX11_fewest_5 : decode cX11_fewest 5 = .ok (.istore_n 2, 1) := by decide +kernel
theorem dX11_fewest_6 : decode cX11_fewest 6 = .ok (.iload_n 2, 1) := by decide +kernel
theorem dX11_fewest_7 : decode cX11_fewest 7 = .ok (.ifCond .eq 7, 3) := by decide +kernel
theorem dX11_fewest_10 : decode cX11_fewest 10 = .ok (.iload_n 2, 1) := by decide +kernel
theorem dX11_fewest_11 : decode cX11_fewest 11 = .ok (.goto 17, 3) := by decide +kernel
theorem dX11_fewest_28 : decode cX11_fewest 28 = .ok (.ireturn, 1) := by decide +kernel
theorem dX11_follower_0 : decode cX11_follower 0 = .ok (.aload_n 0, 1) := by decide +kernel
theorem dX11_follower_1 : decode cX11_follower 1 = .ok (.getfield 62, 3) := by decide +kernel
theorem dX11_follower_4 : decode cX11_follower 4 = .ok (.iload_n 1, 1) := by decide +kernel
theorem dX11_follower_5 : decode cX11_follower 5 = .ok (.invokevirtual 146, 3) := by decide +kernel
theorem dX11_follower_8 : decode cX11_follower 8 = .ok (.ifCond .ne 6, 3) := by decide +kernel
theorem dX11_follower_11 : decode cX11_follower 11 = .ok (.bipush (-2), 2) := by decide +kernel
theorem dX11_follower_13 : decode cX11_follower 13 = .ok (.ireturn, 1) := by decide +kernel
theorem dX11_guess_0 : decode cX11_guess 0 = .ok (.iload 4, 2) := by decide +kernel
theorem dX11_guess_2 : decode cX11_guess 2 = .ok (.ifCond .lt 9, 3) := by decide +kernel
theorem dX11_guess_5 : decode cX11_guess 5 = .ok (.iload 4, 2) := by decide +kernel
theorem dX11_guess_7 : decode cX11_guess 7 = .ok (.iconst 3, 1) := by decide +kernel
theorem dX11_guess_8 : decode cX11_guess 8 = .ok (.if_icmp .le 6, 3) := by decide +kernel
theorem dX11_guess_11 : decode cX11_guess 11 = .ok (.bipush (-2), 2) := by decide +kernel
theorem dX11_guess_13 : decode cX11_guess 13 = .ok (.ireturn, 1) := by decide +kernel
theorem dX11_guess_14 : decode cX11_guess 14 = .ok (.aload_n 0, 1) := by decide +kernel
theorem dX11_guess_15 : decode cX11_guess 15 = .ok (.iload_n 1, 1) := by decide +kernel
theorem dX11_guess_16 : decode cX11_guess 16 = .ok (.iload_n 2, 1) := by decide +kernel
theorem dX11_guess_17 : decode cX11_guess 17 = .ok (.iload_n 3, 1) := by decide +kernel
theorem dX11_guess_18 : decode cX11_guess 18 = .ok (.invokevirtual 350, 3) := by decide +kernel
theorem dX11_guess_21 : decode cX11_guess 21 = .ok (.istore 5, 2) := by decide +kernel
theorem dX11_guess_23 : decode cX11_guess 23 = .ok (.iload 5, 2) := by decide +kernel
theorem dX11_guess_25 : decode cX11_guess 25 = .ok (.ifCond .eq 6, 3) := by decide +kernel
theorem dX11_guess_28 : decode cX11_guess 28 = .ok (.iload 5, 2) := by decide +kernel
theorem dX11_guess_30 : decode cX11_guess 30 = .ok (.ireturn, 1) := by decide +kernel
theorem dX11_hard_0 : decode cX11_hard 0 = .ok (.aload_n 0, 1) := by decide +kernel
theorem dX11_hard_1 : decode cX11_hard 1 = .ok (.getfield 62, 3) := by decide +kernel
theorem dX11_hard_4 : decode cX11_hard 4 = .ok (.invokevirtual 105, 3) := by decide +kernel
theorem dX11_hard_7 : decode cX11_hard 7 = .ok (.ifCond .eq 13, 3) := by decide +kernel
theorem dX11_hard_20 : decode cX11_hard 20 = .ok (.bipush (-2), 2) := by decide +kernel
theorem dX11_hard_22 : decode cX11_hard 22 = .ok (.ireturn, 1) := by decide +kernel
theorem dX11_heard_0 : decode cX11_heard 0 = .ok (.aload_n 0, 1) := by decide +kernel
theorem dX11_heard_1 : decode cX11_heard 1 = .ok (.getfield 62, 3) := by decide +kernel
theorem dX11_heard_4 : decode cX11_heard 4 = .ok (.iload_n 1, 1) := by decide +kernel
theorem dX11_heard_5 : decode cX11_heard 5 = .ok (.invokevirtual 146, 3) := by decide +kernel
theorem dX11_heard_8 : decode cX11_heard 8 = .ok (.ifCond .eq 10, 3) := by decide +kernel
theorem dX11_heard_18 : decode cX11_heard 18 = .ok (.ldc2_w 344, 3) := by decide +kernel
theorem dX11_heard_21 : decode cX11_heard 21 = .ok (.lreturn, 1) := by decide +kernel
theorem dX11_isSlot_0 : decode cX11_isSlot 0 = .ok (.iload_n 0, 1) := by decide +kernel
theorem dX11_isSlot_1 : decode cX11_isSlot 1 = .ok (.ifCond .lt 12, 3) := by decide +kernel
theorem dX11_isSlot_4 : decode cX11_isSlot 4 = .ok (.iload_n 0, 1) := by decide +kernel
theorem dX11_isSlot_5 : decode cX11_isSlot 5 = .ok (.iconst 4, 1) := by decide +kernel
theorem dX11_isSlot_6 : decode cX11_isSlot 6 = .ok (.if_icmp .ge 7, 3) := by decide +kernel
theorem dX11_isSlot_9 : decode cX11_isSlot 9 = .ok (.iconst 1, 1) := by decide +kernel
theorem dX11_isSlot_10 : decode cX11_isSlot 10 = .ok (.goto 4, 3) := by decide +kernel
theorem dX11_isSlot_13 : decode cX11_isSlot 13 = .ok (.iconst 0, 1) := by decide +kernel
theorem dX11_isSlot_14 : decode cX11_isSlot 14 = .ok (.ireturn, 1) := by decide +kernel
theorem dX11_jams_0 : decode cX11_jams 0 = .ok (.aload_n 0, 1) := by decide +kernel
theorem dX11_jams_1 : decode cX11_jams 1 = .ok (.getfield 62, 3) := by decide +kernel
theorem dX11_jams_4 : decode cX11_jams 4 = .ok (.iload_n 1, 1) := by decide +kernel
theorem dX11_jams_5 : decode cX11_jams 5 = .ok (.invokevirtual 146, 3) := by decide +kernel
theorem dX11_jams_8 : decode cX11_jams 8 = .ok (.ifCond .ne 6, 3) := by decide +kernel
theorem dX11_jams_11 : decode cX11_jams 11 = .ok (.bipush (-2), 2) := by decide +kernel
theorem dX11_jams_13 : decode cX11_jams 13 = .ok (.ireturn, 1) := by decide +kernel
theorem dX11_leaves_0 : decode cX11_leaves 0 = .ok (.aload_n 0, 1) := by decide +kernel
theorem dX11_leaves_1 : decode cX11_leaves 1 = .ok (.getfield 62, 3) := by decide +kernel
theorem dX11_leaves_4 : decode cX11_leaves 4 = .ok (.iload_n 1, 1) := by decide +kernel
theorem dX11_leaves_5 : decode cX11_leaves 5 = .ok (.invokevirtual 146, 3) := by decide +kernel
theorem dX11_leaves_8 : decode cX11_leaves 8 = .ok (.ifCond .eq 12, 3) := by decide +kernel
theorem dX11_leaves_20 : decode cX11_leaves 20 = .ok (.bipush (-2), 2) := by decide +kernel
theorem dX11_leaves_22 : decode cX11_leaves 22 = .ok (.ireturn, 1) := by decide +kernel
theorem dX11_lift_0 : decode cX11_lift 0 = .ok (.aload_n 0, 1) := by decide +kernel
theorem dX11_lift_1 : decode cX11_lift 1 = .ok (.getfield 62, 3) := by decide +kernel
theorem dX11_lift_4 : decode cX11_lift 4 = .ok (.iload_n 1, 1) := by decide +kernel
theorem dX11_lift_5 : decode cX11_lift 5 = .ok (.invokevirtual 146, 3) := by decide +kernel
theorem dX11_lift_8 : decode cX11_lift 8 = .ok (.ifCond .eq 14, 3) := by decide +kernel
theorem dX11_lift_22 : decode cX11_lift 22 = .ok (.bipush (-2), 2) := by decide +kernel
theorem dX11_lift_24 : decode cX11_lift 24 = .ok (.ireturn, 1) := by decide +kernel
theorem dX11_margin_0 : decode cX11_margin 0 = .ok (.aload_n 0, 1) := by decide +kernel
theorem dX11_margin_1 : decode cX11_margin 1 = .ok (.getfield 62, 3) := by decide +kernel
theorem dX11_margin_4 : decode cX11_margin 4 = .ok (.iload_n 1, 1) := by decide +kernel
theorem dX11_margin_5 : decode cX11_margin 5 = .ok (.invokevirtual 256, 3) := by decide +kernel
theorem dX11_margin_8 : decode cX11_margin 8 = .ok (.ifCond .eq 21, 3) := by decide +kernel
theorem dX11_margin_29 : decode cX11_margin 29 = .ok (.bipush (-2), 2) := by decide +kernel
theorem dX11_margin_31 : decode cX11_margin 31 = .ok (.ireturn, 1) := by decide +kernel
theorem dX11_meet_0 : decode cX11_meet 0 = .ok (.aload_n 0, 1) := by decide +kernel
theorem dX11_meet_1 : decode cX11_meet 1 = .ok (.getfield 62, 3) := by decide +kernel
theorem dX11_meet_4 : decode cX11_meet 4 = .ok (.iload_n 1, 1) := by decide +kernel
theorem dX11_meet_5 : decode cX11_meet 5 = .ok (.invokevirtual 256, 3) := by decide +kernel
theorem dX11_meet_8 : decode cX11_meet 8 = .ok (.ifCond .eq 19, 3) := by decide +kernel
theorem dX11_meet_27 : decode cX11_meet 27 = .ok (.bipush (-2), 2) := by decide +kernel
theorem dX11_meet_29 : decode cX11_meet 29 = .ok (.ireturn, 1) := by decide +kernel
theorem dX11_motion_0 : decode cX11_motion 0 = .ok (.aload_n 0, 1) := by decide +kernel
theorem dX11_motion_1 : decode cX11_motion 1 = .ok (.getfield 62, 3) := by decide +kernel
theorem dX11_motion_4 : decode cX11_motion 4 = .ok (.invokevirtual 105, 3) := by decide +kernel
theorem dX11_motion_7 : decode cX11_motion 7 = .ok (.ifCond .ne 14, 3) := by decide +kernel
theorem dX11_motion_10 : decode cX11_motion 10 = .ok (.aload_n 0, 1) := by decide +kernel
theorem dX11_motion_11 : decode cX11_motion 11 = .ok (.getfield 10, 3) := by decide +kernel
theorem dX11_motion_14 : decode cX11_motion 14 = .ok (.iconst 0, 1) := by decide +kernel
theorem dX11_motion_15 : decode cX11_motion 15 = .ok (.putfield 77, 3) := by decide +kernel
theorem dX11_motion_18 : decode cX11_motion 18 = .ok (.bipush (-2), 2) := by decide +kernel
theorem dX11_motion_20 : decode cX11_motion 20 = .ok (.ireturn, 1) := by decide +kernel
theorem dX11_nearest_0 : decode cX11_nearest 0 = .ok (.aload_n 0, 1) := by decide +kernel
theorem dX11_nearest_1 : decode cX11_nearest 1 = .ok (.getfield 62, 3) := by decide +kernel
theorem dX11_nearest_4 : decode cX11_nearest 4 = .ok (.invokevirtual 105, 3) := by decide +kernel
theorem dX11_nearest_7 : decode cX11_nearest 7 = .ok (.ifCond .ne 6, 3) := by decide +kernel
theorem dX11_nearest_10 : decode cX11_nearest 10 = .ok (.bipush (-2), 2) := by decide +kernel
theorem dX11_nearest_12 : decode cX11_nearest 12 = .ok (.ireturn, 1) := by decide +kernel
theorem dX11_nose_0 : decode cX11_nose 0 = .ok (.aload_n 0, 1) := by decide +kernel
theorem dX11_nose_1 : decode cX11_nose 1 = .ok (.getfield 62, 3) := by decide +kernel
theorem dX11_nose_4 : decode cX11_nose 4 = .ok (.iload_n 1, 1) := by decide +kernel
theorem dX11_nose_5 : decode cX11_nose 5 = .ok (.invokevirtual 256, 3) := by decide +kernel
theorem dX11_nose_8 : decode cX11_nose 8 = .ok (.ifCond .ne 6, 3) := by decide +kernel
theorem dX11_nose_11 : decode cX11_nose 11 = .ok (.bipush (-2), 2) := by decide +kernel
theorem dX11_nose_13 : decode cX11_nose 13 = .ok (.ireturn, 1) := by decide +kernel
theorem dX11_pawl_0 : decode cX11_pawl 0 = .ok (.aload_n 0, 1) := by decide +kernel
theorem dX11_pawl_1 : decode cX11_pawl 1 = .ok (.getfield 62, 3) := by decide +kernel
theorem dX11_pawl_4 : decode cX11_pawl 4 = .ok (.iload_n 1, 1) := by decide +kernel
theorem dX11_pawl_5 : decode cX11_pawl 5 = .ok (.invokevirtual 221, 3) := by decide +kernel
theorem dX11_pawl_8 : decode cX11_pawl 8 = .ok (.ifCond .eq 18, 3) := by decide +kernel
theorem dX11_pawl_26 : decode cX11_pawl 26 = .ok (.bipush (-2), 2) := by decide +kernel
theorem dX11_pawl_28 : decode cX11_pawl 28 = .ok (.ireturn, 1) := by decide +kernel
theorem dX11_phase_0 : decode cX11_phase 0 = .ok (.aload_n 0, 1) := by decide +kernel
theorem dX11_phase_1 : decode cX11_phase 1 = .ok (.getfield 62, 3) := by decide +kernel
theorem dX11_phase_4 : decode cX11_phase 4 = .ok (.iload_n 1, 1) := by decide +kernel
theorem dX11_phase_5 : decode cX11_phase 5 = .ok (.invokevirtual 146, 3) := by decide +kernel
theorem dX11_phase_8 : decode cX11_phase 8 = .ok (.ifCond .ne 6, 3) := by decide +kernel
theorem dX11_phase_11 : decode cX11_phase 11 = .ok (.bipush (-2), 2) := by decide +kernel
theorem dX11_phase_13 : decode cX11_phase 13 = .ok (.ireturn, 1) := by decide +kernel
theorem dX11_place_0 : decode cX11_place 0 = .ok (.aload_n 0, 1) := by decide +kernel
theorem dX11_place_1 : decode cX11_place 1 = .ok (.iload_n 1, 1) := by decide +kernel
theorem dX11_place_2 : decode cX11_place 2 = .ok (.invokevirtual 330, 3) := by decide +kernel
theorem dX11_place_5 : decode cX11_place 5 = .ok (.istore_n 3, 1) := by decide +kernel
theorem dX11_place_6 : decode cX11_place 6 = .ok (.iload_n 3, 1) := by decide +kernel
theorem dX11_place_7 : decode cX11_place 7 = .ok (.ifCond .eq 5, 3) := by decide +kernel
theorem dX11_place_10 : decode cX11_place 10 = .ok (.iload_n 3, 1) := by decide +kernel
theorem dX11_place_11 : decode cX11_place 11 = .ok (.ireturn, 1) := by decide +kernel
theorem dX11_profile_0 : decode cX11_profile 0 = .ok (.aload_n 0, 1) := by decide +kernel
theorem dX11_profile_1 : decode cX11_profile 1 = .ok (.getfield 62, 3) := by decide +kernel
theorem dX11_profile_4 : decode cX11_profile 4 = .ok (.iload_n 1, 1) := by decide +kernel
theorem dX11_profile_5 : decode cX11_profile 5 = .ok (.invokevirtual 131, 3) := by decide +kernel
theorem dX11_profile_8 : decode cX11_profile 8 = .ok (.ifCond .eq 14, 3) := by decide +kernel
theorem dX11_profile_22 : decode cX11_profile 22 = .ok (.bipush (-2), 2) := by decide +kernel
theorem dX11_profile_24 : decode cX11_profile 24 = .ok (.ireturn, 1) := by decide +kernel
theorem dX11_rowAt_0 : decode cX11_rowAt 0 = .ok (.aload_n 0, 1) := by decide +kernel
theorem dX11_rowAt_1 : decode cX11_rowAt 1 = .ok (.getfield 62, 3) := by decide +kernel
theorem dX11_rowAt_4 : decode cX11_rowAt 4 = .ok (.iload_n 1, 1) := by decide +kernel
theorem dX11_rowAt_5 : decode cX11_rowAt 5 = .ok (.invokevirtual 135, 3) := by decide +kernel
theorem dX11_rowAt_8 : decode cX11_rowAt 8 = .ok (.ifCond .ne 6, 3) := by decide +kernel
theorem dX11_rowAt_11 : decode cX11_rowAt 11 = .ok (.bipush (-2), 2) := by decide +kernel
theorem dX11_rowAt_13 : decode cX11_rowAt 13 = .ok (.ireturn, 1) := by decide +kernel
theorem dX11_same_0 : decode cX11_same 0 = .ok (.aload_n 0, 1) := by decide +kernel
theorem dX11_same_1 : decode cX11_same 1 = .ok (.getfield 62, 3) := by decide +kernel
theorem dX11_same_4 : decode cX11_same 4 = .ok (.invokevirtual 105, 3) := by decide +kernel
theorem dX11_same_7 : decode cX11_same 7 = .ok (.ifCond .ne 6, 3) := by decide +kernel
theorem dX11_same_10 : decode cX11_same 10 = .ok (.bipush (-2), 2) := by decide +kernel
theorem dX11_same_12 : decode cX11_same 12 = .ok (.ireturn, 1) := by decide +kernel
theorem dX11_searchFaults_0 : decode cX11_searchFaults 0 = .ok (.aload_n 0, 1) := by decide +kernel
theorem dX11_searchFaults_1 : decode cX11_searchFaults 1 = .ok (.getfield 62, 3) := by decide +kernel
theorem dX11_searchFaults_4 : decode cX11_searchFaults 4 = .ok (.iload_n 1, 1) := by decide +kernel
theorem dX11_searchFaults_5 : decode cX11_searchFaults 5 = .ok (.invokevirtual 146, 3) := by decide +kernel
theorem dX11_searchFaults_8 : decode cX11_searchFaults 8 = .ok (.ifCond .eq 17, 3) := by decide +kernel
theorem dX11_searchFaults_25 : decode cX11_searchFaults 25 = .ok (.bipush (-2), 2) := by decide +kernel
theorem dX11_searchFaults_27 : decode cX11_searchFaults 27 = .ok (.ireturn, 1) := by decide +kernel
theorem dX11_spare_0 : decode cX11_spare 0 = .ok (.aload_n 0, 1) := by decide +kernel
theorem dX11_spare_1 : decode cX11_spare 1 = .ok (.getfield 62, 3) := by decide +kernel
theorem dX11_spare_4 : decode cX11_spare 4 = .ok (.invokevirtual 105, 3) := by decide +kernel
theorem dX11_spare_7 : decode cX11_spare 7 = .ok (.ifCond .ne 6, 3) := by decide +kernel
theorem dX11_spare_10 : decode cX11_spare 10 = .ok (.bipush (-2), 2) := by decide +kernel
theorem dX11_spare_12 : decode cX11_spare 12 = .ok (.ireturn, 1) := by decide +kernel
theorem dX11_spring_0 : decode cX11_spring 0 = .ok (.aload_n 0, 1) := by decide +kernel
theorem dX11_spring_1 : decode cX11_spring 1 = .ok (.getfield 62, 3) := by decide +kernel
theorem dX11_spring_4 : decode cX11_spring 4 = .ok (.iload_n 1, 1) := by decide +kernel
theorem dX11_spring_5 : decode cX11_spring 5 = .ok (.invokevirtual 146, 3) := by decide +kernel
theorem dX11_spring_8 : decode cX11_spring 8 = .ok (.ifCond .ne 6, 3) := by decide +kernel
theorem dX11_spring_11 : decode cX11_spring 11 = .ok (.bipush (-2), 2) := by decide +kernel
theorem dX11_spring_13 : decode cX11_spring 13 = .ok (.ireturn, 1) := by decide +kernel
theorem dX11_steady_0 : decode cX11_steady 0 = .ok (.aload_n 0, 1) := by decide +kernel
theorem dX11_steady_1 : decode cX11_steady 1 = .ok (.getfield 62, 3) := by decide +kernel
theorem dX11_steady_4 : decode cX11_steady 4 = .ok (.iload_n 1, 1) := by decide +kernel
theorem dX11_steady_5 : decode cX11_steady 5 = .ok (.invokevirtual 146, 3) := by decide +kernel
theorem dX11_steady_8 : decode cX11_steady 8 = .ok (.ifCond .eq 14, 3) := by decide +kernel
theorem dX11_steady_22 : decode cX11_steady 22 = .ok (.bipush (-2), 2) := by decide +kernel
theorem dX11_steady_24 : decode cX11_steady 24 = .ok (.ireturn, 1) := by decide +kernel
theorem dX11_steep_0 : decode cX11_steep 0 = .ok (.aload_n 0, 1) := by decide +kernel
theorem dX11_steep_1 : decode cX11_steep 1 = .ok (.getfield 62, 3) := by decide +kernel
theorem dX11_steep_4 : decode cX11_steep 4 = .ok (.iload_n 1, 1) := by decide +kernel
theorem dX11_steep_5 : decode cX11_steep 5 = .ok (.invokevirtual 131, 3) := by decide +kernel
theorem dX11_steep_8 : decode cX11_steep 8 = .ok (.ifCond .ne 6, 3) := by decide +kernel
theorem dX11_steep_11 : decode cX11_steep 11 = .ok (.bipush (-2), 2) := by decide +kernel
theorem dX11_steep_13 : decode cX11_steep 13 = .ok (.ireturn, 1) := by decide +kernel
theorem dX11_takeMotions_0 : decode cX11_takeMotions 0 = .ok (.iload_n 1, 1) := by decide +kernel
theorem dX11_takeMotions_1 : decode cX11_takeMotions 1 = .ok (.invokestatic 408, 3) := by decide +kernel
theorem dX11_takeMotions_4 : decode cX11_takeMotions 4 = .ok (.ifCond .eq 13, 3) := by decide +kernel
theorem dX11_takeMotions_7 : decode cX11_takeMotions 7 = .ok (.aload_n 0, 1) := by decide +kernel
theorem dX11_takeMotions_8 : decode cX11_takeMotions 8 = .ok (.getfield 62, 3) := by decide +kernel
theorem dX11_takeMotions_11 : decode cX11_takeMotions 11 = .ok (.invokevirtual 105, 3) := by decide +kernel
theorem dX11_takeMotions_14 : decode cX11_takeMotions 14 = .ok (.ifCond .ne 6, 3) := by decide +kernel
theorem dX11_takeMotions_17 : decode cX11_takeMotions 17 = .ok (.bipush (-2), 2) := by decide +kernel
theorem dX11_takeMotions_19 : decode cX11_takeMotions 19 = .ok (.ireturn, 1) := by decide +kernel
theorem dX11_turn_0 : decode cX11_turn 0 = .ok (.aload_n 0, 1) := by decide +kernel
theorem dX11_turn_1 : decode cX11_turn 1 = .ok (.getfield 62, 3) := by decide +kernel
theorem dX11_turn_4 : decode cX11_turn 4 = .ok (.invokevirtual 105, 3) := by decide +kernel
theorem dX11_turn_7 : decode cX11_turn 7 = .ok (.ifCond .eq 17, 3) := by decide +kernel
theorem dX11_turn_24 : decode cX11_turn 24 = .ok (.bipush (-2), 2) := by decide +kernel
theorem dX11_turn_26 : decode cX11_turn 26 = .ok (.ireturn, 1) := by decide +kernel
theorem dX11_until_0 : decode cX11_until 0 = .ok (.aload_n 0, 1) := by decide +kernel
theorem dX11_until_1 : decode cX11_until 1 = .ok (.getfield 62, 3) := by decide +kernel
theorem dX11_until_4 : decode cX11_until 4 = .ok (.iload_n 1, 1) := by decide +kernel
theorem dX11_until_5 : decode cX11_until 5 = .ok (.invokevirtual 146, 3) := by decide +kernel
theorem dX11_until_8 : decode cX11_until 8 = .ok (.ifCond .eq 21, 3) := by decide +kernel
theorem dX11_until_29 : decode cX11_until 29 = .ok (.bipush (-2), 2) := by decide +kernel
theorem dX11_until_31 : decode cX11_until 31 = .ok (.ireturn, 1) := by decide +kernel
theorem dX11_wear_0 : decode cX11_wear 0 = .ok (.aload_n 0, 1) := by decide +kernel
theorem dX11_wear_1 : decode cX11_wear 1 = .ok (.getfield 62, 3) := by decide +kernel
theorem dX11_wear_4 : decode cX11_wear 4 = .ok (.iload_n 1, 1) := by decide +kernel
theorem dX11_wear_5 : decode cX11_wear 5 = .ok (.invokevirtual 256, 3) := by decide +kernel
theorem dX11_wear_8 : decode cX11_wear 8 = .ok (.ifCond .eq 13, 3) := by decide +kernel
theorem dX11_wear_21 : decode cX11_wear 21 = .ok (.bipush (-2), 2) := by decide +kernel
theorem dX11_wear_23 : decode cX11_wear 23 = .ok (.ireturn, 1) := by decide +kernel
theorem dX11_widest_0 : decode cX11_widest 0 = .ok (.aload_n 0, 1) := by decide +kernel
theorem dX11_widest_1 : decode cX11_widest 1 = .ok (.getfield 62, 3) := by decide +kernel
theorem dX11_widest_4 : decode cX11_widest 4 = .ok (.invokevirtual 105, 3) := by decide +kernel
theorem dX11_widest_7 : decode cX11_widest 7 = .ok (.ifCond .eq 13, 3) := by decide +kernel
theorem dX11_widest_20 : decode cX11_widest 20 = .ok (.bipush (-2), 2) := by decide +kernel
theorem dX11_widest_22 : decode cX11_widest 22 = .ok (.ireturn, 1) := by decide +kernel
theorem dX11_work_0 : decode cX11_work 0 = .ok (.aload_n 0, 1) := by decide +kernel
theorem dX11_work_1 : decode cX11_work 1 = .ok (.getfield 62, 3) := by decide +kernel
theorem dX11_work_4 : decode cX11_work 4 = .ok (.invokevirtual 105, 3) := by decide +kernel
theorem dX11_work_7 : decode cX11_work 7 = .ok (.ifCond .ne 6, 3) := by decide +kernel
theorem dX11_work_10 : decode cX11_work 10 = .ok (.bipush (-2), 2) := by decide +kernel
theorem dX11_work_12 : decode cX11_work 12 = .ok (.ireturn, 1) := by decide +kernel
theorem dX11_years_0 : decode cX11_years 0 = .ok (.aload_n 0, 1) := by decide +kernel
theorem dX11_years_1 : decode cX11_years 1 = .ok (.getfield 62, 3) := by decide +kernel
theorem dX11_years_4 : decode cX11_years 4 = .ok (.invokevirtual 105, 3) := by decide +kernel
theorem dX11_years_7 : decode cX11_years 7 = .ok (.ifCond .eq 12, 3) := by decide +kernel
theorem dX11_years_19 : decode cX11_years 19 = .ok (.bipush (-2), 2) := by decide +kernel
theorem dX11_years_21 : decode cX11_years 21 = .ok (.ireturn, 1) := by decide +kernel
set_option maxHeartbeats 4000000 in
set_option maxRecDepth 100000 in
theorem c_X11_isSlot (l : Launch) (dC : Nat → ClassId) (dI : Nat → Nat → Nat) (cI cZ cB cJ cM : ClassId) (p0 : Int32) (sz : Nat) : Met l yX11_isSlot (kw yX11_isSlot cX11_isSlot 1 (some .boolean)) ({ frames := 0, cells := 0, slots := 0, locals := 0 }) (va_Pc [.int p0] (kPre dC dI [(cI, .int), (cZ, .boolean), (cB, .byte), (cJ, .long), (cM, .object RX2)] [] sz)) (va_Qi (fun (r : Int32) (_ : Unit) => Sp_slot p0 r) (fun _ t => va_P (dC, dI) vwCl [] t.heap ∧ va_D (va_A [] sz) []) (va_A [] sz)) 0 0 (va_A [] sz) := by
  refine kEnter (by decide) (Nat.le_of_ble_eq_true rfl) ?_
  intro p e s m below meth c ls hx hb hr hml hown hlocks hin hwd hsz hP hK hD hl
  subst hsz
  generalize hAe : va_A [] s.heap.size = A at hD ⊢
  have hA : ∀ q : Nat, s.heap.size ≤ q → A q := fun q h => by rw [← hAe]; exact Or.inr h
  have hS : va_S A s.heap s.heap [] := va_S.rf
  have hl : lv_has ls 1 [(0, .int p0)] := hl
  refine lv_iload_n hx hb dX11_isSlot_0 rfl (lv_at hl 0 rfl) ?_
  refine lv_if_lt (tgt := 13) hx hb dX11_isSlot_1 (by decide) (fun c1 => ?_) (fun c1 => ?_)
  · refine lv_iconst (v := 0) hx hb dX11_isSlot_13 (by decide) ?_
    have hP9 := hP.sub (ws' := []) [] rfl
    have hD9 := hD.sub (ws' := []) [] (by decide) rfl
    exact W.zret (v := 0) hx hb hr (by decide) (fun t ht hW => ⟨⟨0, (), rfl, (by first | exact Or.inl ⟨rfl, by simp only [and_true, true_and, or_true, true_or, and_false, false_and, or_false, false_or, not_true_eq_false, not_false_eq_true, ne_eq, ki_lt, ki_le, ki_eq, kz_m8, kz_m7, kz_m6, kz_m4, kz_m3, kz_m2, kz_m1, kz_0, kz_1, kz_2, kz_3, kz_4, kz_5, kz_6, kz_7, kz_8, kz_9, kz_10, kz_11, kz_20, kz_60] at c1 ⊢ <;> omega, by simp only [and_true, true_and, or_true, true_or, and_false, false_and, or_false, false_or, not_true_eq_false, not_false_eq_true, ne_eq, ki_lt, ki_le, ki_eq, kz_m8, kz_m7, kz_m6, kz_m4, kz_m3, kz_m2, kz_m1, kz_0, kz_1, kz_2, kz_3, kz_4, kz_5, kz_6, kz_7, kz_8, kz_9, kz_10, kz_11, kz_20, kz_60] at c1 ⊢ <;> omega⟩ | exact Or.inr ⟨rfl, by simp only [and_true, true_and, or_true, true_or, and_false, false_and, or_false, false_or, not_true_eq_false, not_false_eq_true, ne_eq, ki_lt, ki_le, ki_eq, kz_m8, kz_m7, kz_m6, kz_m4, kz_m3, kz_m2, kz_m1, kz_0, kz_1, kz_2, kz_3, kz_4, kz_5, kz_6, kz_7, kz_8, kz_9, kz_10, kz_11, kz_20, kz_60] at c1 ⊢ <;> omega⟩), (by rw [ht]; exact hP9), hD9⟩, hS.F ht⟩) hS.2.2 dX11_isSlot_14
  · refine lv_iload_n hx hb dX11_isSlot_4 rfl (lv_at hl 0 rfl) ?_
    refine lv_iconst (v := 4) hx hb dX11_isSlot_5 (by decide) ?_
    refine lv_icmp_ge (tgt := 13) hx hb dX11_isSlot_6 (by decide) (fun c2 => ?_) (fun c2 => ?_)
    · refine lv_iconst (v := 0) hx hb dX11_isSlot_13 (by decide) ?_
      have hP9 := hP.sub (ws' := []) [] rfl
      have hD9 := hD.sub (ws' := []) [] (by decide) rfl
      exact W.zret (v := 0) hx hb hr (by decide) (fun t ht hW => ⟨⟨0, (), rfl, (by first | exact Or.inl ⟨rfl, by simp only [and_true, true_and, or_true, true_or, and_false, false_and, or_false, false_or, not_true_eq_false, not_false_eq_true, ne_eq, ki_lt, ki_le, ki_eq, kz_m8, kz_m7, kz_m6, kz_m4, kz_m3, kz_m2, kz_m1, kz_0, kz_1, kz_2, kz_3, kz_4, kz_5, kz_6, kz_7, kz_8, kz_9, kz_10, kz_11, kz_20, kz_60] at c1 c2 ⊢ <;> omega, by simp only [and_true, true_and, or_true, true_or, and_false, false_and, or_false, false_or, not_true_eq_false, not_false_eq_true, ne_eq, ki_lt, ki_le, ki_eq, kz_m8, kz_m7, kz_m6, kz_m4, kz_m3, kz_m2, kz_m1, kz_0, kz_1, kz_2, kz_3, kz_4, kz_5, kz_6, kz_7, kz_8, kz_9, kz_10, kz_11, kz_20, kz_60] at c1 c2 ⊢ <;> omega⟩ | exact Or.inr ⟨rfl, by simp only [and_true, true_and, or_true, true_or, and_false, false_and, or_false, false_or, not_true_eq_false, not_false_eq_true, ne_eq, ki_lt, ki_le, ki_eq, kz_m8, kz_m7, kz_m6, kz_m4, kz_m3, kz_m2, kz_m1, kz_0, kz_1, kz_2, kz_3, kz_4, kz_5, kz_6, kz_7, kz_8, kz_9, kz_10, kz_11, kz_20, kz_60] at c1 c2 ⊢ <;> omega⟩), (by rw [ht]; exact hP9), hD9⟩, hS.F ht⟩) hS.2.2 dX11_isSlot_14
    · refine lv_iconst (v := 1) hx hb dX11_isSlot_9 (by decide) ?_
      refine lv_goto (tgt := 14) hx hb dX11_isSlot_10 (by decide) ?_
      have hP9 := hP.sub (ws' := []) [] rfl
      have hD9 := hD.sub (ws' := []) [] (by decide) rfl
      exact W.zret (v := 1) hx hb hr (by decide) (fun t ht hW => ⟨⟨1, (), rfl, (by first | exact Or.inl ⟨rfl, by simp only [and_true, true_and, or_true, true_or, and_false, false_and, or_false, false_or, not_true_eq_false, not_false_eq_true, ne_eq, ki_lt, ki_le, ki_eq, kz_m8, kz_m7, kz_m6, kz_m4, kz_m3, kz_m2, kz_m1, kz_0, kz_1, kz_2, kz_3, kz_4, kz_5, kz_6, kz_7, kz_8, kz_9, kz_10, kz_11, kz_20, kz_60] at c1 c2 ⊢ <;> omega, by simp only [and_true, true_and, or_true, true_or, and_false, false_and, or_false, false_or, not_true_eq_false, not_false_eq_true, ne_eq, ki_lt, ki_le, ki_eq, kz_m8, kz_m7, kz_m6, kz_m4, kz_m3, kz_m2, kz_m1, kz_0, kz_1, kz_2, kz_3, kz_4, kz_5, kz_6, kz_7, kz_8, kz_9, kz_10, kz_11, kz_20, kz_60] at c1 c2 ⊢ <;> omega⟩ | exact Or.inr ⟨rfl, by simp only [and_true, true_and, or_true, true_or, and_false, false_and, or_false, false_or, not_true_eq_false, not_false_eq_true, ne_eq, ki_lt, ki_le, ki_eq, kz_m8, kz_m7, kz_m6, kz_m4, kz_m3, kz_m2, kz_m1, kz_0, kz_1, kz_2, kz_3, kz_4, kz_5, kz_6, kz_7, kz_8, kz_9, kz_10, kz_11, kz_20, kz_60] at c1 c2 ⊢ <;> omega⟩), (by rw [ht]; exact hP9), hD9⟩, hS.F ht⟩) hS.2.2 dX11_isSlot_14
set_option maxHeartbeats 4000000 in
set_option maxRecDepth 100000 in
theorem c_X11_takeMotions (l : Launch) (dC : Nat → ClassId) (dI : Nat → Nat → Nat) (cI cZ cB cJ cM : ClassId) (h0 d0 d1 d2 d3 d4 d5 d6 d7 d8 d9 gn gf gp gs gr : Nat) (p0 : Int32) (sz : Nat) : Met l yX11_takeMotions (kw yX11_takeMotions cX11_takeMotions 5 (some .int)) ({ frames := 1, cells := 0, slots := 0, locals := 20 }) (va_Pc [.ref h0, .int p0] (kPre dC dI [(cI, .int), (cZ, .boolean), (cB, .byte), (cJ, .long), (cM, .object RX2)] [(h0, .inr (11, [.ref d0, .ref d1, .ref d2, .ref d3, .ref d4, .ref d5, .ref d6, .ref d7, .ref d8, .ref d9])), (d8, .inr (2, [.int 0, .int 0, .int 0, .int 0, .int 0, .int 0, .int 0, .int 0, .int 0, .ref gn, .ref gf, .ref gp, .ref gs, .ref gr]))] sz)) (va_Qi (fun (r : Int32) (_ : Unit) => r = (-2)) (fun _ t => va_P (dC, dI) vwCl [(h0, .inr (11, [.ref d0, .ref d1, .ref d2, .ref d3, .ref d4, .ref d5, .ref d6, .ref d7, .ref d8, .ref d9])), (d8, .inr (2, [.int 0, .int 0, .int 0, .int 0, .int 0, .int 0, .int 0, .int 0, .int 0, .ref gn, .ref gf, .ref gp, .ref gs, .ref gr]))] t.heap ∧ va_D (va_A [(h0, .inr (11, [.ref d0, .ref d1, .ref d2, .ref d3, .ref d4, .ref d5, .ref d6, .ref d7, .ref d8, .ref d9])), (d8, .inr (2, [.int 0, .int 0, .int 0, .int 0, .int 0, .int 0, .int 0, .int 0, .int 0, .ref gn, .ref gf, .ref gp, .ref gs, .ref gr]))] sz) [(h0, .inr (11, [.ref d0, .ref d1, .ref d2, .ref d3, .ref d4, .ref d5, .ref d6, .ref d7, .ref d8, .ref d9])), (d8, .inr (2, [.int 0, .int 0, .int 0, .int 0, .int 0, .int 0, .int 0, .int 0, .int 0, .ref gn, .ref gf, .ref gp, .ref gs, .ref gr]))]) (va_A [(h0, .inr (11, [.ref d0, .ref d1, .ref d2, .ref d3, .ref d4, .ref d5, .ref d6, .ref d7, .ref d8, .ref d9])), (d8, .inr (2, [.int 0, .int 0, .int 0, .int 0, .int 0, .int 0, .int 0, .int 0, .int 0, .ref gn, .ref gf, .ref gp, .ref gs, .ref gr]))] sz)) 0 0 (va_A [(h0, .inr (11, [.ref d0, .ref d1, .ref d2, .ref d3, .ref d4, .ref d5, .ref d6, .ref d7, .ref d8, .ref d9])), (d8, .inr (2, [.int 0, .int 0, .int 0, .int 0, .int 0, .int 0, .int 0, .int 0, .int 0, .ref gn, .ref gf, .ref gp, .ref gs, .ref gr]))] sz) := by
  refine kEnter (by decide) (Nat.le_of_ble_eq_true rfl) ?_
  intro p e s m below meth c ls hx hb hr hml hown hlocks hin hwd hsz hP hK hD hl
  subst hsz
  generalize hAe : va_A [(h0, .inr (11, [.ref d0, .ref d1, .ref d2, .ref d3, .ref d4, .ref d5, .ref d6, .ref d7, .ref d8, .ref d9])), (d8, .inr (2, [.int 0, .int 0, .int 0, .int 0, .int 0, .int 0, .int 0, .int 0, .int 0, .ref gn, .ref gf, .ref gp, .ref gs, .ref gr]))] s.heap.size = A at hD ⊢
  have hA : ∀ q : Nat, s.heap.size ≤ q → A q := fun q h => by rw [← hAe]; exact Or.inr h
  have hS : va_S A s.heap s.heap [] := va_S.rf
  have hl : lv_has ls 5 [(0, .ref h0), (1, .int p0)] := hl
  refine lv_iload_n hx hb dX11_takeMotions_0 rfl (lv_at hl 1 rfl) ?_
  have hPc := hP.sub (ws' := []) [] rfl
  have hDc := hD.sub (ws' := []) [] (by decide) rfl
  have hFc := va_free (wc := []) hD hS hA [] rfl
  refine va_calli (va_runS (As := [.int p0]) (rest := []) ⟨hx, hb, hml, hown, hwd⟩ (c_X11_isSlot l dC dI cI cZ cB cJ cM p0 s.heap.size) (cwS 1 hwd (gS kr27_15 kr27_16 kr1_2 kr27_17) rfl rfl rfl (by decide +kernel) ⟨Nat.le_of_ble_eq_true rfl, Nat.le_of_ble_eq_true rfl⟩) (kPreS hPc hK hDc) rfl rfl hl.1 rfl (lv_room (Nat.le_of_ble_eq_true rfl)) dX11_takeMotions_1 ⟨Nat.le_of_ble_eq_true rfl, Nat.le_of_ble_eq_true rfl⟩) hS (fun q _ h => hFc q h) hFc (fun r1 u2 t H1 locs ht9 hvm hw hB hz1 hk1 hS => ?_)
  obtain ⟨hP1, hD1⟩ := hB
  rw [ht9] at hP1
  obtain ⟨hP, hD⟩ := va_join (wr := [(h0, .inr (11, [.ref d0, .ref d1, .ref d2, .ref d3, .ref d4, .ref d5, .ref d6, .ref d7, .ref d8, .ref d9])), (d8, .inr (2, [.int 0, .int 0, .int 0, .int 0, .int 0, .int 0, .int 0, .int 0, .int 0, .ref gn, .ref gf, .ref gp, .ref gs, .ref gr]))]) (w1 := []) hP hD [] [0, 1] rfl rfl (by decide) (by decide) hk1 hFc hP1 hD1
  generalize H1 = H at hP hS ⊢
  have hP : va_P (dC, dI) vwCl [(h0, .inr (11, [.ref d0, .ref d1, .ref d2, .ref d3, .ref d4, .ref d5, .ref d6, .ref d7, .ref d8, .ref d9])), (d8, .inr (2, [.int 0, .int 0, .int 0, .int 0, .int 0, .int 0, .int 0, .int 0, .int 0, .ref gn, .ref gf, .ref gp, .ref gs, .ref gr]))] H := hP
  have hD : va_D A [(h0, .inr (11, [.ref d0, .ref d1, .ref d2, .ref d3, .ref d4, .ref d5, .ref d6, .ref d7, .ref d8, .ref d9])), (d8, .inr (2, [.int 0, .int 0, .int 0, .int 0, .int 0, .int 0, .int 0, .int 0, .int 0, .ref gn, .ref gf, .ref gp, .ref gs, .ref gr]))] := hD
  rcases hw with ⟨rfl, c3, c4⟩ | ⟨rfl, c3⟩
  · refine lv_if_eq (tgt := 17) hx hb dX11_takeMotions_4 (by decide) (fun c5 => absurd c5 (by decide)) (fun c5 => ?_)
    refine lv_aload_n hx hb dX11_takeMotions_7 rfl (lv_at hl 0 rfl) ?_
    refine va_get (D := (dC, dI)) (ci := 11) (v := .ref d8) (C := RX11) (T := TX11) (N := 10) hx hb hwd inlX11 hown hK hP 0 rfl rfl 8 (by decide) (hwd _ kr2_19) (fun _ h9 => h9) rfl dX11_takeMotions_8 ?_
    have hPc := hP.sub (ws' := [(d8, .inr (2, [.int 0, .int 0, .int 0, .int 0, .int 0, .int 0, .int 0, .int 0, .int 0, .ref gn, .ref gf, .ref gp, .ref gs, .ref gr]))]) [1] rfl
    have hDc := hD.sub (ws' := [(d8, .inr (2, [.int 0, .int 0, .int 0, .int 0, .int 0, .int 0, .int 0, .int 0, .int 0, .ref gn, .ref gf, .ref gp, .ref gs, .ref gr]))]) [1] (by decide) rfl
    have hFc := va_free (wc := [(d8, .inr (2, [.int 0, .int 0, .int 0, .int 0, .int 0, .int 0, .int 0, .int 0, .int 0, .ref gn, .ref gf, .ref gp, .ref gs, .ref gr]))]) hD hS hA [1] rfl
    refine va_calli (va_runV (As := []) (rest := []) ⟨hx, hb, hml, hown, hwd⟩ (c_X2_isTold l dC dI cI cZ cB cJ cM d8 gn gf gp gs gr H.size) (cwV 0 hwd (gV kr14_23 kr15_0 kr15_1 kr2_18 kr15_2) rfl rfl rfl (by decide +kernel) ⟨Nat.le_of_ble_eq_true rfl, Nat.le_of_ble_eq_true rfl⟩) (kPreV hPc hK hDc (ci := 2) (q0 := 0) rfl rfl) rfl rfl hl.1 rfl (lv_room (Nat.le_of_ble_eq_true rfl)) dX11_takeMotions_11 ⟨Nat.le_of_ble_eq_true rfl, Nat.le_of_ble_eq_true rfl⟩) hS (fun q _ h => hFc q h) hFc (fun r6 u7 t H1 locs ht9 hvm hw hB hz1 hk1 hS => ?_)
    obtain ⟨hP1, hD1⟩ := hB
    rw [ht9] at hP1
    obtain ⟨hP, hD⟩ := va_join (wr := [(h0, .inr (11, [.ref d0, .ref d1, .ref d2, .ref d3, .ref d4, .ref d5, .ref d6, .ref d7, .ref d8, .ref d9]))]) (w1 := [(d8, .inr (2, [.int 0, .int 0, .int 0, .int 0, .int 0, .int 0, .int 0, .int 0, .int 0, .ref gn, .ref gf, .ref gp, .ref gs, .ref gr]))]) hP hD [1] [0] rfl rfl (by decide) (by decide) hk1 hFc hP1 hD1
    generalize H1 = H at hP hS ⊢
    have hP : va_P (dC, dI) vwCl [(h0, .inr (11, [.ref d0, .ref d1, .ref d2, .ref d3, .ref d4, .ref d5, .ref d6, .ref d7, .ref d8, .ref d9])), (d8, .inr (2, [.int 0, .int 0, .int 0, .int 0, .int 0, .int 0, .int 0, .int 0, .int 0, .ref gn, .ref gf, .ref gp, .ref gs, .ref gr]))] H := hP
    have hD : va_D A [(h0, .inr (11, [.ref d0, .ref d1, .ref d2, .ref d3, .ref d4, .ref d5, .ref d6, .ref d7, .ref d8, .ref d9])), (d8, .inr (2, [.int 0, .int 0, .int 0, .int 0, .int 0, .int 0, .int 0, .int 0, .int 0, .ref gn, .ref gf, .ref gp, .ref gs, .ref gr]))] := hD
    subst hw
    refine lv_if_ne (tgt := 20) hx hb dX11_takeMotions_14 (by decide) (fun c8 => absurd c8 (by decide)) (fun c8 => ?_)
    refine lv_bipush (v := (-2)) hx hb dX11_takeMotions_17 (by decide) ?_
    have hP9 := hP.sub (ws' := [(h0, .inr (11, [.ref d0, .ref d1, .ref d2, .ref d3, .ref d4, .ref d5, .ref d6, .ref d7, .ref d8, .ref d9])), (d8, .inr (2, [.int 0, .int 0, .int 0, .int 0, .int 0, .int 0, .int 0, .int 0, .int 0, .ref gn, .ref gf, .ref gp, .ref gs, .ref gr]))]) [0, 1] rfl
    have hD9 := hD.sub (ws' := [(h0, .inr (11, [.ref d0, .ref d1, .ref d2, .ref d3, .ref d4, .ref d5, .ref d6, .ref d7, .ref d8, .ref d9])), (d8, .inr (2, [.int 0, .int 0, .int 0, .int 0, .int 0, .int 0, .int 0, .int 0, .int 0, .ref gn, .ref gf, .ref gp, .ref gs, .ref gr]))]) [0, 1] (by decide) rfl
    exact W.iret (v := (-2)) hx hb hr (fun t ht hW => ⟨⟨(-2), (), rfl, rfl, (by rw [ht]; exact hP9), hD9⟩, hS.F ht⟩) hS.2.2 dX11_takeMotions_19
  · refine lv_if_eq (tgt := 17) hx hb dX11_takeMotions_4 (by decide) (fun c9 => ?_) (fun c9 => absurd c9 (by decide))
    refine lv_bipush (v := (-2)) hx hb dX11_takeMotions_17 (by decide) ?_
    have hP9 := hP.sub (ws' := [(h0, .inr (11, [.ref d0, .ref d1, .ref d2, .ref d3, .ref d4, .ref d5, .ref d6, .ref d7, .ref d8, .ref d9])), (d8, .inr (2, [.int 0, .int 0, .int 0, .int 0, .int 0, .int 0, .int 0, .int 0, .int 0, .ref gn, .ref gf, .ref gp, .ref gs, .ref gr]))]) [0, 1] rfl
    have hD9 := hD.sub (ws' := [(h0, .inr (11, [.ref d0, .ref d1, .ref d2, .ref d3, .ref d4, .ref d5, .ref d6, .ref d7, .ref d8, .ref d9])), (d8, .inr (2, [.int 0, .int 0, .int 0, .int 0, .int 0, .int 0, .int 0, .int 0, .int 0, .ref gn, .ref gf, .ref gp, .ref gs, .ref gr]))]) [0, 1] (by decide) rfl
    exact W.iret (v := (-2)) hx hb hr (fun t ht hW => ⟨⟨(-2), (), rfl, rfl, (by rw [ht]; exact hP9), hD9⟩, hS.F ht⟩) hS.2.2 dX11_takeMotions_19
set_option maxHeartbeats 4000000 in
set_option maxRecDepth 100000 in
theorem c_X11_searchFaults (l : Launch) (dC : Nat → ClassId) (dI : Nat → Nat → Nat) (cI cZ cB cJ cM : ClassId) (h0 d0 d1 d2 d3 d4 d5 d6 d7 d8 d9 gn gf gp gs gr b0 b1 b2 b3 b4 b5 b6 b7 b8 : Nat) (p0 p1 p2 : Int32) (sz : Nat) : Met l yX11_searchFaults (kw yX11_searchFaults cX11_searchFaults 9 (some .int)) ({ frames := 1, cells := 0, slots := 0, locals := 21 }) (va_Pc [.ref h0, .int p0, .int p1, .int p2] (kPre dC dI [(cI, .int), (cZ, .boolean), (cB, .byte), (cJ, .long), (cM, .object RX2)] [(h0, .inr (11, [.ref d0, .ref d1, .ref d2, .ref d3, .ref d4, .ref d5, .ref d6, .ref d7, .ref d8, .ref d9])), (d8, .inr (2, [.int 0, .int 0, .int 0, .int 0, .int 0, .int 0, .int 0, .int 0, .int 0, .ref gn, .ref gf, .ref gp, .ref gs, .ref gr])), (gf, .inr (1, [.int 0, .ref b0, .ref b1, .ref b2, .ref b3, .ref b4, .ref b5, .ref b6, .ref b7, .ref b8]))] sz)) (va_Qi (fun (r : Int32) (_ : Unit) => r = (-2)) (fun _ t => va_P (dC, dI) vwCl [(h0, .inr (11, [.ref d0, .ref d1, .ref d2, .ref d3, .ref d4, .ref d5, .ref d6, .ref d7, .ref d8, .ref d9])), (d8, .inr (2, [.int 0, .int 0, .int 0, .int 0, .int 0, .int 0, .int 0, .int 0, .int 0, .ref gn, .ref gf, .ref gp, .ref gs, .ref gr])), (gf, .inr (1, [.int 0, .ref b0, .ref b1, .ref b2, .ref b3, .ref b4, .ref b5, .ref b6, .ref b7, .ref b8]))] t.heap ∧ va_D (va_A [(h0, .inr (11, [.ref d0, .ref d1, .ref d2, .ref d3, .ref d4, .ref d5, .ref d6, .ref d7, .ref d8, .ref d9])), (d8, .inr (2, [.int 0, .int 0, .int 0, .int 0, .int 0, .int 0, .int 0, .int 0, .int 0, .ref gn, .ref gf, .ref gp, .ref gs, .ref gr])), (gf, .inr (1, [.int 0, .ref b0, .ref b1, .ref b2, .ref b3, .ref b4, .ref b5, .ref b6, .ref b7, .ref b8]))] sz) [(h0, .inr (11, [.ref d0, .ref d1, .ref d2, .ref d3, .ref d4, .ref d5, .ref d6, .ref d7, .ref d8, .ref d9])), (d8, .inr (2, [.int 0, .int 0, .int 0, .int 0, .int 0, .int 0, .int 0, .int 0, .int 0, .ref gn, .ref gf, .ref gp, .ref gs, .ref gr])), (gf, .inr (1, [.int 0, .ref b0, .ref b1, .ref b2, .ref b3, .ref b4, .ref b5, .ref b6, .ref b7, .ref b8]))]) (va_A [(h0, .inr (11, [.ref d0, .ref d1, .ref d2, .ref d3, .ref d4, .ref d5, .ref d6, .ref d7, .ref d8, .ref d9])), (d8, .inr (2, [.int 0, .int 0, .int 0, .int 0, .int 0, .int 0, .int 0, .int 0, .int 0, .ref gn, .ref gf, .ref gp, .ref gs, .ref gr])), (gf, .inr (1, [.int 0, .ref b0, .ref b1, .ref b2, .ref b3, .ref b4, .ref b5, .ref b6, .ref b7, .ref b8]))] sz)) 0 0 (va_A [(h0, .inr (11, [.ref d0, .ref d1, .ref d2, .ref d3, .ref d4, .ref d5, .ref d6, .ref d7, .ref d8, .ref d9])), (d8, .inr (2, [.int 0, .int 0, .int 0, .int 0, .int 0, .int 0, .int 0, .int 0, .int 0, .ref gn, .ref gf, .ref gp, .ref gs, .ref gr])), (gf, .inr (1, [.int 0, .ref b0, .ref b1, .ref b2, .ref b3, .ref b4, .ref b5, .ref b6, .ref b7, .ref b8]))] sz) := by
  refine kEnter (by decide) (Nat.le_of_ble_eq_true rfl) ?_
  intro p e s m below meth c ls hx hb hr hml hown hlocks hin hwd hsz hP hK hD hl
  subst hsz
  generalize hAe : va_A [(h0, .inr (11, [.ref d0, .ref d1, .ref d2, .ref d3, .ref d4, .ref d5, .ref d6, .ref d7, .ref d8, .ref d9])), (d8, .inr (2, [.int 0, .int 0, .int 0, .int 0, .int 0, .int 0, .int 0, .int 0, .int 0, .ref gn, .ref gf, .ref gp, .ref gs, .ref gr])), (gf, .inr (1, [.int 0, .ref b0, .ref b1, .ref b2, .ref b3, .ref b4, .ref b5, .ref b6, .ref b7, .ref b8]))] s.heap.size = A at hD ⊢
  have hA : ∀ q : Nat, s.heap.size ≤ q → A q := fun q h => by rw [← hAe]; exact Or.inr h
  have hS : va_S A s.heap s.heap [] := va_S.rf
  have hl : lv_has ls 9 [(0, .ref h0), (1, .int p0), (2, .int p1), (3, .int p2)] := hl
  refine lv_aload_n hx hb dX11_searchFaults_0 rfl (lv_at hl 0 rfl) ?_
  refine va_get (D := (dC, dI)) (ci := 11) (v := .ref d8) (C := RX11) (T := TX11) (N := 10) hx hb hwd inlX11 hown hK hP 0 rfl rfl 8 (by decide) (hwd _ kr2_19) (fun _ h9 => h9) rfl dX11_searchFaults_1 ?_
  refine lv_iload_n hx hb dX11_searchFaults_4 rfl (lv_at hl 1 rfl) ?_
  have hPc := hP.sub (ws' := [(d8, .inr (2, [.int 0, .int 0, .int 0, .int 0, .int 0, .int 0, .int 0, .int 0, .int 0, .ref gn, .ref gf, .ref gp, .ref gs, .ref gr])), (gf, .inr (1, [.int 0, .ref b0, .ref b1, .ref b2, .ref b3, .ref b4, .ref b5, .ref b6, .ref b7, .ref b8]))]) [1, 2] rfl
  have hDc := hD.sub (ws' := [(d8, .inr (2, [.int 0, .int 0, .int 0, .int 0, .int 0, .int 0, .int 0, .int 0, .int 0, .ref gn, .ref gf, .ref gp, .ref gs, .ref gr])), (gf, .inr (1, [.int 0, .ref b0, .ref b1, .ref b2, .ref b3, .ref b4, .ref b5, .ref b6, .ref b7, .ref b8]))]) [1, 2] (by decide) rfl
  have hFc := va_free (wc := [(d8, .inr (2, [.int 0, .int 0, .int 0, .int 0, .int 0, .int 0, .int 0, .int 0, .int 0, .ref gn, .ref gf, .ref gp, .ref gs, .ref gr])), (gf, .inr (1, [.int 0, .ref b0, .ref b1, .ref b2, .ref b3, .ref b4, .ref b5, .ref b6, .ref b7, .ref b8]))]) hD hS hA [1, 2] rfl
  refine va_calli (va_runV (As := [.int p0]) (rest := []) ⟨hx, hb, hml, hown, hwd⟩ (c_X2_hasFollower l dC dI cI cZ cB cJ cM d8 gn gf gp gs gr b0 b1 b2 b3 b4 b5 b6 b7 b8 p0 s.heap.size) (cwV 1 hwd (gV kr16_17 kr12_21 kr12_22 kr2_18 kr12_23) rfl rfl rfl (by decide +kernel) ⟨Nat.le_of_ble_eq_true rfl, Nat.le_of_ble_eq_true rfl⟩) (kPreV hPc hK hDc (ci := 2) (q0 := 0) rfl rfl) rfl rfl hl.1 rfl (lv_room (Nat.le_of_ble_eq_true rfl)) dX11_searchFaults_5 ⟨Nat.le_of_ble_eq_true rfl, Nat.le_of_ble_eq_true rfl⟩) hS (fun q _ h => hFc q h) hFc (fun r1 u2 t H1 locs ht9 hvm hw hB hz1 hk1 hS => ?_)
  obtain ⟨hP1, hD1⟩ := hB
  rw [ht9] at hP1
  obtain ⟨hP, hD⟩ := va_join (wr := [(h0, .inr (11, [.ref d0, .ref d1, .ref d2, .ref d3, .ref d4, .ref d5, .ref d6, .ref d7, .ref d8, .ref d9]))]) (w1 := [(d8, .inr (2, [.int 0, .int 0, .int 0, .int 0, .int 0, .int 0, .int 0, .int 0, .int 0, .ref gn, .ref gf, .ref gp, .ref gs, .ref gr])), (gf, .inr (1, [.int 0, .ref b0, .ref b1, .ref b2, .ref b3, .ref b4, .ref b5, .ref b6, .ref b7, .ref b8]))]) hP hD [1, 2] [0] rfl rfl (by decide) (by decide) hk1 hFc hP1 hD1
  generalize H1 = H at hP hS ⊢
  have hP : va_P (dC, dI) vwCl [(h0, .inr (11, [.ref d0, .ref d1, .ref d2, .ref d3, .ref d4, .ref d5, .ref d6, .ref d7, .ref d8, .ref d9])), (d8, .inr (2, [.int 0, .int 0, .int 0, .int 0, .int 0, .int 0, .int 0, .int 0, .int 0, .ref gn, .ref gf, .ref gp, .ref gs, .ref gr])), (gf, .inr (1, [.int 0, .ref b0, .ref b1, .ref b2, .ref b3, .ref b4, .ref b5, .ref b6, .ref b7, .ref b8]))] H := hP
  have hD : va_D A [(h0, .inr (11, [.ref d0, .ref d1, .ref d2, .ref d3, .ref d4, .ref d5, .ref d6, .ref d7, .ref d8, .ref d9])), (d8, .inr (2, [.int 0, .int 0, .int 0, .int 0, .int 0, .int 0, .int 0, .int 0, .int 0, .ref gn, .ref gf, .ref gp, .ref gs, .ref gr])), (gf, .inr (1, [.int 0, .ref b0, .ref b1, .ref b2, .ref b3, .ref b4, .ref b5, .ref b6, .ref b7, .ref b8]))] := hD
  subst hw
  refine lv_if_eq (tgt := 25) hx hb dX11_searchFaults_8 (by decide) (fun c3 => ?_) (fun c3 => absurd c3 (by decide))
  refine lv_bipush (v := (-2)) hx hb dX11_searchFaults_25 (by decide) ?_
  have hP9 := hP.sub (ws' := [(h0, .inr (11, [.ref d0, .ref d1, .ref d2, .ref d3, .ref d4, .ref d5, .ref d6, .ref d7, .ref d8, .ref d9])), (d8, .inr (2, [.int 0, .int 0, .int 0, .int 0, .int 0, .int 0, .int 0, .int 0, .int 0, .ref gn, .ref gf, .ref gp, .ref gs, .ref gr])), (gf, .inr (1, [.int 0, .ref b0, .ref b1, .ref b2, .ref b3, .ref b4, .ref b5, .ref b6, .ref b7, .ref b8]))]) [0, 1, 2] rfl
  have hD9 := hD.sub (ws' := [(h0, .inr (11, [.ref d0, .ref d1, .ref d2, .ref d3, .ref d4, .ref d5, .ref d6, .ref d7, .ref d8, .ref d9])), (d8, .inr (2, [.int 0, .int 0, .int 0, .int 0, .int 0, .int 0, .int 0, .int 0, .int 0, .ref gn, .ref gf, .ref gp, .ref gs, .ref gr])), (gf, .inr (1, [.int 0, .ref b0, .ref b1, .ref b2, .ref b3, .ref b4, .ref b5, .ref b6, .ref b7, .ref b8]))]) [0, 1, 2] (by decide) rfl
  exact W.iret (v := (-2)) hx hb hr (fun t ht hW => ⟨⟨(-2), (), rfl, rfl, (by rw [ht]; exact hP9), hD9⟩, hS.F ht⟩) hS.2.2 dX11_searchFaults_27
set_option maxHeartbeats 4000000 in
set_option maxRecDepth 100000 in
theorem c_X11_profile (l : Launch) (dC : Nat → ClassId) (dI : Nat → Nat → Nat) (cI cZ cB cJ cM : ClassId) (h0 d0 d1 d2 d3 d4 d5 d6 d7 d8 d9 gn gf gp gs gr : Nat) (p0 p1 : Int32) (sz : Nat) : Met l yX11_profile (kw yX11_profile cX11_profile 3 (some .int)) ({ frames := 1, cells := 0, slots := 0, locals := 21 }) (va_Pc [.ref h0, .int p0, .int p1] (kPre dC dI [(cI, .int), (cZ, .boolean), (cB, .byte), (cJ, .long), (cM, .object RX2)] [(h0, .inr (11, [.ref d0, .ref d1, .ref d2, .ref d3, .ref d4, .ref d5, .ref d6, .ref d7, .ref d8, .ref d9])), (d8, .inr (2, [.int 0, .int 0, .int 0, .int 0, .int 0, .int 0, .int 0, .int 0, .int 0, .ref gn, .ref gf, .ref gp, .ref gs, .ref gr]))] sz)) (va_Qi (fun (r : Int32) (_ : Unit) => r = (-2)) (fun _ _ => True) (va_A [(h0, .inr (11, [.ref d0, .ref d1, .ref d2, .ref d3, .ref d4, .ref d5, .ref d6, .ref d7, .ref d8, .ref d9])), (d8, .inr (2, [.int 0, .int 0, .int 0, .int 0, .int 0, .int 0, .int 0, .int 0, .int 0, .ref gn, .ref gf, .ref gp, .ref gs, .ref gr]))] sz)) 0 0 (va_A [(h0, .inr (11, [.ref d0, .ref d1, .ref d2, .ref d3, .ref d4, .ref d5, .ref d6, .ref d7, .ref d8, .ref d9])), (d8, .inr (2, [.int 0, .int 0, .int 0, .int 0, .int 0, .int 0, .int 0, .int 0, .int 0, .ref gn, .ref gf, .ref gp, .ref gs, .ref gr]))] sz) := by
  refine kEnter (by decide) (Nat.le_of_ble_eq_true rfl) ?_
  intro p e s m below meth c ls hx hb hr hml hown hlocks hin hwd hsz hP hK hD hl
  subst hsz
  generalize hAe : va_A [(h0, .inr (11, [.ref d0, .ref d1, .ref d2, .ref d3, .ref d4, .ref d5, .ref d6, .ref d7, .ref d8, .ref d9])), (d8, .inr (2, [.int 0, .int 0, .int 0, .int 0, .int 0, .int 0, .int 0, .int 0, .int 0, .ref gn, .ref gf, .ref gp, .ref gs, .ref gr]))] s.heap.size = A at hD ⊢
  have hA : ∀ q : Nat, s.heap.size ≤ q → A q := fun q h => by rw [← hAe]; exact Or.inr h
  have hS : va_S A s.heap s.heap [] := va_S.rf
  have hl : lv_has ls 3 [(0, .ref h0), (1, .int p0), (2, .int p1)] := hl
  refine lv_aload_n hx hb dX11_profile_0 rfl (lv_at hl 0 rfl) ?_
  refine va_get (D := (dC, dI)) (ci := 11) (v := .ref d8) (C := RX11) (T := TX11) (N := 10) hx hb hwd inlX11 hown hK hP 0 rfl rfl 8 (by decide) (hwd _ kr2_19) (fun _ h9 => h9) rfl dX11_profile_1 ?_
  refine lv_iload_n hx hb dX11_profile_4 rfl (lv_at hl 1 rfl) ?_
  have hPc := hP.sub (ws' := [(d8, .inr (2, [.int 0, .int 0, .int 0, .int 0, .int 0, .int 0, .int 0, .int 0, .int 0, .ref gn, .ref gf, .ref gp, .ref gs, .ref gr]))]) [1] rfl
  have hDc := hD.sub (ws' := [(d8, .inr (2, [.int 0, .int 0, .int 0, .int 0, .int 0, .int 0, .int 0, .int 0, .int 0, .ref gn, .ref gf, .ref gp, .ref gs, .ref gr]))]) [1] (by decide) rfl
  have hFc := va_free (wc := [(d8, .inr (2, [.int 0, .int 0, .int 0, .int 0, .int 0, .int 0, .int 0, .int 0, .int 0, .ref gn, .ref gf, .ref gp, .ref gs, .ref gr]))]) hD hS hA [1] rfl
  refine va_calli (va_runV (As := [.int p0]) (rest := []) ⟨hx, hb, hml, hown, hwd⟩ (c_X2_hasTrack l dC dI cI cZ cB cJ cM d8 gn gf gp gs gr p0 s.heap.size) (cwV 1 hwd (gV kr15_20 kr15_21 kr15_22 kr2_18 kr15_23) rfl rfl rfl (by decide +kernel) ⟨Nat.le_of_ble_eq_true rfl, Nat.le_of_ble_eq_true rfl⟩) (kPreV hPc hK hDc (ci := 2) (q0 := 0) rfl rfl) rfl rfl hl.1 rfl (lv_room (Nat.le_of_ble_eq_true rfl)) dX11_profile_5 ⟨Nat.le_of_ble_eq_true rfl, Nat.le_of_ble_eq_true rfl⟩) hS (fun q _ h => hFc q h) hFc (fun r1 u2 t H1 locs ht9 hvm hw hB hz1 hk1 hS => ?_)
  obtain ⟨hP1, hD1⟩ := hB
  rw [ht9] at hP1
  obtain ⟨hP, hD⟩ := va_join (wr := [(h0, .inr (11, [.ref d0, .ref d1, .ref d2, .ref d3, .ref d4, .ref d5, .ref d6, .ref d7, .ref d8, .ref d9]))]) (w1 := [(d8, .inr (2, [.int 0, .int 0, .int 0, .int 0, .int 0, .int 0, .int 0, .int 0, .int 0, .ref gn, .ref gf, .ref gp, .ref gs, .ref gr]))]) hP hD [1] [0] rfl rfl (by decide) (by decide) hk1 hFc hP1 hD1
  generalize H1 = H at hP hS ⊢
  have hP : va_P (dC, dI) vwCl [(h0, .inr (11, [.ref d0, .ref d1, .ref d2, .ref d3, .ref d4, .ref d5, .ref d6, .ref d7, .ref d8, .ref d9])), (d8, .inr (2, [.int 0, .int 0, .int 0, .int 0, .int 0, .int 0, .int 0, .int 0, .int 0, .ref gn, .ref gf, .ref gp, .ref gs, .ref gr]))] H := hP
  have hD : va_D A [(h0, .inr (11, [.ref d0, .ref d1, .ref d2, .ref d3, .ref d4, .ref d5, .ref d6, .ref d7, .ref d8, .ref d9])), (d8, .inr (2, [.int 0, .int 0, .int 0, .int 0, .int 0, .int 0, .int 0, .int 0, .int 0, .ref gn, .ref gf, .ref gp, .ref gs, .ref gr]))] := hD
  subst hw
  refine lv_if_eq (tgt := 22) hx hb dX11_profile_8 (by decide) (fun c3 => ?_) (fun c3 => absurd c3 (by decide))
  refine lv_bipush (v := (-2)) hx hb dX11_profile_22 (by decide) ?_
  exact W.iret (v := (-2)) hx hb hr (fun t ht hW => ⟨⟨(-2), (), rfl, rfl, trivial⟩, hS.F ht⟩) hS.2.2 dX11_profile_24
set_option maxHeartbeats 4000000 in
set_option maxRecDepth 100000 in
theorem c_X11_lift (l : Launch) (dC : Nat → ClassId) (dI : Nat → Nat → Nat) (cI cZ cB cJ cM : ClassId) (h0 d0 d1 d2 d3 d4 d5 d6 d7 d8 d9 gn gf gp gs gr b0 b1 b2 b3 b4 b5 b6 b7 b8 : Nat) (p0 p1 : Int32) (sz : Nat) : Met l yX11_lift (kw yX11_lift cX11_lift 3 (some .int)) ({ frames := 1, cells := 0, slots := 0, locals := 21 }) (va_Pc [.ref h0, .int p0, .int p1] (kPre dC dI [(cI, .int), (cZ, .boolean), (cB, .byte), (cJ, .long), (cM, .object RX2)] [(h0, .inr (11, [.ref d0, .ref d1, .ref d2, .ref d3, .ref d4, .ref d5, .ref d6, .ref d7, .ref d8, .ref d9])), (d8, .inr (2, [.int 0, .int 0, .int 0, .int 0, .int 0, .int 0, .int 0, .int 0, .int 0, .ref gn, .ref gf, .ref gp, .ref gs, .ref gr])), (gf, .inr (1, [.int 0, .ref b0, .ref b1, .ref b2, .ref b3, .ref b4, .ref b5, .ref b6, .ref b7, .ref b8]))] sz)) (va_Qi (fun (r : Int32) (_ : Unit) => r = (-2)) (fun _ _ => True) (va_A [(h0, .inr (11, [.ref d0, .ref d1, .ref d2, .ref d3, .ref d4, .ref d5, .ref d6, .ref d7, .ref d8, .ref d9])), (d8, .inr (2, [.int 0, .int 0, .int 0, .int 0, .int 0, .int 0, .int 0, .int 0, .int 0, .ref gn, .ref gf, .ref gp, .ref gs, .ref gr])), (gf, .inr (1, [.int 0, .ref b0, .ref b1, .ref b2, .ref b3, .ref b4, .ref b5, .ref b6, .ref b7, .ref b8]))] sz)) 0 0 (va_A [(h0, .inr (11, [.ref d0, .ref d1, .ref d2, .ref d3, .ref d4, .ref d5, .ref d6, .ref d7, .ref d8, .ref d9])), (d8, .inr (2, [.int 0, .int 0, .int 0, .int 0, .int 0, .int 0, .int 0, .int 0, .int 0, .ref gn, .ref gf, .ref gp, .ref gs, .ref gr])), (gf, .inr (1, [.int 0, .ref b0, .ref b1, .ref b2, .ref b3, .ref b4, .ref b5, .ref b6, .ref b7, .ref b8]))] sz) := by
  refine kEnter (by decide) (Nat.le_of_ble_eq_true rfl) ?_
  intro p e s m below meth c ls hx hb hr hml hown hlocks hin hwd hsz hP hK hD hl
  subst hsz
  generalize hAe : va_A [(h0, .inr (11, [.ref d0, .ref d1, .ref d2, .ref d3, .ref d4, .ref d5, .ref d6, .ref d7, .ref d8, .ref d9])), (d8, .inr (2, [.int 0, .int 0, .int 0, .int 0, .int 0, .int 0, .int 0, .int 0, .int 0, .ref gn, .ref gf, .ref gp, .ref gs, .ref gr])), (gf, .inr (1, [.int 0, .ref b0, .ref b1, .ref b2, .ref b3, .ref b4, .ref b5, .ref b6, .ref b7, .ref b8]))] s.heap.size = A at hD ⊢
  have hA : ∀ q : Nat, s.heap.size ≤ q → A q := fun q h => by rw [← hAe]; exact Or.inr h
  have hS : va_S A s.heap s.heap [] := va_S.rf
  have hl : lv_has ls 3 [(0, .ref h0), (1, .int p0), (2, .int p1)] := hl
  refine lv_aload_n hx hb dX11_lift_0 rfl (lv_at hl 0 rfl) ?_
  refine va_get (D := (dC, dI)) (ci := 11) (v := .ref d8) (C := RX11) (T := TX11) (N := 10) hx hb hwd inlX11 hown hK hP 0 rfl rfl 8 (by decide) (hwd _ kr2_19) (fun _ h9 => h9) rfl dX11_lift_1 ?_
  refine lv_iload_n hx hb dX11_lift_4 rfl (lv_at hl 1 rfl) ?_
  have hPc := hP.sub (ws' := [(d8, .inr (2, [.int 0, .int 0, .int 0, .int 0, .int 0, .int 0, .int 0, .int 0, .int 0, .ref gn, .ref gf, .ref gp, .ref gs, .ref gr])), (gf, .inr (1, [.int 0, .ref b0, .ref b1, .ref b2, .ref b3, .ref b4, .ref b5, .ref b6, .ref b7, .ref b8]))]) [1, 2] rfl
  have hDc := hD.sub (ws' := [(d8, .inr (2, [.int 0, .int 0, .int 0, .int 0, .int 0, .int 0, .int 0, .int 0, .int 0, .ref gn, .ref gf, .ref gp, .ref gs, .ref gr])), (gf, .inr (1, [.int 0, .ref b0, .ref b1, .ref b2, .ref b3, .ref b4, .ref b5, .ref b6, .ref b7, .ref b8]))]) [1, 2] (by decide) rfl
  have hFc := va_free (wc := [(d8, .inr (2, [.int 0, .int 0, .int 0, .int 0, .int 0, .int 0, .int 0, .int 0, .int 0, .ref gn, .ref gf, .ref gp, .ref gs, .ref gr])), (gf, .inr (1, [.int 0, .ref b0, .ref b1, .ref b2, .ref b3, .ref b4, .ref b5, .ref b6, .ref b7, .ref b8]))]) hD hS hA [1, 2] rfl
  refine va_calli (va_runV (As := [.int p0]) (rest := []) ⟨hx, hb, hml, hown, hwd⟩ (c_X2_hasFollower l dC dI cI cZ cB cJ cM d8 gn gf gp gs gr b0 b1 b2 b3 b4 b5 b6 b7 b8 p0 s.heap.size) (cwV 1 hwd (gV kr16_17 kr12_21 kr12_22 kr2_18 kr12_23) rfl rfl rfl (by decide +kernel) ⟨Nat.le_of_ble_eq_true rfl, Nat.le_of_ble_eq_true rfl⟩) (kPreV hPc hK hDc (ci := 2) (q0 := 0) rfl rfl) rfl rfl hl.1 rfl (lv_room (Nat.le_of_ble_eq_true rfl)) dX11_lift_5 ⟨Nat.le_of_ble_eq_true rfl, Nat.le_of_ble_eq_true rfl⟩) hS (fun q _ h => hFc q h) hFc (fun r1 u2 t H1 locs ht9 hvm hw hB hz1 hk1 hS => ?_)
  obtain ⟨hP1, hD1⟩ := hB
  rw [ht9] at hP1
  obtain ⟨hP, hD⟩ := va_join (wr := [(h0, .inr (11, [.ref d0, .ref d1, .ref d2, .ref d3, .ref d4, .ref d5, .ref d6, .ref d7, .ref d8, .ref d9]))]) (w1 := [(d8, .inr (2, [.int 0, .int 0, .int 0, .int 0, .int 0, .int 0, .int 0, .int 0, .int 0, .ref gn, .ref gf, .ref gp, .ref gs, .ref gr])), (gf, .inr (1, [.int 0, .ref b0, .ref b1, .ref b2, .ref b3, .ref b4, .ref b5, .ref b6, .ref b7, .ref b8]))]) hP hD [1, 2] [0] rfl rfl (by decide) (by decide) hk1 hFc hP1 hD1
  generalize H1 = H at hP hS ⊢
  have hP : va_P (dC, dI) vwCl [(h0, .inr (11, [.ref d0, .ref d1, .ref d2, .ref d3, .ref d4, .ref d5, .ref d6, .ref d7, .ref d8, .ref d9])), (d8, .inr (2, [.int 0, .int 0, .int 0, .int 0, .int 0, .int 0, .int 0, .int 0, .int 0, .ref gn, .ref gf, .ref gp, .ref gs, .ref gr])), (gf, .inr (1, [.int 0, .ref b0, .ref b1, .ref b2, .ref b3, .ref b4, .ref b5, .ref b6, .ref b7, .ref b8]))] H := hP
  have hD : va_D A [(h0, .inr (11, [.ref d0, .ref d1, .ref d2, .ref d3, .ref d4, .ref d5, .ref d6, .ref d7, .ref d8, .ref d9])), (d8, .inr (2, [.int 0, .int 0, .int 0, .int 0, .int 0, .int 0, .int 0, .int 0, .int 0, .ref gn, .ref gf, .ref gp, .ref gs, .ref gr])), (gf, .inr (1, [.int 0, .ref b0, .ref b1, .ref b2, .ref b3, .ref b4, .ref b5, .ref b6, .ref b7, .ref b8]))] := hD
  subst hw
  refine lv_if_eq (tgt := 22) hx hb dX11_lift_8 (by decide) (fun c3 => ?_) (fun c3 => absurd c3 (by decide))
  refine lv_bipush (v := (-2)) hx hb dX11_lift_22 (by decide) ?_
  exact W.iret (v := (-2)) hx hb hr (fun t ht hW => ⟨⟨(-2), (), rfl, rfl, trivial⟩, hS.F ht⟩) hS.2.2 dX11_lift_24
set_option maxHeartbeats 4000000 in
set_option maxRecDepth 100000 in
theorem c_X11_steep (l : Launch) (dC : Nat → ClassId) (dI : Nat → Nat → Nat) (cI cZ cB cJ cM : ClassId) (h0 d0 d1 d2 d3 d4 d5 d6 d7 d8 d9 gn gf gp gs gr : Nat) (p0 : Int32) (sz : Nat) : Met l yX11_steep (kw yX11_steep cX11_steep 4 (some .int)) ({ frames := 1, cells := 0, slots := 0, locals := 21 }) (va_Pc [.ref h0, .int p0] (kPre dC dI [(cI, .int), (cZ, .boolean), (cB, .byte), (cJ, .long), (cM, .object RX2)] [(h0, .inr (11, [.ref d0, .ref d1, .ref d2, .ref d3, .ref d4, .ref d5, .ref d6, .ref d7, .ref d8, .ref d9])), (d8, .inr (2, [.int 0, .int 0, .int 0, .int 0, .int 0, .int 0, .int 0, .int 0, .int 0, .ref gn, .ref gf, .ref gp, .ref gs, .ref gr]))] sz)) (va_Qi (fun (r : Int32) (_ : Unit) => r = (-2)) (fun _ _ => True) (va_A [(h0, .inr (11, [.ref d0, .ref d1, .ref d2, .ref d3, .ref d4, .ref d5, .ref d6, .ref d7, .ref d8, .ref d9])), (d8, .inr (2, [.int 0, .int 0, .int 0, .int 0, .int 0, .int 0, .int 0, .int 0, .int 0, .ref gn, .ref gf, .ref gp, .ref gs, .ref gr]))] sz)) 0 0 (va_A [(h0, .inr (11, [.ref d0, .ref d1, .ref d2, .ref d3, .ref d4, .ref d5, .ref d6, .ref d7, .ref d8, .ref d9])), (d8, .inr (2, [.int 0, .int 0, .int 0, .int 0, .int 0, .int 0, .int 0, .int 0, .int 0, .ref gn, .ref gf, .ref gp, .ref gs, .ref gr]))] sz) := by
  refine kEnter (by decide) (Nat.le_of_ble_eq_true rfl) ?_
  intro p e s m below meth c ls hx hb hr hml hown hlocks hin hwd hsz hP hK hD hl
  subst hsz
  generalize hAe : va_A [(h0, .inr (11, [.ref d0, .ref d1, .ref d2, .ref d3, .ref d4, .ref d5, .ref d6, .ref d7, .ref d8, .ref d9])), (d8, .inr (2, [.int 0, .int 0, .int 0, .int 0, .int 0, .int 0, .int 0, .int 0, .int 0, .ref gn, .ref gf, .ref gp, .ref gs, .ref gr]))] s.heap.size = A at hD ⊢
  have hA : ∀ q : Nat, s.heap.size ≤ q → A q := fun q h => by rw [← hAe]; exact Or.inr h
  have hS : va_S A s.heap s.heap [] := va_S.rf
  have hl : lv_has ls 4 [(0, .ref h0), (1, .int p0)] := hl
  refine lv_aload_n hx hb dX11_steep_0 rfl (lv_at hl 0 rfl) ?_
  refine va_get (D := (dC, dI)) (ci := 11) (v := .ref d8) (C := RX11) (T := TX11) (N := 10) hx hb hwd inlX11 hown hK hP 0 rfl rfl 8 (by decide) (hwd _ kr2_19) (fun _ h9 => h9) rfl dX11_steep_1 ?_
  refine lv_iload_n hx hb dX11_steep_4 rfl (lv_at hl 1 rfl) ?_
  have hPc := hP.sub (ws' := [(d8, .inr (2, [.int 0, .int 0, .int 0, .int 0, .int 0, .int 0, .int 0, .int 0, .int 0, .ref gn, .ref gf, .ref gp, .ref gs, .ref gr]))]) [1] rfl
  have hDc := hD.sub (ws' := [(d8, .inr (2, [.int 0, .int 0, .int 0, .int 0, .int 0, .int 0, .int 0, .int 0, .int 0, .ref gn, .ref gf, .ref gp, .ref gs, .ref gr]))]) [1] (by decide) rfl
  have hFc := va_free (wc := [(d8, .inr (2, [.int 0, .int 0, .int 0, .int 0, .int 0, .int 0, .int 0, .int 0, .int 0, .ref gn, .ref gf, .ref gp, .ref gs, .ref gr]))]) hD hS hA [1] rfl
  refine va_calli (va_runV (As := [.int p0]) (rest := []) ⟨hx, hb, hml, hown, hwd⟩ (c_X2_hasTrack l dC dI cI cZ cB cJ cM d8 gn gf gp gs gr p0 s.heap.size) (cwV 1 hwd (gV kr15_20 kr15_21 kr15_22 kr2_18 kr15_23) rfl rfl rfl (by decide +kernel) ⟨Nat.le_of_ble_eq_true rfl, Nat.le_of_ble_eq_true rfl⟩) (kPreV hPc hK hDc (ci := 2) (q0 := 0) rfl rfl) rfl rfl hl.1 rfl (lv_room (Nat.le_of_ble_eq_true rfl)) dX11_steep_5 ⟨Nat.le_of_ble_eq_true rfl, Nat.le_of_ble_eq_true rfl⟩) hS (fun q _ h => hFc q h) hFc (fun r1 u2 t H1 locs ht9 hvm hw hB hz1 hk1 hS => ?_)
  obtain ⟨hP1, hD1⟩ := hB
  rw [ht9] at hP1
  obtain ⟨hP, hD⟩ := va_join (wr := [(h0, .inr (11, [.ref d0, .ref d1, .ref d2, .ref d3, .ref d4, .ref d5, .ref d6, .ref d7, .ref d8, .ref d9]))]) (w1 := [(d8, .inr (2, [.int 0, .int 0, .int 0, .int 0, .int 0, .int 0, .int 0, .int 0, .int 0, .ref gn, .ref gf, .ref gp, .ref gs, .ref gr]))]) hP hD [1] [0] rfl rfl (by decide) (by decide) hk1 hFc hP1 hD1
  generalize H1 = H at hP hS ⊢
  have hP : va_P (dC, dI) vwCl [(h0, .inr (11, [.ref d0, .ref d1, .ref d2, .ref d3, .ref d4, .ref d5, .ref d6, .ref d7, .ref d8, .ref d9])), (d8, .inr (2, [.int 0, .int 0, .int 0, .int 0, .int 0, .int 0, .int 0, .int 0, .int 0, .ref gn, .ref gf, .ref gp, .ref gs, .ref gr]))] H := hP
  have hD : va_D A [(h0, .inr (11, [.ref d0, .ref d1, .ref d2, .ref d3, .ref d4, .ref d5, .ref d6, .ref d7, .ref d8, .ref d9])), (d8, .inr (2, [.int 0, .int 0, .int 0, .int 0, .int 0, .int 0, .int 0, .int 0, .int 0, .ref gn, .ref gf, .ref gp, .ref gs, .ref gr]))] := hD
  subst hw
  refine lv_if_ne (tgt := 14) hx hb dX11_steep_8 (by decide) (fun c3 => absurd c3 (by decide)) (fun c3 => ?_)
  refine lv_bipush (v := (-2)) hx hb dX11_steep_11 (by decide) ?_
  exact W.iret (v := (-2)) hx hb hr (fun t ht hW => ⟨⟨(-2), (), rfl, rfl, trivial⟩, hS.F ht⟩) hS.2.2 dX11_steep_13
set_option maxHeartbeats 4000000 in
set_option maxRecDepth 100000 in
theorem c_X11_jams (l : Launch) (dC : Nat → ClassId) (dI : Nat → Nat → Nat) (cI cZ cB cJ cM : ClassId) (h0 d0 d1 d2 d3 d4 d5 d6 d7 d8 d9 gn gf gp gs gr b0 b1 b2 b3 b4 b5 b6 b7 b8 : Nat) (p0 : Int32) (sz : Nat) : Met l yX11_jams (kw yX11_jams cX11_jams 2 (some .int)) ({ frames := 1, cells := 0, slots := 0, locals := 21 }) (va_Pc [.ref h0, .int p0] (kPre dC dI [(cI, .int), (cZ, .boolean), (cB, .byte), (cJ, .long), (cM, .object RX2)] [(h0, .inr (11, [.ref d0, .ref d1, .ref d2, .ref d3, .ref d4, .ref d5, .ref d6, .ref d7, .ref d8, .ref d9])), (d8, .inr (2, [.int 0, .int 0, .int 0, .int 0, .int 0, .int 0, .int 0, .int 0, .int 0, .ref gn, .ref gf, .ref gp, .ref gs, .ref gr])), (gf, .inr (1, [.int 0, .ref b0, .ref b1, .ref b2, .ref b3, .ref b4, .ref b5, .ref b6, .ref b7, .ref b8]))] sz)) (va_Qi (fun (r : Int32) (_ : Unit) => r = (-2)) (fun _ _ => True) (va_A [(h0, .inr (11, [.ref d0, .ref d1, .ref d2, .ref d3, .ref d4, .ref d5, .ref d6, .ref d7, .ref d8, .ref d9])), (d8, .inr (2, [.int 0, .int 0, .int 0, .int 0, .int 0, .int 0, .int 0, .int 0, .int 0, .ref gn, .ref gf, .ref gp, .ref gs, .ref gr])), (gf, .inr (1, [.int 0, .ref b0, .ref b1, .ref b2, .ref b3, .ref b4, .ref b5, .ref b6, .ref b7, .ref b8]))] sz)) 0 0 (va_A [(h0, .inr (11, [.ref d0, .ref d1, .ref d2, .ref d3, .ref d4, .ref d5, .ref d6, .ref d7, .ref d8, .ref d9])), (d8, .inr (2, [.int 0, .int 0, .int 0, .int 0, .int 0, .int 0, .int 0, .int 0, .int 0, .ref gn, .ref gf, .ref gp, .ref gs, .ref gr])), (gf, .inr (1, [.int 0, .ref b0, .ref b1, .ref b2, .ref b3, .ref b4, .ref b5, .ref b6, .ref b7, .ref b8]))] sz) := by
  refine kEnter (by decide) (Nat.le_of_ble_eq_true rfl) ?_
  intro p e s m below meth c ls hx hb hr hml hown hlocks hin hwd hsz hP hK hD hl
  subst hsz
  generalize hAe : va_A [(h0, .inr (11, [.ref d0, .ref d1, .ref d2, .ref d3, .ref d4, .ref d5, .ref d6, .ref d7, .ref d8, .ref d9])), (d8, .inr (2, [.int 0, .int 0, .int 0, .int 0, .int 0, .int 0, .int 0, .int 0, .int 0, .ref gn, .ref gf, .ref gp, .ref gs, .ref gr])), (gf, .inr (1, [.int 0, .ref b0, .ref b1, .ref b2, .ref b3, .ref b4, .ref b5, .ref b6, .ref b7, .ref b8]))] s.heap.size = A at hD ⊢
  have hA : ∀ q : Nat, s.heap.size ≤ q → A q := fun q h => by rw [← hAe]; exact Or.inr h
  have hS : va_S A s.heap s.heap [] := va_S.rf
  have hl : lv_has ls 2 [(0, .ref h0), (1, .int p0)] := hl
  refine lv_aload_n hx hb dX11_jams_0 rfl (lv_at hl 0 rfl) ?_
  refine va_get (D := (dC, dI)) (ci := 11) (v := .ref d8) (C := RX11) (T := TX11) (N := 10) hx hb hwd inlX11 hown hK hP 0 rfl rfl 8 (by decide) (hwd _ kr2_19) (fun _ h9 => h9) rfl dX11_jams_1 ?_
  refine lv_iload_n hx hb dX11_jams_4 rfl (lv_at hl 1 rfl) ?_
  have hPc := hP.sub (ws' := [(d8, .inr (2, [.int 0, .int 0, .int 0, .int 0, .int 0, .int 0, .int 0, .int 0, .int 0, .ref gn, .ref gf, .ref gp, .ref gs, .ref gr])), (gf, .inr (1, [.int 0, .ref b0, .ref b1, .ref b2, .ref b3, .ref b4, .ref b5, .ref b6, .ref b7, .ref b8]))]) [1, 2] rfl
  have hDc := hD.sub (ws' := [(d8, .inr (2, [.int 0, .int 0, .int 0, .int 0, .int 0, .int 0, .int 0, .int 0, .int 0, .ref gn, .ref gf, .ref gp, .ref gs, .ref gr])), (gf, .inr (1, [.int 0, .ref b0, .ref b1, .ref b2, .ref b3, .ref b4, .ref b5, .ref b6, .ref b7, .ref b8]))]) [1, 2] (by decide) rfl
  have hFc := va_free (wc := [(d8, .inr (2, [.int 0, .int 0, .int 0, .int 0, .int 0, .int 0, .int 0, .int 0, .int 0, .ref gn, .ref gf, .ref gp, .ref gs, .ref gr])), (gf, .inr (1, [.int 0, .ref b0, .ref b1, .ref b2, .ref b3, .ref b4, .ref b5, .ref b6, .ref b7, .ref b8]))]) hD hS hA [1, 2] rfl
  refine va_calli (va_runV (As := [.int p0]) (rest := []) ⟨hx, hb, hml, hown, hwd⟩ (c_X2_hasFollower l dC dI cI cZ cB cJ cM d8 gn gf gp gs gr b0 b1 b2 b3 b4 b5 b6 b7 b8 p0 s.heap.size) (cwV 1 hwd (gV kr16_17 kr12_21 kr12_22 kr2_18 kr12_23) rfl rfl rfl (by decide +kernel) ⟨Nat.le_of_ble_eq_true rfl, Nat.le_of_ble_eq_true rfl⟩) (kPreV hPc hK hDc (ci := 2) (q0 := 0) rfl rfl) rfl rfl hl.1 rfl (lv_room (Nat.le_of_ble_eq_true rfl)) dX11_jams_5 ⟨Nat.le_of_ble_eq_true rfl, Nat.le_of_ble_eq_true rfl⟩) hS (fun q _ h => hFc q h) hFc (fun r1 u2 t H1 locs ht9 hvm hw hB hz1 hk1 hS => ?_)
  obtain ⟨hP1, hD1⟩ := hB
  rw [ht9] at hP1
  obtain ⟨hP, hD⟩ := va_join (wr := [(h0, .inr (11, [.ref d0, .ref d1, .ref d2, .ref d3, .ref d4, .ref d5, .ref d6, .ref d7, .ref d8, .ref d9]))]) (w1 := [(d8, .inr (2, [.int 0, .int 0, .int 0, .int 0, .int 0, .int 0, .int 0, .int 0, .int 0, .ref gn, .ref gf, .ref gp, .ref gs, .ref gr])), (gf, .inr (1, [.int 0, .ref b0, .ref b1, .ref b2, .ref b3, .ref b4, .ref b5, .ref b6, .ref b7, .ref b8]))]) hP hD [1, 2] [0] rfl rfl (by decide) (by decide) hk1 hFc hP1 hD1
  generalize H1 = H at hP hS ⊢
  have hP : va_P (dC, dI) vwCl [(h0, .inr (11, [.ref d0, .ref d1, .ref d2, .ref d3, .ref d4, .ref d5, .ref d6, .ref d7, .ref d8, .ref d9])), (d8, .inr (2, [.int 0, .int 0, .int 0, .int 0, .int 0, .int 0, .int 0, .int 0, .int 0, .ref gn, .ref gf, .ref gp, .ref gs, .ref gr])), (gf, .inr (1, [.int 0, .ref b0, .ref b1, .ref b2, .ref b3, .ref b4, .ref b5, .ref b6, .ref b7, .ref b8]))] H := hP
  have hD : va_D A [(h0, .inr (11, [.ref d0, .ref d1, .ref d2, .ref d3, .ref d4, .ref d5, .ref d6, .ref d7, .ref d8, .ref d9])), (d8, .inr (2, [.int 0, .int 0, .int 0, .int 0, .int 0, .int 0, .int 0, .int 0, .int 0, .ref gn, .ref gf, .ref gp, .ref gs, .ref gr])), (gf, .inr (1, [.int 0, .ref b0, .ref b1, .ref b2, .ref b3, .ref b4, .ref b5, .ref b6, .ref b7, .ref b8]))] := hD
  subst hw
  refine lv_if_ne (tgt := 14) hx hb dX11_jams_8 (by decide) (fun c3 => absurd c3 (by decide)) (fun c3 => ?_)
  refine lv_bipush (v := (-2)) hx hb dX11_jams_11 (by decide) ?_
  exact W.iret (v := (-2)) hx hb hr (fun t ht hW => ⟨⟨(-2), (), rfl, rfl, trivial⟩, hS.F ht⟩) hS.2.2 dX11_jams_13
set_option maxHeartbeats 4000000 in
set_option maxRecDepth 100000 in
theorem c_X11_covers (l : Launch) (dC : Nat → ClassId) (dI : Nat → Nat → Nat) (cI cZ cB cJ cM : ClassId) (h0 d0 d1 d2 d3 d4 d5 d6 d7 d8 d9 gn gf gp gs gr : Nat) (p0 p1 : Int32) (sz : Nat) : Met l yX11_covers (kw yX11_covers cX11_covers 5 (some .int)) ({ frames := 1, cells := 0, slots := 0, locals := 21 }) (va_Pc [.ref h0, .int p0, .int p1] (kPre dC dI [(cI, .int), (cZ, .boolean), (cB, .byte), (cJ, .long), (cM, .object RX2)] [(h0, .inr (11, [.ref d0, .ref d1, .ref d2, .ref d3, .ref d4, .ref d5, .ref d6, .ref d7, .ref d8, .ref d9])), (d8, .inr (2, [.int 0, .int 0, .int 0, .int 0, .int 0, .int 0, .int 0, .int 0, .int 0, .ref gn, .ref gf, .ref gp, .ref gs, .ref gr]))] sz)) (va_Qi (fun (r : Int32) (_ : Unit) => r = (-2)) (fun _ _ => True) (va_A [(h0, .inr (11, [.ref d0, .ref d1, .ref d2, .ref d3, .ref d4, .ref d5, .ref d6, .ref d7, .ref d8, .ref d9])), (d8, .inr (2, [.int 0, .int 0, .int 0, .int 0, .int 0, .int 0, .int 0, .int 0, .int 0, .ref gn, .ref gf, .ref gp, .ref gs, .ref gr]))] sz)) 0 0 (va_A [(h0, .inr (11, [.ref d0, .ref d1, .ref d2, .ref d3, .ref d4, .ref d5, .ref d6, .ref d7, .ref d8, .ref d9])), (d8, .inr (2, [.int 0, .int 0, .int 0, .int 0, .int 0, .int 0, .int 0, .int 0, .int 0, .ref gn, .ref gf, .ref gp, .ref gs, .ref gr]))] sz) := by
  refine kEnter (by decide) (Nat.le_of_ble_eq_true rfl) ?_
  intro p e s m below meth c ls hx hb hr hml hown hlocks hin hwd hsz hP hK hD hl
  subst hsz
  generalize hAe : va_A [(h0, .inr (11, [.ref d0, .ref d1, .ref d2, .ref d3, .ref d4, .ref d5, .ref d6, .ref d7, .ref d8, .ref d9])), (d8, .inr (2, [.int 0, .int 0, .int 0, .int 0, .int 0, .int 0, .int 0, .int 0, .int 0, .ref gn, .ref gf, .ref gp, .ref gs, .ref gr]))] s.heap.size = A at hD ⊢
  have hA : ∀ q : Nat, s.heap.size ≤ q → A q := fun q h => by rw [← hAe]; exact Or.inr h
  have hS : va_S A s.heap s.heap [] := va_S.rf
  have hl : lv_has ls 5 [(0, .ref h0), (1, .int p0), (2, .int p1)] := hl
  refine lv_aload_n hx hb dX11_covers_0 rfl (lv_at hl 0 rfl) ?_
  refine va_get (D := (dC, dI)) (ci := 11) (v := .ref d8) (C := RX11) (T := TX11) (N := 10) hx hb hwd inlX11 hown hK hP 0 rfl rfl 8 (by decide) (hwd _ kr2_19) (fun _ h9 => h9) rfl dX11_covers_1 ?_
  refine lv_iload_n hx hb dX11_covers_4 rfl (lv_at hl 1 rfl) ?_
  have hPc := hP.sub (ws' := [(d8, .inr (2, [.int 0, .int 0, .int 0, .int 0, .int 0, .int 0, .int 0, .int 0, .int 0, .ref gn, .ref gf, .ref gp, .ref gs, .ref gr]))]) [1] rfl
  have hDc := hD.sub (ws' := [(d8, .inr (2, [.int 0, .int 0, .int 0, .int 0, .int 0, .int 0, .int 0, .int 0, .int 0, .ref gn, .ref gf, .ref gp, .ref gs, .ref gr]))]) [1] (by decide) rfl
  have hFc := va_free (wc := [(d8, .inr (2, [.int 0, .int 0, .int 0, .int 0, .int 0, .int 0, .int 0, .int 0, .int 0, .ref gn, .ref gf, .ref gp, .ref gs, .ref gr]))]) hD hS hA [1] rfl
  refine va_calli (va_runV (As := [.int p0]) (rest := []) ⟨hx, hb, hml, hown, hwd⟩ (c_X2_hasTrack l dC dI cI cZ cB cJ cM d8 gn gf gp gs gr p0 s.heap.size) (cwV 1 hwd (gV kr15_20 kr15_21 kr15_22 kr2_18 kr15_23) rfl rfl rfl (by decide +kernel) ⟨Nat.le_of_ble_eq_true rfl, Nat.le_of_ble_eq_true rfl⟩) (kPreV hPc hK hDc (ci := 2) (q0 := 0) rfl rfl) rfl rfl hl.1 rfl (lv_room (Nat.le_of_ble_eq_true rfl)) dX11_covers_5 ⟨Nat.le_of_ble_eq_true rfl, Nat.le_of_ble_eq_true rfl⟩) hS (fun q _ h => hFc q h) hFc (fun r1 u2 t H1 locs ht9 hvm hw hB hz1 hk1 hS => ?_)
  obtain ⟨hP1, hD1⟩ := hB
  rw [ht9] at hP1
  obtain ⟨hP, hD⟩ := va_join (wr := [(h0, .inr (11, [.ref d0, .ref d1, .ref d2, .ref d3, .ref d4, .ref d5, .ref d6, .ref d7, .ref d8, .ref d9]))]) (w1 := [(d8, .inr (2, [.int 0, .int 0, .int 0, .int 0, .int 0, .int 0, .int 0, .int 0, .int 0, .ref gn, .ref gf, .ref gp, .ref gs, .ref gr]))]) hP hD [1] [0] rfl rfl (by decide) (by decide) hk1 hFc hP1 hD1
  generalize H1 = H at hP hS ⊢
  have hP : va_P (dC, dI) vwCl [(h0, .inr (11, [.ref d0, .ref d1, .ref d2, .ref d3, .ref d4, .ref d5, .ref d6, .ref d7, .ref d8, .ref d9])), (d8, .inr (2, [.int 0, .int 0, .int 0, .int 0, .int 0, .int 0, .int 0, .int 0, .int 0, .ref gn, .ref gf, .ref gp, .ref gs, .ref gr]))] H := hP
  have hD : va_D A [(h0, .inr (11, [.ref d0, .ref d1, .ref d2, .ref d3, .ref d4, .ref d5, .ref d6, .ref d7, .ref d8, .ref d9])), (d8, .inr (2, [.int 0, .int 0, .int 0, .int 0, .int 0, .int 0, .int 0, .int 0, .int 0, .ref gn, .ref gf, .ref gp, .ref gs, .ref gr]))] := hD
  subst hw
  refine lv_if_eq (tgt := 21) hx hb dX11_covers_8 (by decide) (fun c3 => ?_) (fun c3 => absurd c3 (by decide))
  refine lv_bipush (v := (-2)) hx hb dX11_covers_21 (by decide) ?_
  exact W.iret (v := (-2)) hx hb hr (fun t ht hW => ⟨⟨(-2), (), rfl, rfl, trivial⟩, hS.F ht⟩) hS.2.2 dX11_covers_23
set_option maxHeartbeats 4000000 in
set_option maxRecDepth 100000 in
theorem c_X11_turn (l : Launch) (dC : Nat → ClassId) (dI : Nat → Nat → Nat) (cI cZ cB cJ cM : ClassId) (h0 d0 d1 d2 d3 d4 d5 d6 d7 d8 d9 gn gf gp gs gr : Nat) (p0 : Int32) (sz : Nat) : Met l yX11_turn (kw yX11_turn cX11_turn 5 (some .int)) ({ frames := 1, cells := 0, slots := 0, locals := 20 }) (va_Pc [.ref h0, .int p0] (kPre dC dI [(cI, .int), (cZ, .boolean), (cB, .byte), (cJ, .long), (cM, .object RX2)] [(h0, .inr (11, [.ref d0, .ref d1, .ref d2, .ref d3, .ref d4, .ref d5, .ref d6, .ref d7, .ref d8, .ref d9])), (d8, .inr (2, [.int 0, .int 0, .int 0, .int 0, .int 0, .int 0, .int 0, .int 0, .int 0, .ref gn, .ref gf, .ref gp, .ref gs, .ref gr]))] sz)) (va_Qi (fun (r : Int32) (_ : Unit) => r = (-2)) (fun _ _ => True) (va_A [(h0, .inr (11, [.ref d0, .ref d1, .ref d2, .ref d3, .ref d4, .ref d5, .ref d6, .ref d7, .ref d8, .ref d9])), (d8, .inr (2, [.int 0, .int 0, .int 0, .int 0, .int 0, .int 0, .int 0, .int 0, .int 0, .ref gn, .ref gf, .ref gp, .ref gs, .ref gr]))] sz)) 0 0 (va_A [(h0, .inr (11, [.ref d0, .ref d1, .ref d2, .ref d3, .ref d4, .ref d5, .ref d6, .ref d7, .ref d8, .ref d9])), (d8, .inr (2, [.int 0, .int 0, .int 0, .int 0, .int 0, .int 0, .int 0, .int 0, .int 0, .ref gn, .ref gf, .ref gp, .ref gs, .ref gr]))] sz) := by
  refine kEnter (by decide) (Nat.le_of_ble_eq_true rfl) ?_
  intro p e s m below meth c ls hx hb hr hml hown hlocks hin hwd hsz hP hK hD hl
  subst hsz
  generalize hAe : va_A [(h0, .inr (11, [.ref d0, .ref d1, .ref d2, .ref d3, .ref d4, .ref d5, .ref d6, .ref d7, .ref d8, .ref d9])), (d8, .inr (2, [.int 0, .int 0, .int 0, .int 0, .int 0, .int 0, .int 0, .int 0, .int 0, .ref gn, .ref gf, .ref gp, .ref gs, .ref gr]))] s.heap.size = A at hD ⊢
  have hA : ∀ q : Nat, s.heap.size ≤ q → A q := fun q h => by rw [← hAe]; exact Or.inr h
  have hS : va_S A s.heap s.heap [] := va_S.rf
  have hl : lv_has ls 5 [(0, .ref h0), (1, .int p0)] := hl
  refine lv_aload_n hx hb dX11_turn_0 rfl (lv_at hl 0 rfl) ?_
  refine va_get (D := (dC, dI)) (ci := 11) (v := .ref d8) (C := RX11) (T := TX11) (N := 10) hx hb hwd inlX11 hown hK hP 0 rfl rfl 8 (by decide) (hwd _ kr2_19) (fun _ h9 => h9) rfl dX11_turn_1 ?_
  have hPc := hP.sub (ws' := [(d8, .inr (2, [.int 0, .int 0, .int 0, .int 0, .int 0, .int 0, .int 0, .int 0, .int 0, .ref gn, .ref gf, .ref gp, .ref gs, .ref gr]))]) [1] rfl
  have hDc := hD.sub (ws' := [(d8, .inr (2, [.int 0, .int 0, .int 0, .int 0, .int 0, .int 0, .int 0, .int 0, .int 0, .ref gn, .ref gf, .ref gp, .ref gs, .ref gr]))]) [1] (by decide) rfl
  have hFc := va_free (wc := [(d8, .inr (2, [.int 0, .int 0, .int 0, .int 0, .int 0, .int 0, .int 0, .int 0, .int 0, .ref gn, .ref gf, .ref gp, .ref gs, .ref gr]))]) hD hS hA [1] rfl
  refine va_calli (va_runV (As := []) (rest := []) ⟨hx, hb, hml, hown, hwd⟩ (c_X2_isTold l dC dI cI cZ cB cJ cM d8 gn gf gp gs gr s.heap.size) (cwV 0 hwd (gV kr14_23 kr15_0 kr15_1 kr2_18 kr15_2) rfl rfl rfl (by decide +kernel) ⟨Nat.le_of_ble_eq_true rfl, Nat.le_of_ble_eq_true rfl⟩) (kPreV hPc hK hDc (ci := 2) (q0 := 0) rfl rfl) rfl rfl hl.1 rfl (lv_room (Nat.le_of_ble_eq_true rfl)) dX11_turn_4 ⟨Nat.le_of_ble_eq_true rfl, Nat.le_of_ble_eq_true rfl⟩) hS (fun q _ h => hFc q h) hFc (fun r1 u2 t H1 locs ht9 hvm hw hB hz1 hk1 hS => ?_)
  obtain ⟨hP1, hD1⟩ := hB
  rw [ht9] at hP1
  obtain ⟨hP, hD⟩ := va_join (wr := [(h0, .inr (11, [.ref d0, .ref d1, .ref d2, .ref d3, .ref d4, .ref d5, .ref d6, .ref d7, .ref d8, .ref d9]))]) (w1 := [(d8, .inr (2, [.int 0, .int 0, .int 0, .int 0, .int 0, .int 0, .int 0, .int 0, .int 0, .ref gn, .ref gf, .ref gp, .ref gs, .ref gr]))]) hP hD [1] [0] rfl rfl (by decide) (by decide) hk1 hFc hP1 hD1
  generalize H1 = H at hP hS ⊢
  have hP : va_P (dC, dI) vwCl [(h0, .inr (11, [.ref d0, .ref d1, .ref d2, .ref d3, .ref d4, .ref d5, .ref d6, .ref d7, .ref d8, .ref d9])), (d8, .inr (2, [.int 0, .int 0, .int 0, .int 0, .int 0, .int 0, .int 0, .int 0, .int 0, .ref gn, .ref gf, .ref gp, .ref gs, .ref gr]))] H := hP
  have hD : va_D A [(h0, .inr (11, [.ref d0, .ref d1, .ref d2, .ref d3, .ref d4, .ref d5, .ref d6, .ref d7, .ref d8, .ref d9])), (d8, .inr (2, [.int 0, .int 0, .int 0, .int 0, .int 0, .int 0, .int 0, .int 0, .int 0, .ref gn, .ref gf, .ref gp, .ref gs, .ref gr]))] := hD
  subst hw
  refine lv_if_eq (tgt := 24) hx hb dX11_turn_7 (by decide) (fun c3 => ?_) (fun c3 => absurd c3 (by decide))
  refine lv_bipush (v := (-2)) hx hb dX11_turn_24 (by decide) ?_
  exact W.iret (v := (-2)) hx hb hr (fun t ht hW => ⟨⟨(-2), (), rfl, rfl, trivial⟩, hS.F ht⟩) hS.2.2 dX11_turn_26
set_option maxHeartbeats 4000000 in
set_option maxRecDepth 100000 in
theorem c_X11_follower (l : Launch) (dC : Nat → ClassId) (dI : Nat → Nat → Nat) (cI cZ cB cJ cM : ClassId) (h0 d0 d1 d2 d3 d4 d5 d6 d7 d8 d9 gn gf gp gs gr b0 b1 b2 b3 b4 b5 b6 b7 b8 : Nat) (p0 p1 : Int32) (sz : Nat) : Met l yX11_follower (kw yX11_follower cX11_follower 3 (some .int)) ({ frames := 1, cells := 0, slots := 0, locals := 21 }) (va_Pc [.ref h0, .int p0, .int p1] (kPre dC dI [(cI, .int), (cZ, .boolean), (cB, .byte), (cJ, .long), (cM, .object RX2)] [(h0, .inr (11, [.ref d0, .ref d1, .ref d2, .ref d3, .ref d4, .ref d5, .ref d6, .ref d7, .ref d8, .ref d9])), (d8, .inr (2, [.int 0, .int 0, .int 0, .int 0, .int 0, .int 0, .int 0, .int 0, .int 0, .ref gn, .ref gf, .ref gp, .ref gs, .ref gr])), (gf, .inr (1, [.int 0, .ref b0, .ref b1, .ref b2, .ref b3, .ref b4, .ref b5, .ref b6, .ref b7, .ref b8]))] sz)) (va_Qi (fun (r : Int32) (_ : Unit) => r = (-2)) (fun _ _ => True) (va_A [(h0, .inr (11, [.ref d0, .ref d1, .ref d2, .ref d3, .ref d4, .ref d5, .ref d6, .ref d7, .ref d8, .ref d9])), (d8, .inr (2, [.int 0, .int 0, .int 0, .int 0, .int 0, .int 0, .int 0, .int 0, .int 0, .ref gn, .ref gf, .ref gp, .ref gs, .ref gr])), (gf, .inr (1, [.int 0, .ref b0, .ref b1, .ref b2, .ref b3, .ref b4, .ref b5, .ref b6, .ref b7, .ref b8]))] sz)) 0 0 (va_A [(h0, .inr (11, [.ref d0, .ref d1, .ref d2, .ref d3, .ref d4, .ref d5, .ref d6, .ref d7, .ref d8, .ref d9])), (d8, .inr (2, [.int 0, .int 0, .int 0, .int 0, .int 0, .int 0, .int 0, .int 0, .int 0, .ref gn, .ref gf, .ref gp, .ref gs, .ref gr])), (gf, .inr (1, [.int 0, .ref b0, .ref b1, .ref b2, .ref b3, .ref b4, .ref b5, .ref b6, .ref b7, .ref b8]))] sz) := by
  refine kEnter (by decide) (Nat.le_of_ble_eq_true rfl) ?_
  intro p e s m below meth c ls hx hb hr hml hown hlocks hin hwd hsz hP hK hD hl
  subst hsz
  generalize hAe : va_A [(h0, .inr (11, [.ref d0, .ref d1, .ref d2, .ref d3, .ref d4, .ref d5, .ref d6, .ref d7, .ref d8, .ref d9])), (d8, .inr (2, [.int 0, .int 0, .int 0, .int 0, .int 0, .int 0, .int 0, .int 0, .int 0, .ref gn, .ref gf, .ref gp, .ref gs, .ref gr])), (gf, .inr (1, [.int 0, .ref b0, .ref b1, .ref b2, .ref b3, .ref b4, .ref b5, .ref b6, .ref b7, .ref b8]))] s.heap.size = A at hD ⊢
  have hA : ∀ q : Nat, s.heap.size ≤ q → A q := fun q h => by rw [← hAe]; exact Or.inr h
  have hS : va_S A s.heap s.heap [] := va_S.rf
  have hl : lv_has ls 3 [(0, .ref h0), (1, .int p0), (2, .int p1)] := hl
  refine lv_aload_n hx hb dX11_follower_0 rfl (lv_at hl 0 rfl) ?_
  refine va_get (D := (dC, dI)) (ci := 11) (v := .ref d8) (C := RX11) (T := TX11) (N := 10) hx hb hwd inlX11 hown hK hP 0 rfl rfl 8 (by decide) (hwd _ kr2_19) (fun _ h9 => h9) rfl dX11_follower_1 ?_
  refine lv_iload_n hx hb dX11_follower_4 rfl (lv_at hl 1 rfl) ?_
  have hPc := hP.sub (ws' := [(d8, .inr (2, [.int 0, .int 0, .int 0, .int 0, .int 0, .int 0, .int 0, .int 0, .int 0, .ref gn, .ref gf, .ref gp, .ref gs, .ref gr])), (gf, .inr (1, [.int 0, .ref b0, .ref b1, .ref b2, .ref b3, .ref b4, .ref b5, .ref b6, .ref b7, .ref b8]))]) [1, 2] rfl
  have hDc := hD.sub (ws' := [(d8, .inr (2, [.int 0, .int 0, .int 0, .int 0, .int 0, .int 0, .int 0, .int 0, .int 0, .ref gn, .ref gf, .ref gp, .ref gs, .ref gr])), (gf, .inr (1, [.int 0, .ref b0, .ref b1, .ref b2, .ref b3, .ref b4, .ref b5, .ref b6, .ref b7, .ref b8]))]) [1, 2] (by decide) rfl
  have hFc := va_free (wc := [(d8, .inr (2, [.int 0, .int 0, .int 0, .int 0, .int 0, .int 0, .int 0, .int 0, .int 0, .ref gn, .ref gf, .ref gp, .ref gs, .ref gr])), (gf, .inr (1, [.int 0, .ref b0, .ref b1, .ref b2, .ref b3, .ref b4, .ref b5, .ref b6, .ref b7, .ref b8]))]) hD hS hA [1, 2] rfl
  refine va_calli (va_runV (As := [.int p0]) (rest := []) ⟨hx, hb, hml, hown, hwd⟩ (c_X2_hasFollower l dC dI cI cZ cB cJ cM d8 gn gf gp gs gr b0 b1 b2 b3 b4 b5 b6 b7 b8 p0 s.heap.size) (cwV 1 hwd (gV kr16_17 kr12_21 kr12_22 kr2_18 kr12_23) rfl rfl rfl (by decide +kernel) ⟨Nat.le_of_ble_eq_true rfl, Nat.le_of_ble_eq_true rfl⟩) (kPreV hPc hK hDc (ci := 2) (q0 := 0) rfl rfl) rfl rfl hl.1 rfl (lv_room (Nat.le_of_ble_eq_true rfl)) dX11_follower_5 ⟨Nat.le_of_ble_eq_true rfl, Nat.le_of_ble_eq_true rfl⟩) hS (fun q _ h => hFc q h) hFc (fun r1 u2 t H1 locs ht9 hvm hw hB hz1 hk1 hS => ?_)
  obtain ⟨hP1, hD1⟩ := hB
  rw [ht9] at hP1
  obtain ⟨hP, hD⟩ := va_join (wr := [(h0, .inr (11, [.ref d0, .ref d1, .ref d2, .ref d3, .ref d4, .ref d5, .ref d6, .ref d7, .ref d8, .ref d9]))]) (w1 := [(d8, .inr (2, [.int 0, .int 0, .int 0, .int 0, .int 0, .int 0, .int 0, .int 0, .int 0, .ref gn, .ref gf, .ref gp, .ref gs, .ref gr])), (gf, .inr (1, [.int 0, .ref b0, .ref b1, .ref b2, .ref b3, .ref b4, .ref b5, .ref b6, .ref b7, .ref b8]))]) hP hD [1, 2] [0] rfl rfl (by decide) (by decide) hk1 hFc hP1 hD1
  generalize H1 = H at hP hS ⊢
  have hP : va_P (dC, dI) vwCl [(h0, .inr (11, [.ref d0, .ref d1, .ref d2, .ref d3, .ref d4, .ref d5, .ref d6, .ref d7, .ref d8, .ref d9])), (d8, .inr (2, [.int 0, .int 0, .int 0, .int 0, .int 0, .int 0, .int 0, .int 0, .int 0, .ref gn, .ref gf, .ref gp, .ref gs, .ref gr])), (gf, .inr (1, [.int 0, .ref b0, .ref b1, .ref b2, .ref b3, .ref b4, .ref b5, .ref b6, .ref b7, .ref b8]))] H := hP
  have hD : va_D A [(h0, .inr (11, [.ref d0, .ref d1, .ref d2, .ref d3, .ref d4, .ref d5, .ref d6, .ref d7, .ref d8, .ref d9])), (d8, .inr (2, [.int 0, .int 0, .int 0, .int 0, .int 0, .int 0, .int 0, .int 0, .int 0, .ref gn, .ref gf, .ref gp, .ref gs, .ref gr])), (gf, .inr (1, [.int 0, .ref b0, .ref b1, .ref b2, .ref b3, .ref b4, .ref b5, .ref b6, .ref b7, .ref b8]))] := hD
  subst hw
  refine lv_if_ne (tgt := 14) hx hb dX11_follower_8 (by decide) (fun c3 => absurd c3 (by decide)) (fun c3 => ?_)
  refine lv_bipush (v := (-2)) hx hb dX11_follower_11 (by decide) ?_
  exact W.iret (v := (-2)) hx hb hr (fun t ht hW => ⟨⟨(-2), (), rfl, rfl, trivial⟩, hS.F ht⟩) hS.2.2 dX11_follower_13
set_option maxHeartbeats 4000000 in
set_option maxRecDepth 100000 in
theorem c_X11_pawl (l : Launch) (dC : Nat → ClassId) (dI : Nat → Nat → Nat) (cI cZ cB cJ cM : ClassId) (h0 d0 d1 d2 d3 d4 d5 d6 d7 d8 d9 gn gf gp gs gr e0 e1 e2 e3 : Nat) (p0 : Int32) (sz : Nat) : Met l yX11_pawl (kw yX11_pawl cX11_pawl 2 (some .int)) ({ frames := 1, cells := 0, slots := 0, locals := 21 }) (va_Pc [.ref h0, .int p0] (kPre dC dI [(cI, .int), (cZ, .boolean), (cB, .byte), (cJ, .long), (cM, .object RX2)] [(h0, .inr (11, [.ref d0, .ref d1, .ref d2, .ref d3, .ref d4, .ref d5, .ref d6, .ref d7, .ref d8, .ref d9])), (d8, .inr (2, [.int 0, .int 0, .int 0, .int 0, .int 0, .int 0, .int 0, .int 0, .int 0, .ref gn, .ref gf, .ref gp, .ref gs, .ref gr])), (gp, .inr (4, [.int 0, .ref e0, .ref e1, .ref e2, .ref e3]))] sz)) (va_Qi (fun (r : Int32) (_ : Unit) => r = (-2)) (fun _ _ => True) (va_A [(h0, .inr (11, [.ref d0, .ref d1, .ref d2, .ref d3, .ref d4, .ref d5, .ref d6, .ref d7, .ref d8, .ref d9])), (d8, .inr (2, [.int 0, .int 0, .int 0, .int 0, .int 0, .int 0, .int 0, .int 0, .int 0, .ref gn, .ref gf, .ref gp, .ref gs, .ref gr])), (gp, .inr (4, [.int 0, .ref e0, .ref e1, .ref e2, .ref e3]))] sz)) 0 0 (va_A [(h0, .inr (11, [.ref d0, .ref d1, .ref d2, .ref d3, .ref d4, .ref d5, .ref d6, .ref d7, .ref d8, .ref d9])), (d8, .inr (2, [.int 0, .int 0, .int 0, .int 0, .int 0, .int 0, .int 0, .int 0, .int 0, .ref gn, .ref gf, .ref gp, .ref gs, .ref gr])), (gp, .inr (4, [.int 0, .ref e0, .ref e1, .ref e2, .ref e3]))] sz) := by
  refine kEnter (by decide) (Nat.le_of_ble_eq_true rfl) ?_
  intro p e s m below meth c ls hx hb hr hml hown hlocks hin hwd hsz hP hK hD hl
  subst hsz
  generalize hAe : va_A [(h0, .inr (11, [.ref d0, .ref d1, .ref d2, .ref d3, .ref d4, .ref d5, .ref d6, .ref d7, .ref d8, .ref d9])), (d8, .inr (2, [.int 0, .int 0, .int 0, .int 0, .int 0, .int 0, .int 0, .int 0, .int 0, .ref gn, .ref gf, .ref gp, .ref gs, .ref gr])), (gp, .inr (4, [.int 0, .ref e0, .ref e1, .ref e2, .ref e3]))] s.heap.size = A at hD ⊢
  have hA : ∀ q : Nat, s.heap.size ≤ q → A q := fun q h => by rw [← hAe]; exact Or.inr h
  have hS : va_S A s.heap s.heap [] := va_S.rf
  have hl : lv_has ls 2 [(0, .ref h0), (1, .int p0)] := hl
  refine lv_aload_n hx hb dX11_pawl_0 rfl (lv_at hl 0 rfl) ?_
  refine va_get (D := (dC, dI)) (ci := 11) (v := .ref d8) (C := RX11) (T := TX11) (N := 10) hx hb hwd inlX11 hown hK hP 0 rfl rfl 8 (by decide) (hwd _ kr2_19) (fun _ h9 => h9) rfl dX11_pawl_1 ?_
  refine lv_iload_n hx hb dX11_pawl_4 rfl (lv_at hl 1 rfl) ?_
  have hPc := hP.sub (ws' := [(d8, .inr (2, [.int 0, .int 0, .int 0, .int 0, .int 0, .int 0, .int 0, .int 0, .int 0, .ref gn, .ref gf, .ref gp, .ref gs, .ref gr])), (gp, .inr (4, [.int 0, .ref e0, .ref e1, .ref e2, .ref e3]))]) [1, 2] rfl
  have hDc := hD.sub (ws' := [(d8, .inr (2, [.int 0, .int 0, .int 0, .int 0, .int 0, .int 0, .int 0, .int 0, .int 0, .ref gn, .ref gf, .ref gp, .ref gs, .ref gr])), (gp, .inr (4, [.int 0, .ref e0, .ref e1, .ref e2, .ref e3]))]) [1, 2] (by decide) rfl
  have hFc := va_free (wc := [(d8, .inr (2, [.int 0, .int 0, .int 0, .int 0, .int 0, .int 0, .int 0, .int 0, .int 0, .ref gn, .ref gf, .ref gp, .ref gs, .ref gr])), (gp, .inr (4, [.int 0, .ref e0, .ref e1, .ref e2, .ref e3]))]) hD hS hA [1, 2] rfl
  refine va_calli (va_runV (As := [.int p0]) (rest := []) ⟨hx, hb, hml, hown, hwd⟩ (c_X2_hasPawl l dC dI cI cZ cB cJ cM d8 gn gf gp gs gr e0 e1 e2 e3 p0 s.heap.size) (cwV 1 hwd (gV kr19_19 kr19_20 kr19_21 kr2_18 kr19_22) rfl rfl rfl (by decide +kernel) ⟨Nat.le_of_ble_eq_true rfl, Nat.le_of_ble_eq_true rfl⟩) (kPreV hPc hK hDc (ci := 2) (q0 := 0) rfl rfl) rfl rfl hl.1 rfl (lv_room (Nat.le_of_ble_eq_true rfl)) dX11_pawl_5 ⟨Nat.le_of_ble_eq_true rfl, Nat.le_of_ble_eq_true rfl⟩) hS (fun q _ h => hFc q h) hFc (fun r1 u2 t H1 locs ht9 hvm hw hB hz1 hk1 hS => ?_)
  obtain ⟨hP1, hD1⟩ := hB
  rw [ht9] at hP1
  obtain ⟨hP, hD⟩ := va_join (wr := [(h0, .inr (11, [.ref d0, .ref d1, .ref d2, .ref d3, .ref d4, .ref d5, .ref d6, .ref d7, .ref d8, .ref d9]))]) (w1 := [(d8, .inr (2, [.int 0, .int 0, .int 0, .int 0, .int 0, .int 0, .int 0, .int 0, .int 0, .ref gn, .ref gf, .ref gp, .ref gs, .ref gr])), (gp, .inr (4, [.int 0, .ref e0, .ref e1, .ref e2, .ref e3]))]) hP hD [1, 2] [0] rfl rfl (by decide) (by decide) hk1 hFc hP1 hD1
  generalize H1 = H at hP hS ⊢
  have hP : va_P (dC, dI) vwCl [(h0, .inr (11, [.ref d0, .ref d1, .ref d2, .ref d3, .ref d4, .ref d5, .ref d6, .ref d7, .ref d8, .ref d9])), (d8, .inr (2, [.int 0, .int 0, .int 0, .int 0, .int 0, .int 0, .int 0, .int 0, .int 0, .ref gn, .ref gf, .ref gp, .ref gs, .ref gr])), (gp, .inr (4, [.int 0, .ref e0, .ref e1, .ref e2, .ref e3]))] H := hP
  have hD : va_D A [(h0, .inr (11, [.ref d0, .ref d1, .ref d2, .ref d3, .ref d4, .ref d5, .ref d6, .ref d7, .ref d8, .ref d9])), (d8, .inr (2, [.int 0, .int 0, .int 0, .int 0, .int 0, .int 0, .int 0, .int 0, .int 0, .ref gn, .ref gf, .ref gp, .ref gs, .ref gr])), (gp, .inr (4, [.int 0, .ref e0, .ref e1, .ref e2, .ref e3]))] := hD
  subst hw
  refine lv_if_eq (tgt := 26) hx hb dX11_pawl_8 (by decide) (fun c3 => ?_) (fun c3 => absurd c3 (by decide))
  refine lv_bipush (v := (-2)) hx hb dX11_pawl_26 (by decide) ?_
  exact W.iret (v := (-2)) hx hb hr (fun t ht hW => ⟨⟨(-2), (), rfl, rfl, trivial⟩, hS.F ht⟩) hS.2.2 dX11_pawl_28
set_option maxHeartbeats 4000000 in
set_option maxRecDepth 100000 in
theorem c_X11_steady (l : Launch) (dC : Nat → ClassId) (dI : Nat → Nat → Nat) (cI cZ cB cJ cM : ClassId) (h0 d0 d1 d2 d3 d4 d5 d6 d7 d8 d9 gn gf gp gs gr b0 b1 b2 b3 b4 b5 b6 b7 b8 : Nat) (p0 p1 : Int32) (sz : Nat) : Met l yX11_steady (kw yX11_steady cX11_steady 3 (some .int)) ({ frames := 1, cells := 0, slots := 0, locals := 21 }) (va_Pc [.ref h0, .int p0, .int p1] (kPre dC dI [(cI, .int), (cZ, .boolean), (cB, .byte), (cJ, .long), (cM, .object RX2)] [(h0, .inr (11, [.ref d0, .ref d1, .ref d2, .ref d3, .ref d4, .ref d5, .ref d6, .ref d7, .ref d8, .ref d9])), (d8, .inr (2, [.int 0, .int 0, .int 0, .int 0, .int 0, .int 0, .int 0, .int 0, .int 0, .ref gn, .ref gf, .ref gp, .ref gs, .ref gr])), (gf, .inr (1, [.int 0, .ref b0, .ref b1, .ref b2, .ref b3, .ref b4, .ref b5, .ref b6, .ref b7, .ref b8]))] sz)) (va_Qi (fun (r : Int32) (_ : Unit) => r = (-2)) (fun _ _ => True) (va_A [(h0, .inr (11, [.ref d0, .ref d1, .ref d2, .ref d3, .ref d4, .ref d5, .ref d6, .ref d7, .ref d8, .ref d9])), (d8, .inr (2, [.int 0, .int 0, .int 0, .int 0, .int 0, .int 0, .int 0, .int 0, .int 0, .ref gn, .ref gf, .ref gp, .ref gs, .ref gr])), (gf, .inr (1, [.int 0, .ref b0, .ref b1, .ref b2, .ref b3, .ref b4, .ref b5, .ref b6, .ref b7, .ref b8]))] sz)) 0 0 (va_A [(h0, .inr (11, [.ref d0, .ref d1, .ref d2, .ref d3, .ref d4, .ref d5, .ref d6, .ref d7, .ref d8, .ref d9])), (d8, .inr (2, [.int 0, .int 0, .int 0, .int 0, .int 0, .int 0, .int 0, .int 0, .int 0, .ref gn, .ref gf, .ref gp, .ref gs, .ref gr])), (gf, .inr (1, [.int 0, .ref b0, .ref b1, .ref b2, .ref b3, .ref b4, .ref b5, .ref b6, .ref b7, .ref b8]))] sz) := by
  refine kEnter (by decide) (Nat.le_of_ble_eq_true rfl) ?_
  intro p e s m below meth c ls hx hb hr hml hown hlocks hin hwd hsz hP hK hD hl
  subst hsz
  generalize hAe : va_A [(h0, .inr (11, [.ref d0, .ref d1, .ref d2, .ref d3, .ref d4, .ref d5, .ref d6, .ref d7, .ref d8, .ref d9])), (d8, .inr (2, [.int 0, .int 0, .int 0, .int 0, .int 0, .int 0, .int 0, .int 0, .int 0, .ref gn, .ref gf, .ref gp, .ref gs, .ref gr])), (gf, .inr (1, [.int 0, .ref b0, .ref b1, .ref b2, .ref b3, .ref b4, .ref b5, .ref b6, .ref b7, .ref b8]))] s.heap.size = A at hD ⊢
  have hA : ∀ q : Nat, s.heap.size ≤ q → A q := fun q h => by rw [← hAe]; exact Or.inr h
  have hS : va_S A s.heap s.heap [] := va_S.rf
  have hl : lv_has ls 3 [(0, .ref h0), (1, .int p0), (2, .int p1)] := hl
  refine lv_aload_n hx hb dX11_steady_0 rfl (lv_at hl 0 rfl) ?_
  refine va_get (D := (dC, dI)) (ci := 11) (v := .ref d8) (C := RX11) (T := TX11) (N := 10) hx hb hwd inlX11 hown hK hP 0 rfl rfl 8 (by decide) (hwd _ kr2_19) (fun _ h9 => h9) rfl dX11_steady_1 ?_
  refine lv_iload_n hx hb dX11_steady_4 rfl (lv_at hl 1 rfl) ?_
  have hPc := hP.sub (ws' := [(d8, .inr (2, [.int 0, .int 0, .int 0, .int 0, .int 0, .int 0, .int 0, .int 0, .int 0, .ref gn, .ref gf, .ref gp, .ref gs, .ref gr])), (gf, .inr (1, [.int 0, .ref b0, .ref b1, .ref b2, .ref b3, .ref b4, .ref b5, .ref b6, .ref b7, .ref b8]))]) [1, 2] rfl
  have hDc := hD.sub (ws' := [(d8, .inr (2, [.int 0, .int 0, .int 0, .int 0, .int 0, .int 0, .int 0, .int 0, .int 0, .ref gn, .ref gf, .ref gp, .ref gs, .ref gr])), (gf, .inr (1, [.int 0, .ref b0, .ref b1, .ref b2, .ref b3, .ref b4, .ref b5, .ref b6, .ref b7, .ref b8]))]) [1, 2] (by decide) rfl
  have hFc := va_free (wc := [(d8, .inr (2, [.int 0, .int 0, .int 0, .int 0, .int 0, .int 0, .int 0, .int 0, .int 0, .ref gn, .ref gf, .ref gp, .ref gs, .ref gr])), (gf, .inr (1, [.int 0, .ref b0, .ref b1, .ref b2, .ref b3, .ref b4, .ref b5, .ref b6, .ref b7, .ref b8]))]) hD hS hA [1, 2] rfl
  refine va_calli (va_runV (As := [.int p0]) (rest := []) ⟨hx, hb, hml, hown, hwd⟩ (c_X2_hasFollower l dC dI cI cZ cB cJ cM d8 gn gf gp gs gr b0 b1 b2 b3 b4 b5 b6 b7 b8 p0 s.heap.size) (cwV 1 hwd (gV kr16_17 kr12_21 kr12_22 kr2_18 kr12_23) rfl rfl rfl (by decide +kernel) ⟨Nat.le_of_ble_eq_true rfl, Nat.le_of_ble_eq_true rfl⟩) (kPreV hPc hK hDc (ci := 2) (q0 := 0) rfl rfl) rfl rfl hl.1 rfl (lv_room (Nat.le_of_ble_eq_true rfl)) dX11_steady_5 ⟨Nat.le_of_ble_eq_true rfl, Nat.le_of_ble_eq_true rfl⟩) hS (fun q _ h => hFc q h) hFc (fun r1 u2 t H1 locs ht9 hvm hw hB hz1 hk1 hS => ?_)
  obtain ⟨hP1, hD1⟩ := hB
  rw [ht9] at hP1
  obtain ⟨hP, hD⟩ := va_join (wr := [(h0, .inr (11, [.ref d0, .ref d1, .ref d2, .ref d3, .ref d4, .ref d5, .ref d6, .ref d7, .ref d8, .ref d9]))]) (w1 := [(d8, .inr (2, [.int 0, .int 0, .int 0, .int 0, .int 0, .int 0, .int 0, .int 0, .int 0, .ref gn, .ref gf, .ref gp, .ref gs, .ref gr])), (gf, .inr (1, [.int 0, .ref b0, .ref b1, .ref b2, .ref b3, .ref b4, .ref b5, .ref b6, .ref b7, .ref b8]))]) hP hD [1, 2] [0] rfl rfl (by decide) (by decide) hk1 hFc hP1 hD1
  generalize H1 = H at hP hS ⊢
  have hP : va_P (dC, dI) vwCl [(h0, .inr (11, [.ref d0, .ref d1, .ref d2, .ref d3, .ref d4, .ref d5, .ref d6, .ref d7, .ref d8, .ref d9])), (d8, .inr (2, [.int 0, .int 0, .int 0, .int 0, .int 0, .int 0, .int 0, .int 0, .int 0, .ref gn, .ref gf, .ref gp, .ref gs, .ref gr])), (gf, .inr (1, [.int 0, .ref b0, .ref b1, .ref b2, .ref b3, .ref b4, .ref b5, .ref b6, .ref b7, .ref b8]))] H := hP
  have hD : va_D A [(h0, .inr (11, [.ref d0, .ref d1, .ref d2, .ref d3, .ref d4, .ref d5, .ref d6, .ref d7, .ref d8, .ref d9])), (d8, .inr (2, [.int 0, .int 0, .int 0, .int 0, .int 0, .int 0, .int 0, .int 0, .int 0, .ref gn, .ref gf, .ref gp, .ref gs, .ref gr])), (gf, .inr (1, [.int 0, .ref b0, .ref b1, .ref b2, .ref b3, .ref b4, .ref b5, .ref b6, .ref b7, .ref b8]))] := hD
  subst hw
  refine lv_if_eq (tgt := 22) hx hb dX11_steady_8 (by decide) (fun c3 => ?_) (fun c3 => absurd c3 (by decide))
  refine lv_bipush (v := (-2)) hx hb dX11_steady_22 (by decide) ?_
  exact W.iret (v := (-2)) hx hb hr (fun t ht hW => ⟨⟨(-2), (), rfl, rfl, trivial⟩, hS.F ht⟩) hS.2.2 dX11_steady_24
set_option maxHeartbeats 4000000 in
set_option maxRecDepth 100000 in
theorem c_X11_leaves (l : Launch) (dC : Nat → ClassId) (dI : Nat → Nat → Nat) (cI cZ cB cJ cM : ClassId) (h0 d0 d1 d2 d3 d4 d5 d6 d7 d8 d9 gn gf gp gs gr b0 b1 b2 b3 b4 b5 b6 b7 b8 : Nat) (p0 p1 : Int32) (sz : Nat) : Met l yX11_leaves (kw yX11_leaves cX11_leaves 6 (some .int)) ({ frames := 1, cells := 0, slots := 0, locals := 21 }) (va_Pc [.ref h0, .int p0, .int p1] (kPre dC dI [(cI, .int), (cZ, .boolean), (cB, .byte), (cJ, .long), (cM, .object RX2)] [(h0, .inr (11, [.ref d0, .ref d1, .ref d2, .ref d3, .ref d4, .ref d5, .ref d6, .ref d7, .ref d8, .ref d9])), (d8, .inr (2, [.int 0, .int 0, .int 0, .int 0, .int 0, .int 0, .int 0, .int 0, .int 0, .ref gn, .ref gf, .ref gp, .ref gs, .ref gr])), (gf, .inr (1, [.int 0, .ref b0, .ref b1, .ref b2, .ref b3, .ref b4, .ref b5, .ref b6, .ref b7, .ref b8]))] sz)) (va_Qi (fun (r : Int32) (_ : Unit) => r = (-2)) (fun _ _ => True) (va_A [(h0, .inr (11, [.ref d0, .ref d1, .ref d2, .ref d3, .ref d4, .ref d5, .ref d6, .ref d7, .ref d8, .ref d9])), (d8, .inr (2, [.int 0, .int 0, .int 0, .int 0, .int 0, .int 0, .int 0, .int 0, .int 0, .ref gn, .ref gf, .ref gp, .ref gs, .ref gr])), (gf, .inr (1, [.int 0, .ref b0, .ref b1, .ref b2, .ref b3, .ref b4, .ref b5, .ref b6, .ref b7, .ref b8]))] sz)) 0 0 (va_A [(h0, .inr (11, [.ref d0, .ref d1, .ref d2, .ref d3, .ref d4, .ref d5, .ref d6, .ref d7, .ref d8, .ref d9])), (d8, .inr (2, [.int 0, .int 0, .int 0, .int 0, .int 0, .int 0, .int 0, .int 0, .int 0, .ref gn, .ref gf, .ref gp, .ref gs, .ref gr])), (gf, .inr (1, [.int 0, .ref b0, .ref b1, .ref b2, .ref b3, .ref b4, .ref b5, .ref b6, .ref b7, .ref b8]))] sz) := by
  refine kEnter (by decide) (Nat.le_of_ble_eq_true rfl) ?_
  intro p e s m below meth c ls hx hb hr hml hown hlocks hin hwd hsz hP hK hD hl
  subst hsz
  generalize hAe : va_A [(h0, .inr (11, [.ref d0, .ref d1, .ref d2, .ref d3, .ref d4, .ref d5, .ref d6, .ref d7, .ref d8, .ref d9])), (d8, .inr (2, [.int 0, .int 0, .int 0, .int 0, .int 0, .int 0, .int 0, .int 0, .int 0, .ref gn, .ref gf, .ref gp, .ref gs, .ref gr])), (gf, .inr (1, [.int 0, .ref b0, .ref b1, .ref b2, .ref b3, .ref b4, .ref b5, .ref b6, .ref b7, .ref b8]))] s.heap.size = A at hD ⊢
  have hA : ∀ q : Nat, s.heap.size ≤ q → A q := fun q h => by rw [← hAe]; exact Or.inr h
  have hS : va_S A s.heap s.heap [] := va_S.rf
  have hl : lv_has ls 6 [(0, .ref h0), (1, .int p0), (2, .int p1)] := hl
  refine lv_aload_n hx hb dX11_leaves_0 rfl (lv_at hl 0 rfl) ?_
  refine va_get (D := (dC, dI)) (ci := 11) (v := .ref d8) (C := RX11) (T := TX11) (N := 10) hx hb hwd inlX11 hown hK hP 0 rfl rfl 8 (by decide) (hwd _ kr2_19) (fun _ h9 => h9) rfl dX11_leaves_1 ?_
  refine lv_iload_n hx hb dX11_leaves_4 rfl (lv_at hl 1 rfl) ?_
  have hPc := hP.sub (ws' := [(d8, .inr (2, [.int 0, .int 0, .int 0, .int 0, .int 0, .int 0, .int 0, .int 0, .int 0, .ref gn, .ref gf, .ref gp, .ref gs, .ref gr])), (gf, .inr (1, [.int 0, .ref b0, .ref b1, .ref b2, .ref b3, .ref b4, .ref b5, .ref b6, .ref b7, .ref b8]))]) [1, 2] rfl
  have hDc := hD.sub (ws' := [(d8, .inr (2, [.int 0, .int 0, .int 0, .int 0, .int 0, .int 0, .int 0, .int 0, .int 0, .ref gn, .ref gf, .ref gp, .ref gs, .ref gr])), (gf, .inr (1, [.int 0, .ref b0, .ref b1, .ref b2, .ref b3, .ref b4, .ref b5, .ref b6, .ref b7, .ref b8]))]) [1, 2] (by decide) rfl
  have hFc := va_free (wc := [(d8, .inr (2, [.int 0, .int 0, .int 0, .int 0, .int 0, .int 0, .int 0, .int 0, .int 0, .ref gn, .ref gf, .ref gp, .ref gs, .ref gr])), (gf, .inr (1, [.int 0, .ref b0, .ref b1, .ref b2, .ref b3, .ref b4, .ref b5, .ref b6, .ref b7, .ref b8]))]) hD hS hA [1, 2] rfl
  refine va_calli (va_runV (As := [.int p0]) (rest := []) ⟨hx, hb, hml, hown, hwd⟩ (c_X2_hasFollower l dC dI cI cZ cB cJ cM d8 gn gf gp gs gr b0 b1 b2 b3 b4 b5 b6 b7 b8 p0 s.heap.size) (cwV 1 hwd (gV kr16_17 kr12_21 kr12_22 kr2_18 kr12_23) rfl rfl rfl (by decide +kernel) ⟨Nat.le_of_ble_eq_true rfl, Nat.le_of_ble_eq_true rfl⟩) (kPreV hPc hK hDc (ci := 2) (q0 := 0) rfl rfl) rfl rfl hl.1 rfl (lv_room (Nat.le_of_ble_eq_true rfl)) dX11_leaves_5 ⟨Nat.le_of_ble_eq_true rfl, Nat.le_of_ble_eq_true rfl⟩) hS (fun q _ h => hFc q h) hFc (fun r1 u2 t H1 locs ht9 hvm hw hB hz1 hk1 hS => ?_)
  obtain ⟨hP1, hD1⟩ := hB
  rw [ht9] at hP1
  obtain ⟨hP, hD⟩ := va_join (wr := [(h0, .inr (11, [.ref d0, .ref d1, .ref d2, .ref d3, .ref d4, .ref d5, .ref d6, .ref d7, .ref d8, .ref d9]))]) (w1 := [(d8, .inr (2, [.int 0, .int 0, .int 0, .int 0, .int 0, .int 0, .int 0, .int 0, .int 0, .ref gn, .ref gf, .ref gp, .ref gs, .ref gr])), (gf, .inr (1, [.int 0, .ref b0, .ref b1, .ref b2, .ref b3, .ref b4, .ref b5, .ref b6, .ref b7, .ref b8]))]) hP hD [1, 2] [0] rfl rfl (by decide) (by decide) hk1 hFc hP1 hD1
  generalize H1 = H at hP hS ⊢
  have hP : va_P (dC, dI) vwCl [(h0, .inr (11, [.ref d0, .ref d1, .ref d2, .ref d3, .ref d4, .ref d5, .ref d6, .ref d7, .ref d8, .ref d9])), (d8, .inr (2, [.int 0, .int 0, .int 0, .int 0, .int 0, .int 0, .int 0, .int 0, .int 0, .ref gn, .ref gf, .ref gp, .ref gs, .ref gr])), (gf, .inr (1, [.int 0, .ref b0, .ref b1, .ref b2, .ref b3, .ref b4, .ref b5, .ref b6, .ref b7, .ref b8]))] H := hP
  have hD : va_D A [(h0, .inr (11, [.ref d0, .ref d1, .ref d2, .ref d3, .ref d4, .ref d5, .ref d6, .ref d7, .ref d8, .ref d9])), (d8, .inr (2, [.int 0, .int 0, .int 0, .int 0, .int 0, .int 0, .int 0, .int 0, .int 0, .ref gn, .ref gf, .ref gp, .ref gs, .ref gr])), (gf, .inr (1, [.int 0, .ref b0, .ref b1, .ref b2, .ref b3, .ref b4, .ref b5, .ref b6, .ref b7, .ref b8]))] := hD
  subst hw
  refine lv_if_eq (tgt := 20) hx hb dX11_leaves_8 (by decide) (fun c3 => ?_) (fun c3 => absurd c3 (by decide))
  refine lv_bipush (v := (-2)) hx hb dX11_leaves_20 (by decide) ?_
  exact W.iret (v := (-2)) hx hb hr (fun t ht hW => ⟨⟨(-2), (), rfl, rfl, trivial⟩, hS.F ht⟩) hS.2.2 dX11_leaves_22
set_option maxHeartbeats 4000000 in
set_option maxRecDepth 100000 in
theorem c_X11_spring (l : Launch) (dC : Nat → ClassId) (dI : Nat → Nat → Nat) (cI cZ cB cJ cM : ClassId) (h0 d0 d1 d2 d3 d4 d5 d6 d7 d8 d9 gn gf gp gs gr b0 b1 b2 b3 b4 b5 b6 b7 b8 : Nat) (p0 : Int32) (sz : Nat) : Met l yX11_spring (kw yX11_spring cX11_spring 4 (some .int)) ({ frames := 1, cells := 0, slots := 0, locals := 21 }) (va_Pc [.ref h0, .int p0] (kPre dC dI [(cI, .int), (cZ, .boolean), (cB, .byte), (cJ, .long), (cM, .object RX2)] [(h0, .inr (11, [.ref d0, .ref d1, .ref d2, .ref d3, .ref d4, .ref d5, .ref d6, .ref d7, .ref d8, .ref d9])), (d8, .inr (2, [.int 0, .int 0, .int 0, .int 0, .int 0, .int 0, .int 0, .int 0, .int 0, .ref gn, .ref gf, .ref gp, .ref gs, .ref gr])), (gf, .inr (1, [.int 0, .ref b0, .ref b1, .ref b2, .ref b3, .ref b4, .ref b5, .ref b6, .ref b7, .ref b8]))] sz)) (va_Qi (fun (r : Int32) (_ : Unit) => r = (-2)) (fun _ _ => True) (va_A [(h0, .inr (11, [.ref d0, .ref d1, .ref d2, .ref d3, .ref d4, .ref d5, .ref d6, .ref d7, .ref d8, .ref d9])), (d8, .inr (2, [.int 0, .int 0, .int 0, .int 0, .int 0, .int 0, .int 0, .int 0, .int 0, .ref gn, .ref gf, .ref gp, .ref gs, .ref gr])), (gf, .inr (1, [.int 0, .ref b0, .ref b1, .ref b2, .ref b3, .ref b4, .ref b5, .ref b6, .ref b7, .ref b8]))] sz)) 0 0 (va_A [(h0, .inr (11, [.ref d0, .ref d1, .ref d2, .ref d3, .ref d4, .ref d5, .ref d6, .ref d7, .ref d8, .ref d9])), (d8, .inr (2, [.int 0, .int 0, .int 0, .int 0, .int 0, .int 0, .int 0, .int 0, .int 0, .ref gn, .ref gf, .ref gp, .ref gs, .ref gr])), (gf, .inr (1, [.int 0, .ref b0, .ref b1, .ref b2, .ref b3, .ref b4, .ref b5, .ref b6, .ref b7, .ref b8]))] sz) := by
  refine kEnter (by decide) (Nat.le_of_ble_eq_true rfl) ?_
  intro p e s m below meth c ls hx hb hr hml hown hlocks hin hwd hsz hP hK hD hl
  subst hsz
  generalize hAe : va_A [(h0, .inr (11, [.ref d0, .ref d1, .ref d2, .ref d3, .ref d4, .ref d5, .ref d6, .ref d7, .ref d8, .ref d9])), (d8, .inr (2, [.int 0, .int 0, .int 0, .int 0, .int 0, .int 0, .int 0, .int 0, .int 0, .ref gn, .ref gf, .ref gp, .ref gs, .ref gr])), (gf, .inr (1, [.int 0, .ref b0, .ref b1, .ref b2, .ref b3, .ref b4, .ref b5, .ref b6, .ref b7, .ref b8]))] s.heap.size = A at hD ⊢
  have hA : ∀ q : Nat, s.heap.size ≤ q → A q := fun q h => by rw [← hAe]; exact Or.inr h
  have hS : va_S A s.heap s.heap [] := va_S.rf
  have hl : lv_has ls 4 [(0, .ref h0), (1, .int p0)] := hl
  refine lv_aload_n hx hb dX11_spring_0 rfl (lv_at hl 0 rfl) ?_
  refine va_get (D := (dC, dI)) (ci := 11) (v := .ref d8) (C := RX11) (T := TX11) (N := 10) hx hb hwd inlX11 hown hK hP 0 rfl rfl 8 (by decide) (hwd _ kr2_19) (fun _ h9 => h9) rfl dX11_spring_1 ?_
  refine lv_iload_n hx hb dX11_spring_4 rfl (lv_at hl 1 rfl) ?_
  have hPc := hP.sub (ws' := [(d8, .inr (2, [.int 0, .int 0, .int 0, .int 0, .int 0, .int 0, .int 0, .int 0, .int 0, .ref gn, .ref gf, .ref gp, .ref gs, .ref gr])), (gf, .inr (1, [.int 0, .ref b0, .ref b1, .ref b2, .ref b3, .ref b4, .ref b5, .ref b6, .ref b7, .ref b8]))]) [1, 2] rfl
  have hDc := hD.sub (ws' := [(d8, .inr (2, [.int 0, .int 0, .int 0, .int 0, .int 0, .int 0, .int 0, .int 0, .int 0, .ref gn, .ref gf, .ref gp, .ref gs, .ref gr])), (gf, .inr (1, [.int 0, .ref b0, .ref b1, .ref b2, .ref b3, .ref b4, .ref b5, .ref b6, .ref b7, .ref b8]))]) [1, 2] (by decide) rfl
  have hFc := va_free (wc := [(d8, .inr (2, [.int 0, .int 0, .int 0, .int 0, .int 0, .int 0, .int 0, .int 0, .int 0, .ref gn, .ref gf, .ref gp, .ref gs, .ref gr])), (gf, .inr (1, [.int 0, .ref b0, .ref b1, .ref b2, .ref b3, .ref b4, .ref b5, .ref b6, .ref b7, .ref b8]))]) hD hS hA [1, 2] rfl
  refine va_calli (va_runV (As := [.int p0]) (rest := []) ⟨hx, hb, hml, hown, hwd⟩ (c_X2_hasFollower l dC dI cI cZ cB cJ cM d8 gn gf gp gs gr b0 b1 b2 b3 b4 b5 b6 b7 b8 p0 s.heap.size) (cwV 1 hwd (gV kr16_17 kr12_21 kr12_22 kr2_18 kr12_23) rfl rfl rfl (by decide +kernel) ⟨Nat.le_of_ble_eq_true rfl, Nat.le_of_ble_eq_true rfl⟩) (kPreV hPc hK hDc (ci := 2) (q0 := 0) rfl rfl) rfl rfl hl.1 rfl (lv_room (Nat.le_of_ble_eq_true rfl)) dX11_spring_5 ⟨Nat.le_of_ble_eq_true rfl, Nat.le_of_ble_eq_true rfl⟩) hS (fun q _ h => hFc q h) hFc (fun r1 u2 t H1 locs ht9 hvm hw hB hz1 hk1 hS => ?_)
  obtain ⟨hP1, hD1⟩ := hB
  rw [ht9] at hP1
  obtain ⟨hP, hD⟩ := va_join (wr := [(h0, .inr (11, [.ref d0, .ref d1, .ref d2, .ref d3, .ref d4, .ref d5, .ref d6, .ref d7, .ref d8, .ref d9]))]) (w1 := [(d8, .inr (2, [.int 0, .int 0, .int 0, .int 0, .int 0, .int 0, .int 0, .int 0, .int 0, .ref gn, .ref gf, .ref gp, .ref gs, .ref gr])), (gf, .inr (1, [.int 0, .ref b0, .ref b1, .ref b2, .ref b3, .ref b4, .ref b5, .ref b6, .ref b7, .ref b8]))]) hP hD [1, 2] [0] rfl rfl (by decide) (by decide) hk1 hFc hP1 hD1
  generalize H1 = H at hP hS ⊢
  have hP : va_P (dC, dI) vwCl [(h0, .inr (11, [.ref d0, .ref d1, .ref d2, .ref d3, .ref d4, .ref d5, .ref d6, .ref d7, .ref d8, .ref d9])), (d8, .inr (2, [.int 0, .int 0, .int 0, .int 0, .int 0, .int 0, .int 0, .int 0, .int 0, .ref gn, .ref gf, .ref gp, .ref gs, .ref gr])), (gf, .inr (1, [.int 0, .ref b0, .ref b1, .ref b2, .ref b3, .ref b4, .ref b5, .ref b6, .ref b7, .ref b8]))] H := hP
  have hD : va_D A [(h0, .inr (11, [.ref d0, .ref d1, .ref d2, .ref d3, .ref d4, .ref d5, .ref d6, .ref d7, .ref d8, .ref d9])), (d8, .inr (2, [.int 0, .int 0, .int 0, .int 0, .int 0, .int 0, .int 0, .int 0, .int 0, .ref gn, .ref gf, .ref gp, .ref gs, .ref gr])), (gf, .inr (1, [.int 0, .ref b0, .ref b1, .ref b2, .ref b3, .ref b4, .ref b5, .ref b6, .ref b7, .ref b8]))] := hD
  subst hw
  refine lv_if_ne (tgt := 14) hx hb dX11_spring_8 (by decide) (fun c3 => absurd c3 (by decide)) (fun c3 => ?_)
  refine lv_bipush (v := (-2)) hx hb dX11_spring_11 (by decide) ?_
  exact W.iret (v := (-2)) hx hb hr (fun t ht hW => ⟨⟨(-2), (), rfl, rfl, trivial⟩, hS.F ht⟩) hS.2.2 dX11_spring_13
set_option maxHeartbeats 4000000 in
set_option maxRecDepth 100000 in
theorem c_X11_work (l : Launch) (dC : Nat → ClassId) (dI : Nat → Nat → Nat) (cI cZ cB cJ cM : ClassId) (h0 d0 d1 d2 d3 d4 d5 d6 d7 d8 d9 gn gf gp gs gr : Nat)  (sz : Nat) : Met l yX11_work (kw yX11_work cX11_work 3 (some .int)) ({ frames := 1, cells := 0, slots := 0, locals := 20 }) (va_Pc [.ref h0] (kPre dC dI [(cI, .int), (cZ, .boolean), (cB, .byte), (cJ, .long), (cM, .object RX2)] [(h0, .inr (11, [.ref d0, .ref d1, .ref d2, .ref d3, .ref d4, .ref d5, .ref d6, .ref d7, .ref d8, .ref d9])), (d8, .inr (2, [.int 0, .int 0, .int 0, .int 0, .int 0, .int 0, .int 0, .int 0, .int 0, .ref gn, .ref gf, .ref gp, .ref gs, .ref gr]))] sz)) (va_Qi (fun (r : Int32) (_ : Unit) => r = (-2)) (fun _ _ => True) (va_A [(h0, .inr (11, [.ref d0, .ref d1, .ref d2, .ref d3, .ref d4, .ref d5, .ref d6, .ref d7, .ref d8, .ref d9])), (d8, .inr (2, [.int 0, .int 0, .int 0, .int 0, .int 0, .int 0, .int 0, .int 0, .int 0, .ref gn, .ref gf, .ref gp, .ref gs, .ref gr]))] sz)) 0 0 (va_A [(h0, .inr (11, [.ref d0, .ref d1, .ref d2, .ref d3, .ref d4, .ref d5, .ref d6, .ref d7, .ref d8, .ref d9])), (d8, .inr (2, [.int 0, .int 0, .int 0, .int 0, .int 0, .int 0, .int 0, .int 0, .int 0, .ref gn, .ref gf, .ref gp, .ref gs, .ref gr]))] sz) := by
  refine kEnter (by decide) (Nat.le_of_ble_eq_true rfl) ?_
  intro p e s m below meth c ls hx hb hr hml hown hlocks hin hwd hsz hP hK hD hl
  subst hsz
  generalize hAe : va_A [(h0, .inr (11, [.ref d0, .ref d1, .ref d2, .ref d3, .ref d4, .ref d5, .ref d6, .ref d7, .ref d8, .ref d9])), (d8, .inr (2, [.int 0, .int 0, .int 0, .int 0, .int 0, .int 0, .int 0, .int 0, .int 0, .ref gn, .ref gf, .ref gp, .ref gs, .ref gr]))] s.heap.size = A at hD ⊢
  have hA : ∀ q : Nat, s.heap.size ≤ q → A q := fun q h => by rw [← hAe]; exact Or.inr h
  have hS : va_S A s.heap s.heap [] := va_S.rf
  have hl : lv_has ls 3 [(0, .ref h0)] := hl
  refine lv_aload_n hx hb dX11_work_0 rfl (lv_at hl 0 rfl) ?_
  refine va_get (D := (dC, dI)) (ci := 11) (v := .ref d8) (C := RX11) (T := TX11) (N := 10) hx hb hwd inlX11 hown hK hP 0 rfl rfl 8 (by decide) (hwd _ kr2_19) (fun _ h9 => h9) rfl dX11_work_1 ?_
  have hPc := hP.sub (ws' := [(d8, .inr (2, [.int 0, .int 0, .int 0, .int 0, .int 0, .int 0, .int 0, .int 0, .int 0, .ref gn, .ref gf, .ref gp, .ref gs, .ref gr]))]) [1] rfl
  have hDc := hD.sub (ws' := [(d8, .inr (2, [.int 0, .int 0, .int 0, .int 0, .int 0, .int 0, .int 0, .int 0, .int 0, .ref gn, .ref gf, .ref gp, .ref gs, .ref gr]))]) [1] (by decide) rfl
  have hFc := va_free (wc := [(d8, .inr (2, [.int 0, .int 0, .int 0, .int 0, .int 0, .int 0, .int 0, .int 0, .int 0, .ref gn, .ref gf, .ref gp, .ref gs, .ref gr]))]) hD hS hA [1] rfl
  refine va_calli (va_runV (As := []) (rest := []) ⟨hx, hb, hml, hown, hwd⟩ (c_X2_isTold l dC dI cI cZ cB cJ cM d8 gn gf gp gs gr s.heap.size) (cwV 0 hwd (gV kr14_23 kr15_0 kr15_1 kr2_18 kr15_2) rfl rfl rfl (by decide +kernel) ⟨Nat.le_of_ble_eq_true rfl, Nat.le_of_ble_eq_true rfl⟩) (kPreV hPc hK hDc (ci := 2) (q0 := 0) rfl rfl) rfl rfl hl.1 rfl (lv_room (Nat.le_of_ble_eq_true rfl)) dX11_work_4 ⟨Nat.le_of_ble_eq_true rfl, Nat.le_of_ble_eq_true rfl⟩) hS (fun q _ h => hFc q h) hFc (fun r1 u2 t H1 locs ht9 hvm hw hB hz1 hk1 hS => ?_)
  obtain ⟨hP1, hD1⟩ := hB
  rw [ht9] at hP1
  obtain ⟨hP, hD⟩ := va_join (wr := [(h0, .inr (11, [.ref d0, .ref d1, .ref d2, .ref d3, .ref d4, .ref d5, .ref d6, .ref d7, .ref d8, .ref d9]))]) (w1 := [(d8, .inr (2, [.int 0, .int 0, .int 0, .int 0, .int 0, .int 0, .int 0, .int 0, .int 0, .ref gn, .ref gf, .ref gp, .ref gs, .ref gr]))]) hP hD [1] [0] rfl rfl (by decide) (by decide) hk1 hFc hP1 hD1
  generalize H1 = H at hP hS ⊢
  have hP : va_P (dC, dI) vwCl [(h0, .inr (11, [.ref d0, .ref d1, .ref d2, .ref d3, .ref d4, .ref d5, .ref d6, .ref d7, .ref d8, .ref d9])), (d8, .inr (2, [.int 0, .int 0, .int 0, .int 0, .int 0, .int 0, .int 0, .int 0, .int 0, .ref gn, .ref gf, .ref gp, .ref gs, .ref gr]))] H := hP
  have hD : va_D A [(h0, .inr (11, [.ref d0, .ref d1, .ref d2, .ref d3, .ref d4, .ref d5, .ref d6, .ref d7, .ref d8, .ref d9])), (d8, .inr (2, [.int 0, .int 0, .int 0, .int 0, .int 0, .int 0, .int 0, .int 0, .int 0, .ref gn, .ref gf, .ref gp, .ref gs, .ref gr]))] := hD
  subst hw
  refine lv_if_ne (tgt := 13) hx hb dX11_work_7 (by decide) (fun c3 => absurd c3 (by decide)) (fun c3 => ?_)
  refine lv_bipush (v := (-2)) hx hb dX11_work_10 (by decide) ?_
  exact W.iret (v := (-2)) hx hb hr (fun t ht hW => ⟨⟨(-2), (), rfl, rfl, trivial⟩, hS.F ht⟩) hS.2.2 dX11_work_12
set_option maxHeartbeats 4000000 in
set_option maxRecDepth 100000 in
theorem c_X11_clicks (l : Launch) (dC : Nat → ClassId) (dI : Nat → Nat → Nat) (cI cZ cB cJ cM : ClassId) (h0 d0 d1 d2 d3 d4 d5 d6 d7 d8 d9 gn gf gp gs gr e0 e1 e2 e3 : Nat) (p0 : Int32) (sz : Nat) : Met l yX11_clicks (kw yX11_clicks cX11_clicks 2 (some .int)) ({ frames := 1, cells := 0, slots := 0, locals := 21 }) (va_Pc [.ref h0, .int p0] (kPre dC dI [(cI, .int), (cZ, .boolean), (cB, .byte), (cJ, .long), (cM, .object RX2)] [(h0, .inr (11, [.ref d0, .ref d1, .ref d2, .ref d3, .ref d4, .ref d5, .ref d6, .ref d7, .ref d8, .ref d9])), (d8, .inr (2, [.int 0, .int 0, .int 0, .int 0, .int 0, .int 0, .int 0, .int 0, .int 0, .ref gn, .ref gf, .ref gp, .ref gs, .ref gr])), (gp, .inr (4, [.int 0, .ref e0, .ref e1, .ref e2, .ref e3]))] sz)) (va_Qi (fun (r : Int32) (_ : Unit) => r = (-2)) (fun _ _ => True) (va_A [(h0, .inr (11, [.ref d0, .ref d1, .ref d2, .ref d3, .ref d4, .ref d5, .ref d6, .ref d7, .ref d8, .ref d9])), (d8, .inr (2, [.int 0, .int 0, .int 0, .int 0, .int 0, .int 0, .int 0, .int 0, .int 0, .ref gn, .ref gf, .ref gp, .ref gs, .ref gr])), (gp, .inr (4, [.int 0, .ref e0, .ref e1, .ref e2, .ref e3]))] sz)) 0 0 (va_A [(h0, .inr (11, [.ref d0, .ref d1, .ref d2, .ref d3, .ref d4, .ref d5, .ref d6, .ref d7, .ref d8, .ref d9])), (d8, .inr (2, [.int 0, .int 0, .int 0, .int 0, .int 0, .int 0, .int 0, .int 0, .int 0, .ref gn, .ref gf, .ref gp, .ref gs, .ref gr])), (gp, .inr (4, [.int 0, .ref e0, .ref e1, .ref e2, .ref e3]))] sz) := by
  refine kEnter (by decide) (Nat.le_of_ble_eq_true rfl) ?_
  intro p e s m below meth c ls hx hb hr hml hown hlocks hin hwd hsz hP hK hD hl
  subst hsz
  generalize hAe : va_A [(h0, .inr (11, [.ref d0, .ref d1, .ref d2, .ref d3, .ref d4, .ref d5, .ref d6, .ref d7, .ref d8, .ref d9])), (d8, .inr (2, [.int 0, .int 0, .int 0, .int 0, .int 0, .int 0, .int 0, .int 0, .int 0, .ref gn, .ref gf, .ref gp, .ref gs, .ref gr])), (gp, .inr (4, [.int 0, .ref e0, .ref e1, .ref e2, .ref e3]))] s.heap.size = A at hD ⊢
  have hA : ∀ q : Nat, s.heap.size ≤ q → A q := fun q h => by rw [← hAe]; exact Or.inr h
  have hS : va_S A s.heap s.heap [] := va_S.rf
  have hl : lv_has ls 2 [(0, .ref h0), (1, .int p0)] := hl
  refine lv_aload_n hx hb dX11_clicks_0 rfl (lv_at hl 0 rfl) ?_
  refine va_get (D := (dC, dI)) (ci := 11) (v := .ref d8) (C := RX11) (T := TX11) (N := 10) hx hb hwd inlX11 hown hK hP 0 rfl rfl 8 (by decide) (hwd _ kr2_19) (fun _ h9 => h9) rfl dX11_clicks_1 ?_
  refine lv_iload_n hx hb dX11_clicks_4 rfl (lv_at hl 1 rfl) ?_
  have hPc := hP.sub (ws' := [(d8, .inr (2, [.int 0, .int 0, .int 0, .int 0, .int 0, .int 0, .int 0, .int 0, .int 0, .ref gn, .ref gf, .ref gp, .ref gs, .ref gr])), (gp, .inr (4, [.int 0, .ref e0, .ref e1, .ref e2, .ref e3]))]) [1, 2] rfl
  have hDc := hD.sub (ws' := [(d8, .inr (2, [.int 0, .int 0, .int 0, .int 0, .int 0, .int 0, .int 0, .int 0, .int 0, .ref gn, .ref gf, .ref gp, .ref gs, .ref gr])), (gp, .inr (4, [.int 0, .ref e0, .ref e1, .ref e2, .ref e3]))]) [1, 2] (by decide) rfl
  have hFc := va_free (wc := [(d8, .inr (2, [.int 0, .int 0, .int 0, .int 0, .int 0, .int 0, .int 0, .int 0, .int 0, .ref gn, .ref gf, .ref gp, .ref gs, .ref gr])), (gp, .inr (4, [.int 0, .ref e0, .ref e1, .ref e2, .ref e3]))]) hD hS hA [1, 2] rfl
  refine va_calli (va_runV (As := [.int p0]) (rest := []) ⟨hx, hb, hml, hown, hwd⟩ (c_X2_hasPawl l dC dI cI cZ cB cJ cM d8 gn gf gp gs gr e0 e1 e2 e3 p0 s.heap.size) (cwV 1 hwd (gV kr19_19 kr19_20 kr19_21 kr2_18 kr19_22) rfl rfl rfl (by decide +kernel) ⟨Nat.le_of_ble_eq_true rfl, Nat.le_of_ble_eq_true rfl⟩) (kPreV hPc hK hDc (ci := 2) (q0 := 0) rfl rfl) rfl rfl hl.1 rfl (lv_room (Nat.le_of_ble_eq_true rfl)) dX11_clicks_5 ⟨Nat.le_of_ble_eq_true rfl, Nat.le_of_ble_eq_true rfl⟩) hS (fun q _ h => hFc q h) hFc (fun r1 u2 t H1 locs ht9 hvm hw hB hz1 hk1 hS => ?_)
  obtain ⟨hP1, hD1⟩ := hB
  rw [ht9] at hP1
  obtain ⟨hP, hD⟩ := va_join (wr := [(h0, .inr (11, [.ref d0, .ref d1, .ref d2, .ref d3, .ref d4, .ref d5, .ref d6, .ref d7, .ref d8, .ref d9]))]) (w1 := [(d8, .inr (2, [.int 0, .int 0, .int 0, .int 0, .int 0, .int 0, .int 0, .int 0, .int 0, .ref gn, .ref gf, .ref gp, .ref gs, .ref gr])), (gp, .inr (4, [.int 0, .ref e0, .ref e1, .ref e2, .ref e3]))]) hP hD [1, 2] [0] rfl rfl (by decide) (by decide) hk1 hFc hP1 hD1
  generalize H1 = H at hP hS ⊢
  have hP : va_P (dC, dI) vwCl [(h0, .inr (11, [.ref d0, .ref d1, .ref d2, .ref d3, .ref d4, .ref d5, .ref d6, .ref d7, .ref d8, .ref d9])), (d8, .inr (2, [.int 0, .int 0, .int 0, .int 0, .int 0, .int 0, .int 0, .int 0, .int 0, .ref gn, .ref gf, .ref gp, .ref gs, .ref gr])), (gp, .inr (4, [.int 0, .ref e0, .ref e1, .ref e2, .ref e3]))] H := hP
  have hD : va_D A [(h0, .inr (11, [.ref d0, .ref d1, .ref d2, .ref d3, .ref d4, .ref d5, .ref d6, .ref d7, .ref d8, .ref d9])), (d8, .inr (2, [.int 0, .int 0, .int 0, .int 0, .int 0, .int 0, .int 0, .int 0, .int 0, .ref gn, .ref gf, .ref gp, .ref gs, .ref gr])), (gp, .inr (4, [.int 0, .ref e0, .ref e1, .ref e2, .ref e3]))] := hD
  subst hw
  refine lv_if_ne (tgt := 14) hx hb dX11_clicks_8 (by decide) (fun c3 => absurd c3 (by decide)) (fun c3 => ?_)
  refine lv_bipush (v := (-2)) hx hb dX11_clicks_11 (by decide) ?_
  exact W.iret (v := (-2)) hx hb hr (fun t ht hW => ⟨⟨(-2), (), rfl, rfl, trivial⟩, hS.F ht⟩) hS.2.2 dX11_clicks_13
set_option maxHeartbeats 4000000 in
set_option maxRecDepth 100000 in
theorem c_X11_same (l : Launch) (dC : Nat → ClassId) (dI : Nat → Nat → Nat) (cI cZ cB cJ cM : ClassId) (h0 d0 d1 d2 d3 d4 d5 d6 d7 d8 d9 gn gf gp gs gr : Nat)  (sz : Nat) : Met l yX11_same (kw yX11_same cX11_same 2 (some .int)) ({ frames := 1, cells := 0, slots := 0, locals := 20 }) (va_Pc [.ref h0] (kPre dC dI [(cI, .int), (cZ, .boolean), (cB, .byte), (cJ, .long), (cM, .object RX2)] [(h0, .inr (11, [.ref d0, .ref d1, .ref d2, .ref d3, .ref d4, .ref d5, .ref d6, .ref d7, .ref d8, .ref d9])), (d8, .inr (2, [.int 0, .int 0, .int 0, .int 0, .int 0, .int 0, .int 0, .int 0, .int 0, .ref gn, .ref gf, .ref gp, .ref gs, .ref gr]))] sz)) (va_Qi (fun (r : Int32) (_ : Unit) => r = (-2)) (fun _ _ => True) (va_A [(h0, .inr (11, [.ref d0, .ref d1, .ref d2, .ref d3, .ref d4, .ref d5, .ref d6, .ref d7, .ref d8, .ref d9])), (d8, .inr (2, [.int 0, .int 0, .int 0, .int 0, .int 0, .int 0, .int 0, .int 0, .int 0, .ref gn, .ref gf, .ref gp, .ref gs, .ref gr]))] sz)) 0 0 (va_A [(h0, .inr (11, [.ref d0, .ref d1, .ref d2, .ref d3, .ref d4, .ref d5, .ref d6, .ref d7, .ref d8, .ref d9])), (d8, .inr (2, [.int 0, .int 0, .int 0, .int 0, .int 0, .int 0, .int 0, .int 0, .int 0, .ref gn, .ref gf, .ref gp, .ref gs, .ref gr]))] sz) := by
  refine kEnter (by decide) (Nat.le_of_ble_eq_true rfl) ?_
  intro p e s m below meth c ls hx hb hr hml hown hlocks hin hwd hsz hP hK hD hl
  subst hsz
  generalize hAe : va_A [(h0, .inr (11, [.ref d0, .ref d1, .ref d2, .ref d3, .ref d4, .ref d5, .ref d6, .ref d7, .ref d8, .ref d9])), (d8, .inr (2, [.int 0, .int 0, .int 0, .int 0, .int 0, .int 0, .int 0, .int 0, .int 0, .ref gn, .ref gf, .ref gp, .ref gs, .ref gr]))] s.heap.size = A at hD ⊢
  have hA : ∀ q : Nat, s.heap.size ≤ q → A q := fun q h => by rw [← hAe]; exact Or.inr h
  have hS : va_S A s.heap s.heap [] := va_S.rf
  have hl : lv_has ls 2 [(0, .ref h0)] := hl
  refine lv_aload_n hx hb dX11_same_0 rfl (lv_at hl 0 rfl) ?_
  refine va_get (D := (dC, dI)) (ci := 11) (v := .ref d8) (C := RX11) (T := TX11) (N := 10) hx hb hwd inlX11 hown hK hP 0 rfl rfl 8 (by decide) (hwd _ kr2_19) (fun _ h9 => h9) rfl dX11_same_1 ?_
  have hPc := hP.sub (ws' := [(d8, .inr (2, [.int 0, .int 0, .int 0, .int 0, .int 0, .int 0, .int 0, .int 0, .int 0, .ref gn, .ref gf, .ref gp, .ref gs, .ref gr]))]) [1] rfl
  have hDc := hD.sub (ws' := [(d8, .inr (2, [.int 0, .int 0, .int 0, .int 0, .int 0, .int 0, .int 0, .int 0, .int 0, .ref gn, .ref gf, .ref gp, .ref gs, .ref gr]))]) [1] (by decide) rfl
  have hFc := va_free (wc := [(d8, .inr (2, [.int 0, .int 0, .int 0, .int 0, .int 0, .int 0, .int 0, .int 0, .int 0, .ref gn, .ref gf, .ref gp, .ref gs, .ref gr]))]) hD hS hA [1] rfl
  refine va_calli (va_runV (As := []) (rest := []) ⟨hx, hb, hml, hown, hwd⟩ (c_X2_isTold l dC dI cI cZ cB cJ cM d8 gn gf gp gs gr s.heap.size) (cwV 0 hwd (gV kr14_23 kr15_0 kr15_1 kr2_18 kr15_2) rfl rfl rfl (by decide +kernel) ⟨Nat.le_of_ble_eq_true rfl, Nat.le_of_ble_eq_true rfl⟩) (kPreV hPc hK hDc (ci := 2) (q0 := 0) rfl rfl) rfl rfl hl.1 rfl (lv_room (Nat.le_of_ble_eq_true rfl)) dX11_same_4 ⟨Nat.le_of_ble_eq_true rfl, Nat.le_of_ble_eq_true rfl⟩) hS (fun q _ h => hFc q h) hFc (fun r1 u2 t H1 locs ht9 hvm hw hB hz1 hk1 hS => ?_)
  obtain ⟨hP1, hD1⟩ := hB
  rw [ht9] at hP1
  obtain ⟨hP, hD⟩ := va_join (wr := [(h0, .inr (11, [.ref d0, .ref d1, .ref d2, .ref d3, .ref d4, .ref d5, .ref d6, .ref d7, .ref d8, .ref d9]))]) (w1 := [(d8, .inr (2, [.int 0, .int 0, .int 0, .int 0, .int 0, .int 0, .int 0, .int 0, .int 0, .ref gn, .ref gf, .ref gp, .ref gs, .ref gr]))]) hP hD [1] [0] rfl rfl (by decide) (by decide) hk1 hFc hP1 hD1
  generalize H1 = H at hP hS ⊢
  have hP : va_P (dC, dI) vwCl [(h0, .inr (11, [.ref d0, .ref d1, .ref d2, .ref d3, .ref d4, .ref d5, .ref d6, .ref d7, .ref d8, .ref d9])), (d8, .inr (2, [.int 0, .int 0, .int 0, .int 0, .int 0, .int 0, .int 0, .int 0, .int 0, .ref gn, .ref gf, .ref gp, .ref gs, .ref gr]))] H := hP
  have hD : va_D A [(h0, .inr (11, [.ref d0, .ref d1, .ref d2, .ref d3, .ref d4, .ref d5, .ref d6, .ref d7, .ref d8, .ref d9])), (d8, .inr (2, [.int 0, .int 0, .int 0, .int 0, .int 0, .int 0, .int 0, .int 0, .int 0, .ref gn, .ref gf, .ref gp, .ref gs, .ref gr]))] := hD
  subst hw
  refine lv_if_ne (tgt := 13) hx hb dX11_same_7 (by decide) (fun c3 => absurd c3 (by decide)) (fun c3 => ?_)
  refine lv_bipush (v := (-2)) hx hb dX11_same_10 (by decide) ?_
  exact W.iret (v := (-2)) hx hb hr (fun t ht hW => ⟨⟨(-2), (), rfl, rfl, trivial⟩, hS.F ht⟩) hS.2.2 dX11_same_12
set_option maxHeartbeats 4000000 in
set_option maxRecDepth 100000 in
theorem c_X11_wear (l : Launch) (dC : Nat → ClassId) (dI : Nat → Nat → Nat) (cI cZ cB cJ cM : ClassId) (h0 d0 d1 d2 d3 d4 d5 d6 d7 d8 d9 gn gf gp gs gr a0 a1 a2 a3 a4 a5 a6 : Nat) (p0 p1 : Int32) (sz : Nat) : Met l yX11_wear (kw yX11_wear cX11_wear 4 (some .int)) ({ frames := 1, cells := 0, slots := 0, locals := 21 }) (va_Pc [.ref h0, .int p0, .int p1] (kPre dC dI [(cI, .int), (cZ, .boolean), (cB, .byte), (cJ, .long), (cM, .object RX2)] [(h0, .inr (11, [.ref d0, .ref d1, .ref d2, .ref d3, .ref d4, .ref d5, .ref d6, .ref d7, .ref d8, .ref d9])), (d8, .inr (2, [.int 0, .int 0, .int 0, .int 0, .int 0, .int 0, .int 0, .int 0, .int 0, .ref gn, .ref gf, .ref gp, .ref gs, .ref gr])), (gn, .inr (3, [.int 0, .ref a0, .ref a1, .ref a2, .ref a3, .ref a4, .ref a5, .ref a6]))] sz)) (va_Qi (fun (r : Int32) (_ : Unit) => r = (-2)) (fun _ _ => True) (va_A [(h0, .inr (11, [.ref d0, .ref d1, .ref d2, .ref d3, .ref d4, .ref d5, .ref d6, .ref d7, .ref d8, .ref d9])), (d8, .inr (2, [.int 0, .int 0, .int 0, .int 0, .int 0, .int 0, .int 0, .int 0, .int 0, .ref gn, .ref gf, .ref gp, .ref gs, .ref gr])), (gn, .inr (3, [.int 0, .ref a0, .ref a1, .ref a2, .ref a3, .ref a4, .ref a5, .ref a6]))] sz)) 0 0 (va_A [(h0, .inr (11, [.ref d0, .ref d1, .ref d2, .ref d3, .ref d4, .ref d5, .ref d6, .ref d7, .ref d8, .ref d9])), (d8, .inr (2, [.int 0, .int 0, .int 0, .int 0, .int 0, .int 0, .int 0, .int 0, .int 0, .ref gn, .ref gf, .ref gp, .ref gs, .ref gr])), (gn, .inr (3, [.int 0, .ref a0, .ref a1, .ref a2, .ref a3, .ref a4, .ref a5, .ref a6]))] sz) := by
  refine kEnter (by decide) (Nat.le_of_ble_eq_true rfl) ?_
  intro p e s m below meth c ls hx hb hr hml hown hlocks hin hwd hsz hP hK hD hl
  subst hsz
  generalize hAe : va_A [(h0, .inr (11, [.ref d0, .ref d1, .ref d2, .ref d3, .ref d4, .ref d5, .ref d6, .ref d7, .ref d8, .ref d9])), (d8, .inr (2, [.int 0, .int 0, .int 0, .int 0, .int 0, .int 0, .int 0, .int 0, .int 0, .ref gn, .ref gf, .ref gp, .ref gs, .ref gr])), (gn, .inr (3, [.int 0, .ref a0, .ref a1, .ref a2, .ref a3, .ref a4, .ref a5, .ref a6]))] s.heap.size = A at hD ⊢
  have hA : ∀ q : Nat, s.heap.size ≤ q → A q := fun q h => by rw [← hAe]; exact Or.inr h
  have hS : va_S A s.heap s.heap [] := va_S.rf
  have hl : lv_has ls 4 [(0, .ref h0), (1, .int p0), (2, .int p1)] := hl
  refine lv_aload_n hx hb dX11_wear_0 rfl (lv_at hl 0 rfl) ?_
  refine va_get (D := (dC, dI)) (ci := 11) (v := .ref d8) (C := RX11) (T := TX11) (N := 10) hx hb hwd inlX11 hown hK hP 0 rfl rfl 8 (by decide) (hwd _ kr2_19) (fun _ h9 => h9) rfl dX11_wear_1 ?_
  refine lv_iload_n hx hb dX11_wear_4 rfl (lv_at hl 1 rfl) ?_
  have hPc := hP.sub (ws' := [(d8, .inr (2, [.int 0, .int 0, .int 0, .int 0, .int 0, .int 0, .int 0, .int 0, .int 0, .ref gn, .ref gf, .ref gp, .ref gs, .ref gr])), (gn, .inr (3, [.int 0, .ref a0, .ref a1, .ref a2, .ref a3, .ref a4, .ref a5, .ref a6]))]) [1, 2] rfl
  have hDc := hD.sub (ws' := [(d8, .inr (2, [.int 0, .int 0, .int 0, .int 0, .int 0, .int 0, .int 0, .int 0, .int 0, .ref gn, .ref gf, .ref gp, .ref gs, .ref gr])), (gn, .inr (3, [.int 0, .ref a0, .ref a1, .ref a2, .ref a3, .ref a4, .ref a5, .ref a6]))]) [1, 2] (by decide) rfl
  have hFc := va_free (wc := [(d8, .inr (2, [.int 0, .int 0, .int 0, .int 0, .int 0, .int 0, .int 0, .int 0, .int 0, .ref gn, .ref gf, .ref gp, .ref gs, .ref gr])), (gn, .inr (3, [.int 0, .ref a0, .ref a1, .ref a2, .ref a3, .ref a4, .ref a5, .ref a6]))]) hD hS hA [1, 2] rfl
  refine va_calli (va_runV (As := [.int p0]) (rest := []) ⟨hx, hb, hml, hown, hwd⟩ (c_X2_hasNose l dC dI cI cZ cB cJ cM d8 gn gf gp gs gr a0 a1 a2 a3 a4 a5 a6 p0 s.heap.size) (cwV 1 hwd (gV kr22_13 kr22_14 kr22_15 kr2_18 kr22_16) rfl rfl rfl (by decide +kernel) ⟨Nat.le_of_ble_eq_true rfl, Nat.le_of_ble_eq_true rfl⟩) (kPreV hPc hK hDc (ci := 2) (q0 := 0) rfl rfl) rfl rfl hl.1 rfl (lv_room (Nat.le_of_ble_eq_true rfl)) dX11_wear_5 ⟨Nat.le_of_ble_eq_true rfl, Nat.le_of_ble_eq_true rfl⟩) hS (fun q _ h => hFc q h) hFc (fun r1 u2 t H1 locs ht9 hvm hw hB hz1 hk1 hS => ?_)
  obtain ⟨hP1, hD1⟩ := hB
  rw [ht9] at hP1
  obtain ⟨hP, hD⟩ := va_join (wr := [(h0, .inr (11, [.ref d0, .ref d1, .ref d2, .ref d3, .ref d4, .ref d5, .ref d6, .ref d7, .ref d8, .ref d9]))]) (w1 := [(d8, .inr (2, [.int 0, .int 0, .int 0, .int 0, .int 0, .int 0, .int 0, .int 0, .int 0, .ref gn, .ref gf, .ref gp, .ref gs, .ref gr])), (gn, .inr (3, [.int 0, .ref a0, .ref a1, .ref a2, .ref a3, .ref a4, .ref a5, .ref a6]))]) hP hD [1, 2] [0] rfl rfl (by decide) (by decide) hk1 hFc hP1 hD1
  generalize H1 = H at hP hS ⊢
  have hP : va_P (dC, dI) vwCl [(h0, .inr (11, [.ref d0, .ref d1, .ref d2, .ref d3, .ref d4, .ref d5, .ref d6, .ref d7, .ref d8, .ref d9])), (d8, .inr (2, [.int 0, .int 0, .int 0, .int 0, .int 0, .int 0, .int 0, .int 0, .int 0, .ref gn, .ref gf, .ref gp, .ref gs, .ref gr])), (gn, .inr (3, [.int 0, .ref a0, .ref a1, .ref a2, .ref a3, .ref a4, .ref a5, .ref a6]))] H := hP
  have hD : va_D A [(h0, .inr (11, [.ref d0, .ref d1, .ref d2, .ref d3, .ref d4, .ref d5, .ref d6, .ref d7, .ref d8, .ref d9])), (d8, .inr (2, [.int 0, .int 0, .int 0, .int 0, .int 0, .int 0, .int 0, .int 0, .int 0, .ref gn, .ref gf, .ref gp, .ref gs, .ref gr])), (gn, .inr (3, [.int 0, .ref a0, .ref a1, .ref a2, .ref a3, .ref a4, .ref a5, .ref a6]))] := hD
  subst hw
  refine lv_if_eq (tgt := 21) hx hb dX11_wear_8 (by decide) (fun c3 => ?_) (fun c3 => absurd c3 (by decide))
  refine lv_bipush (v := (-2)) hx hb dX11_wear_21 (by decide) ?_
  exact W.iret (v := (-2)) hx hb hr (fun t ht hW => ⟨⟨(-2), (), rfl, rfl, trivial⟩, hS.F ht⟩) hS.2.2 dX11_wear_23
set_option maxHeartbeats 4000000 in
set_option maxRecDepth 100000 in
theorem c_X11_breaks (l : Launch) (dC : Nat → ClassId) (dI : Nat → Nat → Nat) (cI cZ cB cJ cM : ClassId) (h0 d0 d1 d2 d3 d4 d5 d6 d7 d8 d9 gn gf gp gs gr a0 a1 a2 a3 a4 a5 a6 : Nat) (p0 p1 : Int32) (sz : Nat) : Met l yX11_breaks (kw yX11_breaks cX11_breaks 4 (some .int)) ({ frames := 1, cells := 0, slots := 0, locals := 21 }) (va_Pc [.ref h0, .int p0, .int p1] (kPre dC dI [(cI, .int), (cZ, .boolean), (cB, .byte), (cJ, .long), (cM, .object RX2)] [(h0, .inr (11, [.ref d0, .ref d1, .ref d2, .ref d3, .ref d4, .ref d5, .ref d6, .ref d7, .ref d8, .ref d9])), (d8, .inr (2, [.int 0, .int 0, .int 0, .int 0, .int 0, .int 0, .int 0, .int 0, .int 0, .ref gn, .ref gf, .ref gp, .ref gs, .ref gr])), (gn, .inr (3, [.int 0, .ref a0, .ref a1, .ref a2, .ref a3, .ref a4, .ref a5, .ref a6]))] sz)) (va_Qi (fun (r : Int32) (_ : Unit) => r = (-2)) (fun _ _ => True) (va_A [(h0, .inr (11, [.ref d0, .ref d1, .ref d2, .ref d3, .ref d4, .ref d5, .ref d6, .ref d7, .ref d8, .ref d9])), (d8, .inr (2, [.int 0, .int 0, .int 0, .int 0, .int 0, .int 0, .int 0, .int 0, .int 0, .ref gn, .ref gf, .ref gp, .ref gs, .ref gr])), (gn, .inr (3, [.int 0, .ref a0, .ref a1, .ref a2, .ref a3, .ref a4, .ref a5, .ref a6]))] sz)) 0 0 (va_A [(h0, .inr (11, [.ref d0, .ref d1, .ref d2, .ref d3, .ref d4, .ref d5, .ref d6, .ref d7, .ref d8, .ref d9])), (d8, .inr (2, [.int 0, .int 0, .int 0, .int 0, .int 0, .int 0, .int 0, .int 0, .int 0, .ref gn, .ref gf, .ref gp, .ref gs, .ref gr])), (gn, .inr (3, [.int 0, .ref a0, .ref a1, .ref a2, .ref a3, .ref a4, .ref a5, .ref a6]))] sz) := by
  refine kEnter (by decide) (Nat.le_of_ble_eq_true rfl) ?_
  intro p e s m below meth c ls hx hb hr hml hown hlocks hin hwd hsz hP hK hD hl
  subst hsz
  generalize hAe : va_A [(h0, .inr (11, [.ref d0, .ref d1, .ref d2, .ref d3, .ref d4, .ref d5, .ref d6, .ref d7, .ref d8, .ref d9])), (d8, .inr (2, [.int 0, .int 0, .int 0, .int 0, .int 0, .int 0, .int 0, .int 0, .int 0, .ref gn, .ref gf, .ref gp, .ref gs, .ref gr])), (gn, .inr (3, [.int 0, .ref a0, .ref a1, .ref a2, .ref a3, .ref a4, .ref a5, .ref a6]))] s.heap.size = A at hD ⊢
  have hA : ∀ q : Nat, s.heap.size ≤ q → A q := fun q h => by rw [← hAe]; exact Or.inr h
  have hS : va_S A s.heap s.heap [] := va_S.rf
  have hl : lv_has ls 4 [(0, .ref h0), (1, .int p0), (2, .int p1)] := hl
  refine lv_aload_n hx hb dX11_breaks_0 rfl (lv_at hl 0 rfl) ?_
  refine va_get (D := (dC, dI)) (ci := 11) (v := .ref d8) (C := RX11) (T := TX11) (N := 10) hx hb hwd inlX11 hown hK hP 0 rfl rfl 8 (by decide) (hwd _ kr2_19) (fun _ h9 => h9) rfl dX11_breaks_1 ?_
  refine lv_iload_n hx hb dX11_breaks_4 rfl (lv_at hl 1 rfl) ?_
  have hPc := hP.sub (ws' := [(d8, .inr (2, [.int 0, .int 0, .int 0, .int 0, .int 0, .int 0, .int 0, .int 0, .int 0, .ref gn, .ref gf, .ref gp, .ref gs, .ref gr])), (gn, .inr (3, [.int 0, .ref a0, .ref a1, .ref a2, .ref a3, .ref a4, .ref a5, .ref a6]))]) [1, 2] rfl
  have hDc := hD.sub (ws' := [(d8, .inr (2, [.int 0, .int 0, .int 0, .int 0, .int 0, .int 0, .int 0, .int 0, .int 0, .ref gn, .ref gf, .ref gp, .ref gs, .ref gr])), (gn, .inr (3, [.int 0, .ref a0, .ref a1, .ref a2, .ref a3, .ref a4, .ref a5, .ref a6]))]) [1, 2] (by decide) rfl
  have hFc := va_free (wc := [(d8, .inr (2, [.int 0, .int 0, .int 0, .int 0, .int 0, .int 0, .int 0, .int 0, .int 0, .ref gn, .ref gf, .ref gp, .ref gs, .ref gr])), (gn, .inr (3, [.int 0, .ref a0, .ref a1, .ref a2, .ref a3, .ref a4, .ref a5, .ref a6]))]) hD hS hA [1, 2] rfl
  refine va_calli (va_runV (As := [.int p0]) (rest := []) ⟨hx, hb, hml, hown, hwd⟩ (c_X2_hasNose l dC dI cI cZ cB cJ cM d8 gn gf gp gs gr a0 a1 a2 a3 a4 a5 a6 p0 s.heap.size) (cwV 1 hwd (gV kr22_13 kr22_14 kr22_15 kr2_18 kr22_16) rfl rfl rfl (by decide +kernel) ⟨Nat.le_of_ble_eq_true rfl, Nat.le_of_ble_eq_true rfl⟩) (kPreV hPc hK hDc (ci := 2) (q0 := 0) rfl rfl) rfl rfl hl.1 rfl (lv_room (Nat.le_of_ble_eq_true rfl)) dX11_breaks_5 ⟨Nat.le_of_ble_eq_true rfl, Nat.le_of_ble_eq_true rfl⟩) hS (fun q _ h => hFc q h) hFc (fun r1 u2 t H1 locs ht9 hvm hw hB hz1 hk1 hS => ?_)
  obtain ⟨hP1, hD1⟩ := hB
  rw [ht9] at hP1
  obtain ⟨hP, hD⟩ := va_join (wr := [(h0, .inr (11, [.ref d0, .ref d1, .ref d2, .ref d3, .ref d4, .ref d5, .ref d6, .ref d7, .ref d8, .ref d9]))]) (w1 := [(d8, .inr (2, [.int 0, .int 0, .int 0, .int 0, .int 0, .int 0, .int 0, .int 0, .int 0, .ref gn, .ref gf, .ref gp, .ref gs, .ref gr])), (gn, .inr (3, [.int 0, .ref a0, .ref a1, .ref a2, .ref a3, .ref a4, .ref a5, .ref a6]))]) hP hD [1, 2] [0] rfl rfl (by decide) (by decide) hk1 hFc hP1 hD1
  generalize H1 = H at hP hS ⊢
  have hP : va_P (dC, dI) vwCl [(h0, .inr (11, [.ref d0, .ref d1, .ref d2, .ref d3, .ref d4, .ref d5, .ref d6, .ref d7, .ref d8, .ref d9])), (d8, .inr (2, [.int 0, .int 0, .int 0, .int 0, .int 0, .int 0, .int 0, .int 0, .int 0, .ref gn, .ref gf, .ref gp, .ref gs, .ref gr])), (gn, .inr (3, [.int 0, .ref a0, .ref a1, .ref a2, .ref a3, .ref a4, .ref a5, .ref a6]))] H := hP
  have hD : va_D A [(h0, .inr (11, [.ref d0, .ref d1, .ref d2, .ref d3, .ref d4, .ref d5, .ref d6, .ref d7, .ref d8, .ref d9])), (d8, .inr (2, [.int 0, .int 0, .int 0, .int 0, .int 0, .int 0, .int 0, .int 0, .int 0, .ref gn, .ref gf, .ref gp, .ref gs, .ref gr])), (gn, .inr (3, [.int 0, .ref a0, .ref a1, .ref a2, .ref a3, .ref a4, .ref a5, .ref a6]))] := hD
  subst hw
  refine lv_if_ne (tgt := 14) hx hb dX11_breaks_8 (by decide) (fun c3 => absurd c3 (by decide)) (fun c3 => ?_)
  refine lv_bipush (v := (-2)) hx hb dX11_breaks_11 (by decide) ?_
  exact W.iret (v := (-2)) hx hb hr (fun t ht hW => ⟨⟨(-2), (), rfl, rfl, trivial⟩, hS.F ht⟩) hS.2.2 dX11_breaks_13
set_option maxHeartbeats 4000000 in
set_option maxRecDepth 100000 in
theorem c_X11_nose (l : Launch) (dC : Nat → ClassId) (dI : Nat → Nat → Nat) (cI cZ cB cJ cM : ClassId) (h0 d0 d1 d2 d3 d4 d5 d6 d7 d8 d9 gn gf gp gs gr a0 a1 a2 a3 a4 a5 a6 : Nat) (p0 p1 : Int32) (sz : Nat) : Met l yX11_nose (kw yX11_nose cX11_nose 3 (some .int)) ({ frames := 1, cells := 0, slots := 0, locals := 21 }) (va_Pc [.ref h0, .int p0, .int p1] (kPre dC dI [(cI, .int), (cZ, .boolean), (cB, .byte), (cJ, .long), (cM, .object RX2)] [(h0, .inr (11, [.ref d0, .ref d1, .ref d2, .ref d3, .ref d4, .ref d5, .ref d6, .ref d7, .ref d8, .ref d9])), (d8, .inr (2, [.int 0, .int 0, .int 0, .int 0, .int 0, .int 0, .int 0, .int 0, .int 0, .ref gn, .ref gf, .ref gp, .ref gs, .ref gr])), (gn, .inr (3, [.int 0, .ref a0, .ref a1, .ref a2, .ref a3, .ref a4, .ref a5, .ref a6]))] sz)) (va_Qi (fun (r : Int32) (_ : Unit) => r = (-2)) (fun _ _ => True) (va_A [(h0, .inr (11, [.ref d0, .ref d1, .ref d2, .ref d3, .ref d4, .ref d5, .ref d6, .ref d7, .ref d8, .ref d9])), (d8, .inr (2, [.int 0, .int 0, .int 0, .int 0, .int 0, .int 0, .int 0, .int 0, .int 0, .ref gn, .ref gf, .ref gp, .ref gs, .ref gr])), (gn, .inr (3, [.int 0, .ref a0, .ref a1, .ref a2, .ref a3, .ref a4, .ref a5, .ref a6]))] sz)) 0 0 (va_A [(h0, .inr (11, [.ref d0, .ref d1, .ref d2, .ref d3, .ref d4, .ref d5, .ref d6, .ref d7, .ref d8, .ref d9])), (d8, .inr (2, [.int 0, .int 0, .int 0, .int 0, .int 0, .int 0, .int 0, .int 0, .int 0, .ref gn, .ref gf, .ref gp, .ref gs, .ref gr])), (gn, .inr (3, [.int 0, .ref a0, .ref a1, .ref a2, .ref a3, .ref a4, .ref a5, .ref a6]))] sz) := by
  refine kEnter (by decide) (Nat.le_of_ble_eq_true rfl) ?_
  intro p e s m below meth c ls hx hb hr hml hown hlocks hin hwd hsz hP hK hD hl
  subst hsz
  generalize hAe : va_A [(h0, .inr (11, [.ref d0, .ref d1, .ref d2, .ref d3, .ref d4, .ref d5, .ref d6, .ref d7, .ref d8, .ref d9])), (d8, .inr (2, [.int 0, .int 0, .int 0, .int 0, .int 0, .int 0, .int 0, .int 0, .int 0, .ref gn, .ref gf, .ref gp, .ref gs, .ref gr])), (gn, .inr (3, [.int 0, .ref a0, .ref a1, .ref a2, .ref a3, .ref a4, .ref a5, .ref a6]))] s.heap.size = A at hD ⊢
  have hA : ∀ q : Nat, s.heap.size ≤ q → A q := fun q h => by rw [← hAe]; exact Or.inr h
  have hS : va_S A s.heap s.heap [] := va_S.rf
  have hl : lv_has ls 3 [(0, .ref h0), (1, .int p0), (2, .int p1)] := hl
  refine lv_aload_n hx hb dX11_nose_0 rfl (lv_at hl 0 rfl) ?_
  refine va_get (D := (dC, dI)) (ci := 11) (v := .ref d8) (C := RX11) (T := TX11) (N := 10) hx hb hwd inlX11 hown hK hP 0 rfl rfl 8 (by decide) (hwd _ kr2_19) (fun _ h9 => h9) rfl dX11_nose_1 ?_
  refine lv_iload_n hx hb dX11_nose_4 rfl (lv_at hl 1 rfl) ?_
  have hPc := hP.sub (ws' := [(d8, .inr (2, [.int 0, .int 0, .int 0, .int 0, .int 0, .int 0, .int 0, .int 0, .int 0, .ref gn, .ref gf, .ref gp, .ref gs, .ref gr])), (gn, .inr (3, [.int 0, .ref a0, .ref a1, .ref a2, .ref a3, .ref a4, .ref a5, .ref a6]))]) [1, 2] rfl
  have hDc := hD.sub (ws' := [(d8, .inr (2, [.int 0, .int 0, .int 0, .int 0, .int 0, .int 0, .int 0, .int 0, .int 0, .ref gn, .ref gf, .ref gp, .ref gs, .ref gr])), (gn, .inr (3, [.int 0, .ref a0, .ref a1, .ref a2, .ref a3, .ref a4, .ref a5, .ref a6]))]) [1, 2] (by decide) rfl
  have hFc := va_free (wc := [(d8, .inr (2, [.int 0, .int 0, .int 0, .int 0, .int 0, .int 0, .int 0, .int 0, .int 0, .ref gn, .ref gf, .ref gp, .ref gs, .ref gr])), (gn, .inr (3, [.int 0, .ref a0, .ref a1, .ref a2, .ref a3, .ref a4, .ref a5, .ref a6]))]) hD hS hA [1, 2] rfl
  refine va_calli (va_runV (As := [.int p0]) (rest := []) ⟨hx, hb, hml, hown, hwd⟩ (c_X2_hasNose l dC dI cI cZ cB cJ cM d8 gn gf gp gs gr a0 a1 a2 a3 a4 a5 a6 p0 s.heap.size) (cwV 1 hwd (gV kr22_13 kr22_14 kr22_15 kr2_18 kr22_16) rfl rfl rfl (by decide +kernel) ⟨Nat.le_of_ble_eq_true rfl, Nat.le_of_ble_eq_true rfl⟩) (kPreV hPc hK hDc (ci := 2) (q0 := 0) rfl rfl) rfl rfl hl.1 rfl (lv_room (Nat.le_of_ble_eq_true rfl)) dX11_nose_5 ⟨Nat.le_of_ble_eq_true rfl, Nat.le_of_ble_eq_true rfl⟩) hS (fun q _ h => hFc q h) hFc (fun r1 u2 t H1 locs ht9 hvm hw hB hz1 hk1 hS => ?_)
  obtain ⟨hP1, hD1⟩ := hB
  rw [ht9] at hP1
  obtain ⟨hP, hD⟩ := va_join (wr := [(h0, .inr (11, [.ref d0, .ref d1, .ref d2, .ref d3, .ref d4, .ref d5, .ref d6, .ref d7, .ref d8, .ref d9]))]) (w1 := [(d8, .inr (2, [.int 0, .int 0, .int 0, .int 0, .int 0, .int 0, .int 0, .int 0, .int 0, .ref gn, .ref gf, .ref gp, .ref gs, .ref gr])), (gn, .inr (3, [.int 0, .ref a0, .ref a1, .ref a2, .ref a3, .ref a4, .ref a5, .ref a6]))]) hP hD [1, 2] [0] rfl rfl (by decide) (by decide) hk1 hFc hP1 hD1
  generalize H1 = H at hP hS ⊢
  have hP : va_P (dC, dI) vwCl [(h0, .inr (11, [.ref d0, .ref d1, .ref d2, .ref d3, .ref d4, .ref d5, .ref d6, .ref d7, .ref d8, .ref d9])), (d8, .inr (2, [.int 0, .int 0, .int 0, .int 0, .int 0, .int 0, .int 0, .int 0, .int 0, .ref gn, .ref gf, .ref gp, .ref gs, .ref gr])), (gn, .inr (3, [.int 0, .ref a0, .ref a1, .ref a2, .ref a3, .ref a4, .ref a5, .ref a6]))] H := hP
  have hD : va_D A [(h0, .inr (11, [.ref d0, .ref d1, .ref d2, .ref d3, .ref d4, .ref d5, .ref d6, .ref d7, .ref d8, .ref d9])), (d8, .inr (2, [.int 0, .int 0, .int 0, .int 0, .int 0, .int 0, .int 0, .int 0, .int 0, .ref gn, .ref gf, .ref gp, .ref gs, .ref gr])), (gn, .inr (3, [.int 0, .ref a0, .ref a1, .ref a2, .ref a3, .ref a4, .ref a5, .ref a6]))] := hD
  subst hw
  refine lv_if_ne (tgt := 14) hx hb dX11_nose_8 (by decide) (fun c3 => absurd c3 (by decide)) (fun c3 => ?_)
  refine lv_bipush (v := (-2)) hx hb dX11_nose_11 (by decide) ?_
  exact W.iret (v := (-2)) hx hb hr (fun t ht hW => ⟨⟨(-2), (), rfl, rfl, trivial⟩, hS.F ht⟩) hS.2.2 dX11_nose_13
set_option maxHeartbeats 4000000 in
set_option maxRecDepth 100000 in
theorem c_X11_spare (l : Launch) (dC : Nat → ClassId) (dI : Nat → Nat → Nat) (cI cZ cB cJ cM : ClassId) (h0 d0 d1 d2 d3 d4 d5 d6 d7 d8 d9 gn gf gp gs gr : Nat)  (sz : Nat) : Met l yX11_spare (kw yX11_spare cX11_spare 3 (some .int)) ({ frames := 1, cells := 0, slots := 0, locals := 20 }) (va_Pc [.ref h0] (kPre dC dI [(cI, .int), (cZ, .boolean), (cB, .byte), (cJ, .long), (cM, .object RX2)] [(h0, .inr (11, [.ref d0, .ref d1, .ref d2, .ref d3, .ref d4, .ref d5, .ref d6, .ref d7, .ref d8, .ref d9])), (d8, .inr (2, [.int 0, .int 0, .int 0, .int 0, .int 0, .int 0, .int 0, .int 0, .int 0, .ref gn, .ref gf, .ref gp, .ref gs, .ref gr]))] sz)) (va_Qi (fun (r : Int32) (_ : Unit) => r = (-2)) (fun _ _ => True) (va_A [(h0, .inr (11, [.ref d0, .ref d1, .ref d2, .ref d3, .ref d4, .ref d5, .ref d6, .ref d7, .ref d8, .ref d9])), (d8, .inr (2, [.int 0, .int 0, .int 0, .int 0, .int 0, .int 0, .int 0, .int 0, .int 0, .ref gn, .ref gf, .ref gp, .ref gs, .ref gr]))] sz)) 0 0 (va_A [(h0, .inr (11, [.ref d0, .ref d1, .ref d2, .ref d3, .ref d4, .ref d5, .ref d6, .ref d7, .ref d8, .ref d9])), (d8, .inr (2, [.int 0, .int 0, .int 0, .int 0, .int 0, .int 0, .int 0, .int 0, .int 0, .ref gn, .ref gf, .ref gp, .ref gs, .ref gr]))] sz) := by
  refine kEnter (by decide) (Nat.le_of_ble_eq_true rfl) ?_
  intro p e s m below meth c ls hx hb hr hml hown hlocks hin hwd hsz hP hK hD hl
  subst hsz
  generalize hAe : va_A [(h0, .inr (11, [.ref d0, .ref d1, .ref d2, .ref d3, .ref d4, .ref d5, .ref d6, .ref d7, .ref d8, .ref d9])), (d8, .inr (2, [.int 0, .int 0, .int 0, .int 0, .int 0, .int 0, .int 0, .int 0, .int 0, .ref gn, .ref gf, .ref gp, .ref gs, .ref gr]))] s.heap.size = A at hD ⊢
  have hA : ∀ q : Nat, s.heap.size ≤ q → A q := fun q h => by rw [← hAe]; exact Or.inr h
  have hS : va_S A s.heap s.heap [] := va_S.rf
  have hl : lv_has ls 3 [(0, .ref h0)] := hl
  refine lv_aload_n hx hb dX11_spare_0 rfl (lv_at hl 0 rfl) ?_
  refine va_get (D := (dC, dI)) (ci := 11) (v := .ref d8) (C := RX11) (T := TX11) (N := 10) hx hb hwd inlX11 hown hK hP 0 rfl rfl 8 (by decide) (hwd _ kr2_19) (fun _ h9 => h9) rfl dX11_spare_1 ?_
  have hPc := hP.sub (ws' := [(d8, .inr (2, [.int 0, .int 0, .int 0, .int 0, .int 0, .int 0, .int 0, .int 0, .int 0, .ref gn, .ref gf, .ref gp, .ref gs, .ref gr]))]) [1] rfl
  have hDc := hD.sub (ws' := [(d8, .inr (2, [.int 0, .int 0, .int 0, .int 0, .int 0, .int 0, .int 0, .int 0, .int 0, .ref gn, .ref gf, .ref gp, .ref gs, .ref gr]))]) [1] (by decide) rfl
  have hFc := va_free (wc := [(d8, .inr (2, [.int 0, .int 0, .int 0, .int 0, .int 0, .int 0, .int 0, .int 0, .int 0, .ref gn, .ref gf, .ref gp, .ref gs, .ref gr]))]) hD hS hA [1] rfl
  refine va_calli (va_runV (As := []) (rest := []) ⟨hx, hb, hml, hown, hwd⟩ (c_X2_isTold l dC dI cI cZ cB cJ cM d8 gn gf gp gs gr s.heap.size) (cwV 0 hwd (gV kr14_23 kr15_0 kr15_1 kr2_18 kr15_2) rfl rfl rfl (by decide +kernel) ⟨Nat.le_of_ble_eq_true rfl, Nat.le_of_ble_eq_true rfl⟩) (kPreV hPc hK hDc (ci := 2) (q0 := 0) rfl rfl) rfl rfl hl.1 rfl (lv_room (Nat.le_of_ble_eq_true rfl)) dX11_spare_4 ⟨Nat.le_of_ble_eq_true rfl, Nat.le_of_ble_eq_true rfl⟩) hS (fun q _ h => hFc q h) hFc (fun r1 u2 t H1 locs ht9 hvm hw hB hz1 hk1 hS => ?_)
  obtain ⟨hP1, hD1⟩ := hB
  rw [ht9] at hP1
  obtain ⟨hP, hD⟩ := va_join (wr := [(h0, .inr (11, [.ref d0, .ref d1, .ref d2, .ref d3, .ref d4, .ref d5, .ref d6, .ref d7, .ref d8, .ref d9]))]) (w1 := [(d8, .inr (2, [.int 0, .int 0, .int 0, .int 0, .int 0, .int 0, .int 0, .int 0, .int 0, .ref gn, .ref gf, .ref gp, .ref gs, .ref gr]))]) hP hD [1] [0] rfl rfl (by decide) (by decide) hk1 hFc hP1 hD1
  generalize H1 = H at hP hS ⊢
  have hP : va_P (dC, dI) vwCl [(h0, .inr (11, [.ref d0, .ref d1, .ref d2, .ref d3, .ref d4, .ref d5, .ref d6, .ref d7, .ref d8, .ref d9])), (d8, .inr (2, [.int 0, .int 0, .int 0, .int 0, .int 0, .int 0, .int 0, .int 0, .int 0, .ref gn, .ref gf, .ref gp, .ref gs, .ref gr]))] H := hP
  have hD : va_D A [(h0, .inr (11, [.ref d0, .ref d1, .ref d2, .ref d3, .ref d4, .ref d5, .ref d6, .ref d7, .ref d8, .ref d9])), (d8, .inr (2, [.int 0, .int 0, .int 0, .int 0, .int 0, .int 0, .int 0, .int 0, .int 0, .ref gn, .ref gf, .ref gp, .ref gs, .ref gr]))] := hD
  subst hw
  refine lv_if_ne (tgt := 13) hx hb dX11_spare_7 (by decide) (fun c3 => absurd c3 (by decide)) (fun c3 => ?_)
  refine lv_bipush (v := (-2)) hx hb dX11_spare_10 (by decide) ?_
  exact W.iret (v := (-2)) hx hb hr (fun t ht hW => ⟨⟨(-2), (), rfl, rfl, trivial⟩, hS.F ht⟩) hS.2.2 dX11_spare_12
set_option maxHeartbeats 4000000 in
set_option maxRecDepth 100000 in
theorem c_X11_meet (l : Launch) (dC : Nat → ClassId) (dI : Nat → Nat → Nat) (cI cZ cB cJ cM : ClassId) (h0 d0 d1 d2 d3 d4 d5 d6 d7 d8 d9 gn gf gp gs gr a0 a1 a2 a3 a4 a5 a6 : Nat) (p0 p1 : Int32) (sz : Nat) : Met l yX11_meet (kw yX11_meet cX11_meet 3 (some .int)) ({ frames := 1, cells := 0, slots := 0, locals := 21 }) (va_Pc [.ref h0, .int p0, .int p1] (kPre dC dI [(cI, .int), (cZ, .boolean), (cB, .byte), (cJ, .long), (cM, .object RX2)] [(h0, .inr (11, [.ref d0, .ref d1, .ref d2, .ref d3, .ref d4, .ref d5, .ref d6, .ref d7, .ref d8, .ref d9])), (d8, .inr (2, [.int 0, .int 0, .int 0, .int 0, .int 0, .int 0, .int 0, .int 0, .int 0, .ref gn, .ref gf, .ref gp, .ref gs, .ref gr])), (gn, .inr (3, [.int 0, .ref a0, .ref a1, .ref a2, .ref a3, .ref a4, .ref a5, .ref a6]))] sz)) (va_Qi (fun (r : Int32) (_ : Unit) => r = (-2)) (fun _ _ => True) (va_A [(h0, .inr (11, [.ref d0, .ref d1, .ref d2, .ref d3, .ref d4, .ref d5, .ref d6, .ref d7, .ref d8, .ref d9])), (d8, .inr (2, [.int 0, .int 0, .int 0, .int 0, .int 0, .int 0, .int 0, .int 0, .int 0, .ref gn, .ref gf, .ref gp, .ref gs, .ref gr])), (gn, .inr (3, [.int 0, .ref a0, .ref a1, .ref a2, .ref a3, .ref a4, .ref a5, .ref a6]))] sz)) 0 0 (va_A [(h0, .inr (11, [.ref d0, .ref d1, .ref d2, .ref d3, .ref d4, .ref d5, .ref d6, .ref d7, .ref d8, .ref d9])), (d8, .inr (2, [.int 0, .int 0, .int 0, .int 0, .int 0, .int 0, .int 0, .int 0, .int 0, .ref gn, .ref gf, .ref gp, .ref gs, .ref gr])), (gn, .inr (3, [.int 0, .ref a0, .ref a1, .ref a2, .ref a3, .ref a4, .ref a5, .ref a6]))] sz) := by
  refine kEnter (by decide) (Nat.le_of_ble_eq_true rfl) ?_
  intro p e s m below meth c ls hx hb hr hml hown hlocks hin hwd hsz hP hK hD hl
  subst hsz
  generalize hAe : va_A [(h0, .inr (11, [.ref d0, .ref d1, .ref d2, .ref d3, .ref d4, .ref d5, .ref d6, .ref d7, .ref d8, .ref d9])), (d8, .inr (2, [.int 0, .int 0, .int 0, .int 0, .int 0, .int 0, .int 0, .int 0, .int 0, .ref gn, .ref gf, .ref gp, .ref gs, .ref gr])), (gn, .inr (3, [.int 0, .ref a0, .ref a1, .ref a2, .ref a3, .ref a4, .ref a5, .ref a6]))] s.heap.size = A at hD ⊢
  have hA : ∀ q : Nat, s.heap.size ≤ q → A q := fun q h => by rw [← hAe]; exact Or.inr h
  have hS : va_S A s.heap s.heap [] := va_S.rf
  have hl : lv_has ls 3 [(0, .ref h0), (1, .int p0), (2, .int p1)] := hl
  refine lv_aload_n hx hb dX11_meet_0 rfl (lv_at hl 0 rfl) ?_
  refine va_get (D := (dC, dI)) (ci := 11) (v := .ref d8) (C := RX11) (T := TX11) (N := 10) hx hb hwd inlX11 hown hK hP 0 rfl rfl 8 (by decide) (hwd _ kr2_19) (fun _ h9 => h9) rfl dX11_meet_1 ?_
  refine lv_iload_n hx hb dX11_meet_4 rfl (lv_at hl 1 rfl) ?_
  have hPc := hP.sub (ws' := [(d8, .inr (2, [.int 0, .int 0, .int 0, .int 0, .int 0, .int 0, .int 0, .int 0, .int 0, .ref gn, .ref gf, .ref gp, .ref gs, .ref gr])), (gn, .inr (3, [.int 0, .ref a0, .ref a1, .ref a2, .ref a3, .ref a4, .ref a5, .ref a6]))]) [1, 2] rfl
  have hDc := hD.sub (ws' := [(d8, .inr (2, [.int 0, .int 0, .int 0, .int 0, .int 0, .int 0, .int 0, .int 0, .int 0, .ref gn, .ref gf, .ref gp, .ref gs, .ref gr])), (gn, .inr (3, [.int 0, .ref a0, .ref a1, .ref a2, .ref a3, .ref a4, .ref a5, .ref a6]))]) [1, 2] (by decide) rfl
  have hFc := va_free (wc := [(d8, .inr (2, [.int 0, .int 0, .int 0, .int 0, .int 0, .int 0, .int 0, .int 0, .int 0, .ref gn, .ref gf, .ref gp, .ref gs, .ref gr])), (gn, .inr (3, [.int 0, .ref a0, .ref a1, .ref a2, .ref a3, .ref a4, .ref a5, .ref a6]))]) hD hS hA [1, 2] rfl
  refine va_calli (va_runV (As := [.int p0]) (rest := []) ⟨hx, hb, hml, hown, hwd⟩ (c_X2_hasNose l dC dI cI cZ cB cJ cM d8 gn gf gp gs gr a0 a1 a2 a3 a4 a5 a6 p0 s.heap.size) (cwV 1 hwd (gV kr22_13 kr22_14 kr22_15 kr2_18 kr22_16) rfl rfl rfl (by decide +kernel) ⟨Nat.le_of_ble_eq_true rfl, Nat.le_of_ble_eq_true rfl⟩) (kPreV hPc hK hDc (ci := 2) (q0 := 0) rfl rfl) rfl rfl hl.1 rfl (lv_room (Nat.le_of_ble_eq_true rfl)) dX11_meet_5 ⟨Nat.le_of_ble_eq_true rfl, Nat.le_of_ble_eq_true rfl⟩) hS (fun q _ h => hFc q h) hFc (fun r1 u2 t H1 locs ht9 hvm hw hB hz1 hk1 hS => ?_)
  obtain ⟨hP1, hD1⟩ := hB
  rw [ht9] at hP1
  obtain ⟨hP, hD⟩ := va_join (wr := [(h0, .inr (11, [.ref d0, .ref d1, .ref d2, .ref d3, .ref d4, .ref d5, .ref d6, .ref d7, .ref d8, .ref d9]))]) (w1 := [(d8, .inr (2, [.int 0, .int 0, .int 0, .int 0, .int 0, .int 0, .int 0, .int 0, .int 0, .ref gn, .ref gf, .ref gp, .ref gs, .ref gr])), (gn, .inr (3, [.int 0, .ref a0, .ref a1, .ref a2, .ref a3, .ref a4, .ref a5, .ref a6]))]) hP hD [1, 2] [0] rfl rfl (by decide) (by decide) hk1 hFc hP1 hD1
  generalize H1 = H at hP hS ⊢
  have hP : va_P (dC, dI) vwCl [(h0, .inr (11, [.ref d0, .ref d1, .ref d2, .ref d3, .ref d4, .ref d5, .ref d6, .ref d7, .ref d8, .ref d9])), (d8, .inr (2, [.int 0, .int 0, .int 0, .int 0, .int 0, .int 0, .int 0, .int 0, .int 0, .ref gn, .ref gf, .ref gp, .ref gs, .ref gr])), (gn, .inr (3, [.int 0, .ref a0, .ref a1, .ref a2, .ref a3, .ref a4, .ref a5, .ref a6]))] H := hP
  have hD : va_D A [(h0, .inr (11, [.ref d0, .ref d1, .ref d2, .ref d3, .ref d4, .ref d5, .ref d6, .ref d7, .ref d8, .ref d9])), (d8, .inr (2, [.int 0, .int 0, .int 0, .int 0, .int 0, .int 0, .int 0, .int 0, .int 0, .ref gn, .ref gf, .ref gp, .ref gs, .ref gr])), (gn, .inr (3, [.int 0, .ref a0, .ref a1, .ref a2, .ref a3, .ref a4, .ref a5, .ref a6]))] := hD
  subst hw
  refine lv_if_eq (tgt := 27) hx hb dX11_meet_8 (by decide) (fun c3 => ?_) (fun c3 => absurd c3 (by decide))
  refine lv_bipush (v := (-2)) hx hb dX11_meet_27 (by decide) ?_
  exact W.iret (v := (-2)) hx hb hr (fun t ht hW => ⟨⟨(-2), (), rfl, rfl, trivial⟩, hS.F ht⟩) hS.2.2 dX11_meet_29
set_option maxHeartbeats 4000000 in
set_option maxRecDepth 100000 in
theorem c_X11_rowAt (l : Launch) (dC : Nat → ClassId) (dI : Nat → Nat → Nat) (cI cZ cB cJ cM : ClassId) (h0 d0 d1 d2 d3 d4 d5 d6 d7 d8 d9 gn gf gp gs gr : Nat) (p0 : Int32) (sz : Nat) : Met l yX11_rowAt (kw yX11_rowAt cX11_rowAt 2 (some .int)) ({ frames := 1, cells := 0, slots := 0, locals := 21 }) (va_Pc [.ref h0, .int p0] (kPre dC dI [(cI, .int), (cZ, .boolean), (cB, .byte), (cJ, .long), (cM, .object RX2)] [(h0, .inr (11, [.ref d0, .ref d1, .ref d2, .ref d3, .ref d4, .ref d5, .ref d6, .ref d7, .ref d8, .ref d9])), (d8, .inr (2, [.int 0, .int 0, .int 0, .int 0, .int 0, .int 0, .int 0, .int 0, .int 0, .ref gn, .ref gf, .ref gp, .ref gs, .ref gr]))] sz)) (va_Qi (fun (r : Int32) (_ : Unit) => r = (-2)) (fun _ _ => True) (va_A [(h0, .inr (11, [.ref d0, .ref d1, .ref d2, .ref d3, .ref d4, .ref d5, .ref d6, .ref d7, .ref d8, .ref d9])), (d8, .inr (2, [.int 0, .int 0, .int 0, .int 0, .int 0, .int 0, .int 0, .int 0, .int 0, .ref gn, .ref gf, .ref gp, .ref gs, .ref gr]))] sz)) 0 0 (va_A [(h0, .inr (11, [.ref d0, .ref d1, .ref d2, .ref d3, .ref d4, .ref d5, .ref d6, .ref d7, .ref d8, .ref d9])), (d8, .inr (2, [.int 0, .int 0, .int 0, .int 0, .int 0, .int 0, .int 0, .int 0, .int 0, .ref gn, .ref gf, .ref gp, .ref gs, .ref gr]))] sz) := by
  refine kEnter (by decide) (Nat.le_of_ble_eq_true rfl) ?_
  intro p e s m below meth c ls hx hb hr hml hown hlocks hin hwd hsz hP hK hD hl
  subst hsz
  generalize hAe : va_A [(h0, .inr (11, [.ref d0, .ref d1, .ref d2, .ref d3, .ref d4, .ref d5, .ref d6, .ref d7, .ref d8, .ref d9])), (d8, .inr (2, [.int 0, .int 0, .int 0, .int 0, .int 0, .int 0, .int 0, .int 0, .int 0, .ref gn, .ref gf, .ref gp, .ref gs, .ref gr]))] s.heap.size = A at hD ⊢
  have hA : ∀ q : Nat, s.heap.size ≤ q → A q := fun q h => by rw [← hAe]; exact Or.inr h
  have hS : va_S A s.heap s.heap [] := va_S.rf
  have hl : lv_has ls 2 [(0, .ref h0), (1, .int p0)] := hl
  refine lv_aload_n hx hb dX11_rowAt_0 rfl (lv_at hl 0 rfl) ?_
  refine va_get (D := (dC, dI)) (ci := 11) (v := .ref d8) (C := RX11) (T := TX11) (N := 10) hx hb hwd inlX11 hown hK hP 0 rfl rfl 8 (by decide) (hwd _ kr2_19) (fun _ h9 => h9) rfl dX11_rowAt_1 ?_
  refine lv_iload_n hx hb dX11_rowAt_4 rfl (lv_at hl 1 rfl) ?_
  have hPc := hP.sub (ws' := [(d8, .inr (2, [.int 0, .int 0, .int 0, .int 0, .int 0, .int 0, .int 0, .int 0, .int 0, .ref gn, .ref gf, .ref gp, .ref gs, .ref gr]))]) [1] rfl
  have hDc := hD.sub (ws' := [(d8, .inr (2, [.int 0, .int 0, .int 0, .int 0, .int 0, .int 0, .int 0, .int 0, .int 0, .ref gn, .ref gf, .ref gp, .ref gs, .ref gr]))]) [1] (by decide) rfl
  have hFc := va_free (wc := [(d8, .inr (2, [.int 0, .int 0, .int 0, .int 0, .int 0, .int 0, .int 0, .int 0, .int 0, .ref gn, .ref gf, .ref gp, .ref gs, .ref gr]))]) hD hS hA [1] rfl
  refine va_calli (va_runV (As := [.int p0]) (rest := []) ⟨hx, hb, hml, hown, hwd⟩ (c_X2_hasStep l dC dI cI cZ cB cJ cM d8 gn gf gp gs gr p0 s.heap.size) (cwV 1 hwd (gV kr16_0 kr13_0 kr13_1 kr2_18 kr13_2) rfl rfl rfl (by decide +kernel) ⟨Nat.le_of_ble_eq_true rfl, Nat.le_of_ble_eq_true rfl⟩) (kPreV hPc hK hDc (ci := 2) (q0 := 0) rfl rfl) rfl rfl hl.1 rfl (lv_room (Nat.le_of_ble_eq_true rfl)) dX11_rowAt_5 ⟨Nat.le_of_ble_eq_true rfl, Nat.le_of_ble_eq_true rfl⟩) hS (fun q _ h => hFc q h) hFc (fun r1 u2 t H1 locs ht9 hvm hw hB hz1 hk1 hS => ?_)
  obtain ⟨hP1, hD1⟩ := hB
  rw [ht9] at hP1
  obtain ⟨hP, hD⟩ := va_join (wr := [(h0, .inr (11, [.ref d0, .ref d1, .ref d2, .ref d3, .ref d4, .ref d5, .ref d6, .ref d7, .ref d8, .ref d9]))]) (w1 := [(d8, .inr (2, [.int 0, .int 0, .int 0, .int 0, .int 0, .int 0, .int 0, .int 0, .int 0, .ref gn, .ref gf, .ref gp, .ref gs, .ref gr]))]) hP hD [1] [0] rfl rfl (by decide) (by decide) hk1 hFc hP1 hD1
  generalize H1 = H at hP hS ⊢
  have hP : va_P (dC, dI) vwCl [(h0, .inr (11, [.ref d0, .ref d1, .ref d2, .ref d3, .ref d4, .ref d5, .ref d6, .ref d7, .ref d8, .ref d9])), (d8, .inr (2, [.int 0, .int 0, .int 0, .int 0, .int 0, .int 0, .int 0, .int 0, .int 0, .ref gn, .ref gf, .ref gp, .ref gs, .ref gr]))] H := hP
  have hD : va_D A [(h0, .inr (11, [.ref d0, .ref d1, .ref d2, .ref d3, .ref d4, .ref d5, .ref d6, .ref d7, .ref d8, .ref d9])), (d8, .inr (2, [.int 0, .int 0, .int 0, .int 0, .int 0, .int 0, .int 0, .int 0, .int 0, .ref gn, .ref gf, .ref gp, .ref gs, .ref gr]))] := hD
  subst hw
  refine lv_if_ne (tgt := 14) hx hb dX11_rowAt_8 (by decide) (fun c3 => absurd c3 (by decide)) (fun c3 => ?_)
  refine lv_bipush (v := (-2)) hx hb dX11_rowAt_11 (by decide) ?_
  exact W.iret (v := (-2)) hx hb hr (fun t ht hW => ⟨⟨(-2), (), rfl, rfl, trivial⟩, hS.F ht⟩) hS.2.2 dX11_rowAt_13
set_option maxHeartbeats 4000000 in
set_option maxRecDepth 100000 in
theorem c_X11_cut (l : Launch) (dC : Nat → ClassId) (dI : Nat → Nat → Nat) (cI cZ cB cJ cM : ClassId) (h0 d0 d1 d2 d3 d4 d5 d6 d7 d8 d9 gn gf gp gs gr : Nat) (p0 p1 p2 : Int32) (sz : Nat) : Met l yX11_cut (kw yX11_cut cX11_cut 4 (some .int)) ({ frames := 1, cells := 0, slots := 0, locals := 21 }) (va_Pc [.ref h0, .int p0, .int p1, .int p2] (kPre dC dI [(cI, .int), (cZ, .boolean), (cB, .byte), (cJ, .long), (cM, .object RX2)] [(h0, .inr (11, [.ref d0, .ref d1, .ref d2, .ref d3, .ref d4, .ref d5, .ref d6, .ref d7, .ref d8, .ref d9])), (d8, .inr (2, [.int 0, .int 0, .int 0, .int 0, .int 0, .int 0, .int 0, .int 0, .int 0, .ref gn, .ref gf, .ref gp, .ref gs, .ref gr]))] sz)) (va_Qi (fun (r : Int32) (_ : Unit) => r = (-2)) (fun _ _ => True) (va_A [(h0, .inr (11, [.ref d0, .ref d1, .ref d2, .ref d3, .ref d4, .ref d5, .ref d6, .ref d7, .ref d8, .ref d9])), (d8, .inr (2, [.int 0, .int 0, .int 0, .int 0, .int 0, .int 0, .int 0, .int 0, .int 0, .ref gn, .ref gf, .ref gp, .ref gs, .ref gr]))] sz)) 0 0 (va_A [(h0, .inr (11, [.ref d0, .ref d1, .ref d2, .ref d3, .ref d4, .ref d5, .ref d6, .ref d7, .ref d8, .ref d9])), (d8, .inr (2, [.int 0, .int 0, .int 0, .int 0, .int 0, .int 0, .int 0, .int 0, .int 0, .ref gn, .ref gf, .ref gp, .ref gs, .ref gr]))] sz) := by
  refine kEnter (by decide) (Nat.le_of_ble_eq_true rfl) ?_
  intro p e s m below meth c ls hx hb hr hml hown hlocks hin hwd hsz hP hK hD hl
  subst hsz
  generalize hAe : va_A [(h0, .inr (11, [.ref d0, .ref d1, .ref d2, .ref d3, .ref d4, .ref d5, .ref d6, .ref d7, .ref d8, .ref d9])), (d8, .inr (2, [.int 0, .int 0, .int 0, .int 0, .int 0, .int 0, .int 0, .int 0, .int 0, .ref gn, .ref gf, .ref gp, .ref gs, .ref gr]))] s.heap.size = A at hD ⊢
  have hA : ∀ q : Nat, s.heap.size ≤ q → A q := fun q h => by rw [← hAe]; exact Or.inr h
  have hS : va_S A s.heap s.heap [] := va_S.rf
  have hl : lv_has ls 4 [(0, .ref h0), (1, .int p0), (2, .int p1), (3, .int p2)] := hl
  refine lv_aload_n hx hb dX11_cut_0 rfl (lv_at hl 0 rfl) ?_
  refine va_get (D := (dC, dI)) (ci := 11) (v := .ref d8) (C := RX11) (T := TX11) (N := 10) hx hb hwd inlX11 hown hK hP 0 rfl rfl 8 (by decide) (hwd _ kr2_19) (fun _ h9 => h9) rfl dX11_cut_1 ?_
  refine lv_iload_n hx hb dX11_cut_4 rfl (lv_at hl 3 rfl) ?_
  have hPc := hP.sub (ws' := [(d8, .inr (2, [.int 0, .int 0, .int 0, .int 0, .int 0, .int 0, .int 0, .int 0, .int 0, .ref gn, .ref gf, .ref gp, .ref gs, .ref gr]))]) [1] rfl
  have hDc := hD.sub (ws' := [(d8, .inr (2, [.int 0, .int 0, .int 0, .int 0, .int 0, .int 0, .int 0, .int 0, .int 0, .ref gn, .ref gf, .ref gp, .ref gs, .ref gr]))]) [1] (by decide) rfl
  have hFc := va_free (wc := [(d8, .inr (2, [.int 0, .int 0, .int 0, .int 0, .int 0, .int 0, .int 0, .int 0, .int 0, .ref gn, .ref gf, .ref gp, .ref gs, .ref gr]))]) hD hS hA [1] rfl
  refine va_calli (va_runV (As := [.int p2]) (rest := []) ⟨hx, hb, hml, hown, hwd⟩ (c_X2_hasStep l dC dI cI cZ cB cJ cM d8 gn gf gp gs gr p2 s.heap.size) (cwV 1 hwd (gV kr16_0 kr13_0 kr13_1 kr2_18 kr13_2) rfl rfl rfl (by decide +kernel) ⟨Nat.le_of_ble_eq_true rfl, Nat.le_of_ble_eq_true rfl⟩) (kPreV hPc hK hDc (ci := 2) (q0 := 0) rfl rfl) rfl rfl hl.1 rfl (lv_room (Nat.le_of_ble_eq_true rfl)) dX11_cut_5 ⟨Nat.le_of_ble_eq_true rfl, Nat.le_of_ble_eq_true rfl⟩) hS (fun q _ h => hFc q h) hFc (fun r1 u2 t H1 locs ht9 hvm hw hB hz1 hk1 hS => ?_)
  obtain ⟨hP1, hD1⟩ := hB
  rw [ht9] at hP1
  obtain ⟨hP, hD⟩ := va_join (wr := [(h0, .inr (11, [.ref d0, .ref d1, .ref d2, .ref d3, .ref d4, .ref d5, .ref d6, .ref d7, .ref d8, .ref d9]))]) (w1 := [(d8, .inr (2, [.int 0, .int 0, .int 0, .int 0, .int 0, .int 0, .int 0, .int 0, .int 0, .ref gn, .ref gf, .ref gp, .ref gs, .ref gr]))]) hP hD [1] [0] rfl rfl (by decide) (by decide) hk1 hFc hP1 hD1
  generalize H1 = H at hP hS ⊢
  have hP : va_P (dC, dI) vwCl [(h0, .inr (11, [.ref d0, .ref d1, .ref d2, .ref d3, .ref d4, .ref d5, .ref d6, .ref d7, .ref d8, .ref d9])), (d8, .inr (2, [.int 0, .int 0, .int 0, .int 0, .int 0, .int 0, .int 0, .int 0, .int 0, .ref gn, .ref gf, .ref gp, .ref gs, .ref gr]))] H := hP
  have hD : va_D A [(h0, .inr (11, [.ref d0, .ref d1, .ref d2, .ref d3, .ref d4, .ref d5, .ref d6, .ref d7, .ref d8, .ref d9])), (d8, .inr (2, [.int 0, .int 0, .int 0, .int 0, .int 0, .int 0, .int 0, .int 0, .int 0, .ref gn, .ref gf, .ref gp, .ref gs, .ref gr]))] := hD
  subst hw
  refine lv_if_eq (tgt := 19) hx hb dX11_cut_8 (by decide) (fun c3 => ?_) (fun c3 => absurd c3 (by decide))
  refine lv_bipush (v := (-2)) hx hb dX11_cut_19 (by decide) ?_
  exact W.iret (v := (-2)) hx hb hr (fun t ht hW => ⟨⟨(-2), (), rfl, rfl, trivial⟩, hS.F ht⟩) hS.2.2 dX11_cut_21
set_option maxHeartbeats 4000000 in
set_option maxRecDepth 100000 in
theorem c_X11_brings (l : Launch) (dC : Nat → ClassId) (dI : Nat → Nat → Nat) (cI cZ cB cJ cM : ClassId) (h0 d0 d1 d2 d3 d4 d5 d6 d7 d8 d9 gn gf gp gs gr : Nat) (p0 p1 : Int32) (sz : Nat) : Met l yX11_brings (kw yX11_brings cX11_brings 3 (some .int)) ({ frames := 1, cells := 0, slots := 0, locals := 20 }) (va_Pc [.ref h0, .int p0, .int p1] (kPre dC dI [(cI, .int), (cZ, .boolean), (cB, .byte), (cJ, .long), (cM, .object RX2)] [(h0, .inr (11, [.ref d0, .ref d1, .ref d2, .ref d3, .ref d4, .ref d5, .ref d6, .ref d7, .ref d8, .ref d9])), (d8, .inr (2, [.int 0, .int 0, .int 0, .int 0, .int 0, .int 0, .int 0, .int 0, .int 0, .ref gn, .ref gf, .ref gp, .ref gs, .ref gr]))] sz)) (va_Qi (fun (r : Int32) (_ : Unit) => r = (-2)) (fun _ _ => True) (va_A [(h0, .inr (11, [.ref d0, .ref d1, .ref d2, .ref d3, .ref d4, .ref d5, .ref d6, .ref d7, .ref d8, .ref d9])), (d8, .inr (2, [.int 0, .int 0, .int 0, .int 0, .int 0, .int 0, .int 0, .int 0, .int 0, .ref gn, .ref gf, .ref gp, .ref gs, .ref gr]))] sz)) 0 0 (va_A [(h0, .inr (11, [.ref d0, .ref d1, .ref d2, .ref d3, .ref d4, .ref d5, .ref d6, .ref d7, .ref d8, .ref d9])), (d8, .inr (2, [.int 0, .int 0, .int 0, .int 0, .int 0, .int 0, .int 0, .int 0, .int 0, .ref gn, .ref gf, .ref gp, .ref gs, .ref gr]))] sz) := by
  refine kEnter (by decide) (Nat.le_of_ble_eq_true rfl) ?_
  intro p e s m below meth c ls hx hb hr hml hown hlocks hin hwd hsz hP hK hD hl
  subst hsz
  generalize hAe : va_A [(h0, .inr (11, [.ref d0, .ref d1, .ref d2, .ref d3, .ref d4, .ref d5, .ref d6, .ref d7, .ref d8, .ref d9])), (d8, .inr (2, [.int 0, .int 0, .int 0, .int 0, .int 0, .int 0, .int 0, .int 0, .int 0, .ref gn, .ref gf, .ref gp, .ref gs, .ref gr]))] s.heap.size = A at hD ⊢
  have hA : ∀ q : Nat, s.heap.size ≤ q → A q := fun q h => by rw [← hAe]; exact Or.inr h
  have hS : va_S A s.heap s.heap [] := va_S.rf
  have hl : lv_has ls 3 [(0, .ref h0), (1, .int p0), (2, .int p1)] := hl
  refine lv_aload_n hx hb dX11_brings_0 rfl (lv_at hl 0 rfl) ?_
  refine va_get (D := (dC, dI)) (ci := 11) (v := .ref d8) (C := RX11) (T := TX11) (N := 10) hx hb hwd inlX11 hown hK hP 0 rfl rfl 8 (by decide) (hwd _ kr2_19) (fun _ h9 => h9) rfl dX11_brings_1 ?_
  have hPc := hP.sub (ws' := [(d8, .inr (2, [.int 0, .int 0, .int 0, .int 0, .int 0, .int 0, .int 0, .int 0, .int 0, .ref gn, .ref gf, .ref gp, .ref gs, .ref gr]))]) [1] rfl
  have hDc := hD.sub (ws' := [(d8, .inr (2, [.int 0, .int 0, .int 0, .int 0, .int 0, .int 0, .int 0, .int 0, .int 0, .ref gn, .ref gf, .ref gp, .ref gs, .ref gr]))]) [1] (by decide) rfl
  have hFc := va_free (wc := [(d8, .inr (2, [.int 0, .int 0, .int 0, .int 0, .int 0, .int 0, .int 0, .int 0, .int 0, .ref gn, .ref gf, .ref gp, .ref gs, .ref gr]))]) hD hS hA [1] rfl
  refine va_calli (va_runV (As := []) (rest := []) ⟨hx, hb, hml, hown, hwd⟩ (c_X2_isTold l dC dI cI cZ cB cJ cM d8 gn gf gp gs gr s.heap.size) (cwV 0 hwd (gV kr14_23 kr15_0 kr15_1 kr2_18 kr15_2) rfl rfl rfl (by decide +kernel) ⟨Nat.le_of_ble_eq_true rfl, Nat.le_of_ble_eq_true rfl⟩) (kPreV hPc hK hDc (ci := 2) (q0 := 0) rfl rfl) rfl rfl hl.1 rfl (lv_room (Nat.le_of_ble_eq_true rfl)) dX11_brings_4 ⟨Nat.le_of_ble_eq_true rfl, Nat.le_of_ble_eq_true rfl⟩) hS (fun q _ h => hFc q h) hFc (fun r1 u2 t H1 locs ht9 hvm hw hB hz1 hk1 hS => ?_)
  obtain ⟨hP1, hD1⟩ := hB
  rw [ht9] at hP1
  obtain ⟨hP, hD⟩ := va_join (wr := [(h0, .inr (11, [.ref d0, .ref d1, .ref d2, .ref d3, .ref d4, .ref d5, .ref d6, .ref d7, .ref d8, .ref d9]))]) (w1 := [(d8, .inr (2, [.int 0, .int 0, .int 0, .int 0, .int 0, .int 0, .int 0, .int 0, .int 0, .ref gn, .ref gf, .ref gp, .ref gs, .ref gr]))]) hP hD [1] [0] rfl rfl (by decide) (by decide) hk1 hFc hP1 hD1
  generalize H1 = H at hP hS ⊢
  have hP : va_P (dC, dI) vwCl [(h0, .inr (11, [.ref d0, .ref d1, .ref d2, .ref d3, .ref d4, .ref d5, .ref d6, .ref d7, .ref d8, .ref d9])), (d8, .inr (2, [.int 0, .int 0, .int 0, .int 0, .int 0, .int 0, .int 0, .int 0, .int 0, .ref gn, .ref gf, .ref gp, .ref gs, .ref gr]))] H := hP
  have hD : va_D A [(h0, .inr (11, [.ref d0, .ref d1, .ref d2, .ref d3, .ref d4, .ref d5, .ref d6, .ref d7, .ref d8, .ref d9])), (d8, .inr (2, [.int 0, .int 0, .int 0, .int 0, .int 0, .int 0, .int 0, .int 0, .int 0, .ref gn, .ref gf, .ref gp, .ref gs, .ref gr]))] := hD
  subst hw
  refine lv_if_eq (tgt := 18) hx hb dX11_brings_7 (by decide) (fun c3 => ?_) (fun c3 => absurd c3 (by decide))
  refine lv_bipush (v := (-2)) hx hb dX11_brings_18 (by decide) ?_
  exact W.iret (v := (-2)) hx hb hr (fun t ht hW => ⟨⟨(-2), (), rfl, rfl, trivial⟩, hS.F ht⟩) hS.2.2 dX11_brings_20
set_option maxHeartbeats 4000000 in
set_option maxRecDepth 100000 in
theorem c_X11_widest (l : Launch) (dC : Nat → ClassId) (dI : Nat → Nat → Nat) (cI cZ cB cJ cM : ClassId) (h0 d0 d1 d2 d3 d4 d5 d6 d7 d8 d9 gn gf gp gs gr : Nat) (p0 : Int32) (sz : Nat) : Met l yX11_widest (kw yX11_widest cX11_widest 3 (some .int)) ({ frames := 1, cells := 0, slots := 0, locals := 20 }) (va_Pc [.ref h0, .int p0] (kPre dC dI [(cI, .int), (cZ, .boolean), (cB, .byte), (cJ, .long), (cM, .object RX2)] [(h0, .inr (11, [.ref d0, .ref d1, .ref d2, .ref d3, .ref d4, .ref d5, .ref d6, .ref d7, .ref d8, .ref d9])), (d8, .inr (2, [.int 0, .int 0, .int 0, .int 0, .int 0, .int 0, .int 0, .int 0, .int 0, .ref gn, .ref gf, .ref gp, .ref gs, .ref gr]))] sz)) (va_Qi (fun (r : Int32) (_ : Unit) => r = (-2)) (fun _ _ => True) (va_A [(h0, .inr (11, [.ref d0, .ref d1, .ref d2, .ref d3, .ref d4, .ref d5, .ref d6, .ref d7, .ref d8, .ref d9])), (d8, .inr (2, [.int 0, .int 0, .int 0, .int 0, .int 0, .int 0, .int 0, .int 0, .int 0, .ref gn, .ref gf, .ref gp, .ref gs, .ref gr]))] sz)) 0 0 (va_A [(h0, .inr (11, [.ref d0, .ref d1, .ref d2, .ref d3, .ref d4, .ref d5, .ref d6, .ref d7, .ref d8, .ref d9])), (d8, .inr (2, [.int 0, .int 0, .int 0, .int 0, .int 0, .int 0, .int 0, .int 0, .int 0, .ref gn, .ref gf, .ref gp, .ref gs, .ref gr]))] sz) := by
  refine kEnter (by decide) (Nat.le_of_ble_eq_true rfl) ?_
  intro p e s m below meth c ls hx hb hr hml hown hlocks hin hwd hsz hP hK hD hl
  subst hsz
  generalize hAe : va_A [(h0, .inr (11, [.ref d0, .ref d1, .ref d2, .ref d3, .ref d4, .ref d5, .ref d6, .ref d7, .ref d8, .ref d9])), (d8, .inr (2, [.int 0, .int 0, .int 0, .int 0, .int 0, .int 0, .int 0, .int 0, .int 0, .ref gn, .ref gf, .ref gp, .ref gs, .ref gr]))] s.heap.size = A at hD ⊢
  have hA : ∀ q : Nat, s.heap.size ≤ q → A q := fun q h => by rw [← hAe]; exact Or.inr h
  have hS : va_S A s.heap s.heap [] := va_S.rf
  have hl : lv_has ls 3 [(0, .ref h0), (1, .int p0)] := hl
  refine lv_aload_n hx hb dX11_widest_0 rfl (lv_at hl 0 rfl) ?_
  refine va_get (D := (dC, dI)) (ci := 11) (v := .ref d8) (C := RX11) (T := TX11) (N := 10) hx hb hwd inlX11 hown hK hP 0 rfl rfl 8 (by decide) (hwd _ kr2_19) (fun _ h9 => h9) rfl dX11_widest_1 ?_
  have hPc := hP.sub (ws' := [(d8, .inr (2, [.int 0, .int 0, .int 0, .int 0, .int 0, .int 0, .int 0, .int 0, .int 0, .ref gn, .ref gf, .ref gp, .ref gs, .ref gr]))]) [1] rfl
  have hDc := hD.sub (ws' := [(d8, .inr (2, [.int 0, .int 0, .int 0, .int 0, .int 0, .int 0, .int 0, .int 0, .int 0, .ref gn, .ref gf, .ref gp, .ref gs, .ref gr]))]) [1] (by decide) rfl
  have hFc := va_free (wc := [(d8, .inr (2, [.int 0, .int 0, .int 0, .int 0, .int 0, .int 0, .int 0, .int 0, .int 0, .ref gn, .ref gf, .ref gp, .ref gs, .ref gr]))]) hD hS hA [1] rfl
  refine va_calli (va_runV (As := []) (rest := []) ⟨hx, hb, hml, hown, hwd⟩ (c_X2_isTold l dC dI cI cZ cB cJ cM d8 gn gf gp gs gr s.heap.size) (cwV 0 hwd (gV kr14_23 kr15_0 kr15_1 kr2_18 kr15_2) rfl rfl rfl (by decide +kernel) ⟨Nat.le_of_ble_eq_true rfl, Nat.le_of_ble_eq_true rfl⟩) (kPreV hPc hK hDc (ci := 2) (q0 := 0) rfl rfl) rfl rfl hl.1 rfl (lv_room (Nat.le_of_ble_eq_true rfl)) dX11_widest_4 ⟨Nat.le_of_ble_eq_true rfl, Nat.le_of_ble_eq_true rfl⟩) hS (fun q _ h => hFc q h) hFc (fun r1 u2 t H1 locs ht9 hvm hw hB hz1 hk1 hS => ?_)
  obtain ⟨hP1, hD1⟩ := hB
  rw [ht9] at hP1
  obtain ⟨hP, hD⟩ := va_join (wr := [(h0, .inr (11, [.ref d0, .ref d1, .ref d2, .ref d3, .ref d4, .ref d5, .ref d6, .ref d7, .ref d8, .ref d9]))]) (w1 := [(d8, .inr (2, [.int 0, .int 0, .int 0, .int 0, .int 0, .int 0, .int 0, .int 0, .int 0, .ref gn, .ref gf, .ref gp, .ref gs, .ref gr]))]) hP hD [1] [0] rfl rfl (by decide) (by decide) hk1 hFc hP1 hD1
  generalize H1 = H at hP hS ⊢
  have hP : va_P (dC, dI) vwCl [(h0, .inr (11, [.ref d0, .ref d1, .ref d2, .ref d3, .ref d4, .ref d5, .ref d6, .ref d7, .ref d8, .ref d9])), (d8, .inr (2, [.int 0, .int 0, .int 0, .int 0, .int 0, .int 0, .int 0, .int 0, .int 0, .ref gn, .ref gf, .ref gp, .ref gs, .ref gr]))] H := hP
  have hD : va_D A [(h0, .inr (11, [.ref d0, .ref d1, .ref d2, .ref d3, .ref d4, .ref d5, .ref d6, .ref d7, .ref d8, .ref d9])), (d8, .inr (2, [.int 0, .int 0, .int 0, .int 0, .int 0, .int 0, .int 0, .int 0, .int 0, .ref gn, .ref gf, .ref gp, .ref gs, .ref gr]))] := hD
  subst hw
  refine lv_if_eq (tgt := 20) hx hb dX11_widest_7 (by decide) (fun c3 => ?_) (fun c3 => absurd c3 (by decide))
  refine lv_bipush (v := (-2)) hx hb dX11_widest_20 (by decide) ?_
  exact W.iret (v := (-2)) hx hb hr (fun t ht hW => ⟨⟨(-2), (), rfl, rfl, trivial⟩, hS.F ht⟩) hS.2.2 dX11_widest_22
set_option maxHeartbeats 4000000 in
set_option maxRecDepth 100000 in
theorem c_X11_hard (l : Launch) (dC : Nat → ClassId) (dI : Nat → Nat → Nat) (cI cZ cB cJ cM : ClassId) (h0 d0 d1 d2 d3 d4 d5 d6 d7 d8 d9 gn gf gp gs gr : Nat) (p0 : Int32) (sz : Nat) : Met l yX11_hard (kw yX11_hard cX11_hard 2 (some .int)) ({ frames := 1, cells := 0, slots := 0, locals := 20 }) (va_Pc [.ref h0, .int p0] (kPre dC dI [(cI, .int), (cZ, .boolean), (cB, .byte), (cJ, .long), (cM, .object RX2)] [(h0, .inr (11, [.ref d0, .ref d1, .ref d2, .ref d3, .ref d4, .ref d5, .ref d6, .ref d7, .ref d8, .ref d9])), (d8, .inr (2, [.int 0, .int 0, .int 0, .int 0, .int 0, .int 0, .int 0, .int 0, .int 0, .ref gn, .ref gf, .ref gp, .ref gs, .ref gr]))] sz)) (va_Qi (fun (r : Int32) (_ : Unit) => r = (-2)) (fun _ _ => True) (va_A [(h0, .inr (11, [.ref d0, .ref d1, .ref d2, .ref d3, .ref d4, .ref d5, .ref d6, .ref d7, .ref d8, .ref d9])), (d8, .inr (2, [.int 0, .int 0, .int 0, .int 0, .int 0, .int 0, .int 0, .int 0, .int 0, .ref gn, .ref gf, .ref gp, .ref gs, .ref gr]))] sz)) 0 0 (va_A [(h0, .inr (11, [.ref d0, .ref d1, .ref d2, .ref d3, .ref d4, .ref d5, .ref d6, .ref d7, .ref d8, .ref d9])), (d8, .inr (2, [.int 0, .int 0, .int 0, .int 0, .int 0, .int 0, .int 0, .int 0, .int 0, .ref gn, .ref gf, .ref gp, .ref gs, .ref gr]))] sz) := by
  refine kEnter (by decide) (Nat.le_of_ble_eq_true rfl) ?_
  intro p e s m below meth c ls hx hb hr hml hown hlocks hin hwd hsz hP hK hD hl
  subst hsz
  generalize hAe : va_A [(h0, .inr (11, [.ref d0, .ref d1, .ref d2, .ref d3, .ref d4, .ref d5, .ref d6, .ref d7, .ref d8, .ref d9])), (d8, .inr (2, [.int 0, .int 0, .int 0, .int 0, .int 0, .int 0, .int 0, .int 0, .int 0, .ref gn, .ref gf, .ref gp, .ref gs, .ref gr]))] s.heap.size = A at hD ⊢
  have hA : ∀ q : Nat, s.heap.size ≤ q → A q := fun q h => by rw [← hAe]; exact Or.inr h
  have hS : va_S A s.heap s.heap [] := va_S.rf
  have hl : lv_has ls 2 [(0, .ref h0), (1, .int p0)] := hl
  refine lv_aload_n hx hb dX11_hard_0 rfl (lv_at hl 0 rfl) ?_
  refine va_get (D := (dC, dI)) (ci := 11) (v := .ref d8) (C := RX11) (T := TX11) (N := 10) hx hb hwd inlX11 hown hK hP 0 rfl rfl 8 (by decide) (hwd _ kr2_19) (fun _ h9 => h9) rfl dX11_hard_1 ?_
  have hPc := hP.sub (ws' := [(d8, .inr (2, [.int 0, .int 0, .int 0, .int 0, .int 0, .int 0, .int 0, .int 0, .int 0, .ref gn, .ref gf, .ref gp, .ref gs, .ref gr]))]) [1] rfl
  have hDc := hD.sub (ws' := [(d8, .inr (2, [.int 0, .int 0, .int 0, .int 0, .int 0, .int 0, .int 0, .int 0, .int 0, .ref gn, .ref gf, .ref gp, .ref gs, .ref gr]))]) [1] (by decide) rfl
  have hFc := va_free (wc := [(d8, .inr (2, [.int 0, .int 0, .int 0, .int 0, .int 0, .int 0, .int 0, .int 0, .int 0, .ref gn, .ref gf, .ref gp, .ref gs, .ref gr]))]) hD hS hA [1] rfl
  refine va_calli (va_runV (As := []) (rest := []) ⟨hx, hb, hml, hown, hwd⟩ (c_X2_isTold l dC dI cI cZ cB cJ cM d8 gn gf gp gs gr s.heap.size) (cwV 0 hwd (gV kr14_23 kr15_0 kr15_1 kr2_18 kr15_2) rfl rfl rfl (by decide +kernel) ⟨Nat.le_of_ble_eq_true rfl, Nat.le_of_ble_eq_true rfl⟩) (kPreV hPc hK hDc (ci := 2) (q0 := 0) rfl rfl) rfl rfl hl.1 rfl (lv_room (Nat.le_of_ble_eq_true rfl)) dX11_hard_4 ⟨Nat.le_of_ble_eq_true rfl, Nat.le_of_ble_eq_true rfl⟩) hS (fun q _ h => hFc q h) hFc (fun r1 u2 t H1 locs ht9 hvm hw hB hz1 hk1 hS => ?_)
  obtain ⟨hP1, hD1⟩ := hB
  rw [ht9] at hP1
  obtain ⟨hP, hD⟩ := va_join (wr := [(h0, .inr (11, [.ref d0, .ref d1, .ref d2, .ref d3, .ref d4, .ref d5, .ref d6, .ref d7, .ref d8, .ref d9]))]) (w1 := [(d8, .inr (2, [.int 0, .int 0, .int 0, .int 0, .int 0, .int 0, .int 0, .int 0, .int 0, .ref gn, .ref gf, .ref gp, .ref gs, .ref gr]))]) hP hD [1] [0] rfl rfl (by decide) (by decide) hk1 hFc hP1 hD1
  generalize H1 = H at hP hS ⊢
  have hP : va_P (dC, dI) vwCl [(h0, .inr (11, [.ref d0, .ref d1, .ref d2, .ref d3, .ref d4, .ref d5, .ref d6, .ref d7, .ref d8, .ref d9])), (d8, .inr (2, [.int 0, .int 0, .int 0, .int 0, .int 0, .int 0, .int 0, .int 0, .int 0, .ref gn, .ref gf, .ref gp, .ref gs, .ref gr]))] H := hP
  have hD : va_D A [(h0, .inr (11, [.ref d0, .ref d1, .ref d2, .ref d3, .ref d4, .ref d5, .ref d6, .ref d7, .ref d8, .ref d9])), (d8, .inr (2, [.int 0, .int 0, .int 0, .int 0, .int 0, .int 0, .int 0, .int 0, .int 0, .ref gn, .ref gf, .ref gp, .ref gs, .ref gr]))] := hD
  subst hw
  refine lv_if_eq (tgt := 20) hx hb dX11_hard_7 (by decide) (fun c3 => ?_) (fun c3 => absurd c3 (by decide))
  refine lv_bipush (v := (-2)) hx hb dX11_hard_20 (by decide) ?_
  exact W.iret (v := (-2)) hx hb hr (fun t ht hW => ⟨⟨(-2), (), rfl, rfl, trivial⟩, hS.F ht⟩) hS.2.2 dX11_hard_22
set_option maxHeartbeats 4000000 in
set_option maxRecDepth 100000 in
theorem c_X11_differs (l : Launch) (dC : Nat → ClassId) (dI : Nat → Nat → Nat) (cI cZ cB cJ cM : ClassId) (h0 d0 d1 d2 d3 d4 d5 d6 d7 d8 d9 gn gf gp gs gr b0 b1 b2 b3 b4 b5 b6 b7 b8 : Nat) (p0 : Int32) (sz : Nat) : Met l yX11_differs (kw yX11_differs cX11_differs 2 (some .int)) ({ frames := 1, cells := 0, slots := 0, locals := 21 }) (va_Pc [.ref h0, .int p0] (kPre dC dI [(cI, .int), (cZ, .boolean), (cB, .byte), (cJ, .long), (cM, .object RX2)] [(h0, .inr (11, [.ref d0, .ref d1, .ref d2, .ref d3, .ref d4, .ref d5, .ref d6, .ref d7, .ref d8, .ref d9])), (d8, .inr (2, [.int 0, .int 0, .int 0, .int 0, .int 0, .int 0, .int 0, .int 0, .int 0, .ref gn, .ref gf, .ref gp, .ref gs, .ref gr])), (gf, .inr (1, [.int 0, .ref b0, .ref b1, .ref b2, .ref b3, .ref b4, .ref b5, .ref b6, .ref b7, .ref b8]))] sz)) (va_Qi (fun (r : Int32) (_ : Unit) => r = (-2)) (fun _ _ => True) (va_A [(h0, .inr (11, [.ref d0, .ref d1, .ref d2, .ref d3, .ref d4, .ref d5, .ref d6, .ref d7, .ref d8, .ref d9])), (d8, .inr (2, [.int 0, .int 0, .int 0, .int 0, .int 0, .int 0, .int 0, .int 0, .int 0, .ref gn, .ref gf, .ref gp, .ref gs, .ref gr])), (gf, .inr (1, [.int 0, .ref b0, .ref b1, .ref b2, .ref b3, .ref b4, .ref b5, .ref b6, .ref b7, .ref b8]))] sz)) 0 0 (va_A [(h0, .inr (11, [.ref d0, .ref d1, .ref d2, .ref d3, .ref d4, .ref d5, .ref d6, .ref d7, .ref d8, .ref d9])), (d8, .inr (2, [.int 0, .int 0, .int 0, .int 0, .int 0, .int 0, .int 0, .int 0, .int 0, .ref gn, .ref gf, .ref gp, .ref gs, .ref gr])), (gf, .inr (1, [.int 0, .ref b0, .ref b1, .ref b2, .ref b3, .ref b4, .ref b5, .ref b6, .ref b7, .ref b8]))] sz) := by
  refine kEnter (by decide) (Nat.le_of_ble_eq_true rfl) ?_
  intro p e s m below meth c ls hx hb hr hml hown hlocks hin hwd hsz hP hK hD hl
  subst hsz
  generalize hAe : va_A [(h0, .inr (11, [.ref d0, .ref d1, .ref d2, .ref d3, .ref d4, .ref d5, .ref d6, .ref d7, .ref d8, .ref d9])), (d8, .inr (2, [.int 0, .int 0, .int 0, .int 0, .int 0, .int 0, .int 0, .int 0, .int 0, .ref gn, .ref gf, .ref gp, .ref gs, .ref gr])), (gf, .inr (1, [.int 0, .ref b0, .ref b1, .ref b2, .ref b3, .ref b4, .ref b5, .ref b6, .ref b7, .ref b8]))] s.heap.size = A at hD ⊢
  have hA : ∀ q : Nat, s.heap.size ≤ q → A q := fun q h => by rw [← hAe]; exact Or.inr h
  have hS : va_S A s.heap s.heap [] := va_S.rf
  have hl : lv_has ls 2 [(0, .ref h0), (1, .int p0)] := hl
  refine lv_aload_n hx hb dX11_differs_0 rfl (lv_at hl 0 rfl) ?_
  refine va_get (D := (dC, dI)) (ci := 11) (v := .ref d8) (C := RX11) (T := TX11) (N := 10) hx hb hwd inlX11 hown hK hP 0 rfl rfl 8 (by decide) (hwd _ kr2_19) (fun _ h9 => h9) rfl dX11_differs_1 ?_
  refine lv_iload_n hx hb dX11_differs_4 rfl (lv_at hl 1 rfl) ?_
  have hPc := hP.sub (ws' := [(d8, .inr (2, [.int 0, .int 0, .int 0, .int 0, .int 0, .int 0, .int 0, .int 0, .int 0, .ref gn, .ref gf, .ref gp, .ref gs, .ref gr])), (gf, .inr (1, [.int 0, .ref b0, .ref b1, .ref b2, .ref b3, .ref b4, .ref b5, .ref b6, .ref b7, .ref b8]))]) [1, 2] rfl
  have hDc := hD.sub (ws' := [(d8, .inr (2, [.int 0, .int 0, .int 0, .int 0, .int 0, .int 0, .int 0, .int 0, .int 0, .ref gn, .ref gf, .ref gp, .ref gs, .ref gr])), (gf, .inr (1, [.int 0, .ref b0, .ref b1, .ref b2, .ref b3, .ref b4, .ref b5, .ref b6, .ref b7, .ref b8]))]) [1, 2] (by decide) rfl
  have hFc := va_free (wc := [(d8, .inr (2, [.int 0, .int 0, .int 0, .int 0, .int 0, .int 0, .int 0, .int 0, .int 0, .ref gn, .ref gf, .ref gp, .ref gs, .ref gr])), (gf, .inr (1, [.int 0, .ref b0, .ref b1, .ref b2, .ref b3, .ref b4, .ref b5, .ref b6, .ref b7, .ref b8]))]) hD hS hA [1, 2] rfl
  refine va_calli (va_runV (As := [.int p0]) (rest := []) ⟨hx, hb, hml, hown, hwd⟩ (c_X2_hasFollower l dC dI cI cZ cB cJ cM d8 gn gf gp gs gr b0 b1 b2 b3 b4 b5 b6 b7 b8 p0 s.heap.size) (cwV 1 hwd (gV kr16_17 kr12_21 kr12_22 kr2_18 kr12_23) rfl rfl rfl (by decide +kernel) ⟨Nat.le_of_ble_eq_true rfl, Nat.le_of_ble_eq_true rfl⟩) (kPreV hPc hK hDc (ci := 2) (q0 := 0) rfl rfl) rfl rfl hl.1 rfl (lv_room (Nat.le_of_ble_eq_true rfl)) dX11_differs_5 ⟨Nat.le_of_ble_eq_true rfl, Nat.le_of_ble_eq_true rfl⟩) hS (fun q _ h => hFc q h) hFc (fun r1 u2 t H1 locs ht9 hvm hw hB hz1 hk1 hS => ?_)
  obtain ⟨hP1, hD1⟩ := hB
  rw [ht9] at hP1
  obtain ⟨hP, hD⟩ := va_join (wr := [(h0, .inr (11, [.ref d0, .ref d1, .ref d2, .ref d3, .ref d4, .ref d5, .ref d6, .ref d7, .ref d8, .ref d9]))]) (w1 := [(d8, .inr (2, [.int 0, .int 0, .int 0, .int 0, .int 0, .int 0, .int 0, .int 0, .int 0, .ref gn, .ref gf, .ref gp, .ref gs, .ref gr])), (gf, .inr (1, [.int 0, .ref b0, .ref b1, .ref b2, .ref b3, .ref b4, .ref b5, .ref b6, .ref b7, .ref b8]))]) hP hD [1, 2] [0] rfl rfl (by decide) (by decide) hk1 hFc hP1 hD1
  generalize H1 = H at hP hS ⊢
  have hP : va_P (dC, dI) vwCl [(h0, .inr (11, [.ref d0, .ref d1, .ref d2, .ref d3, .ref d4, .ref d5, .ref d6, .ref d7, .ref d8, .ref d9])), (d8, .inr (2, [.int 0, .int 0, .int 0, .int 0, .int 0, .int 0, .int 0, .int 0, .int 0, .ref gn, .ref gf, .ref gp, .ref gs, .ref gr])), (gf, .inr (1, [.int 0, .ref b0, .ref b1, .ref b2, .ref b3, .ref b4, .ref b5, .ref b6, .ref b7, .ref b8]))] H := hP
  have hD : va_D A [(h0, .inr (11, [.ref d0, .ref d1, .ref d2, .ref d3, .ref d4, .ref d5, .ref d6, .ref d7, .ref d8, .ref d9])), (d8, .inr (2, [.int 0, .int 0, .int 0, .int 0, .int 0, .int 0, .int 0, .int 0, .int 0, .ref gn, .ref gf, .ref gp, .ref gs, .ref gr])), (gf, .inr (1, [.int 0, .ref b0, .ref b1, .ref b2, .ref b3, .ref b4, .ref b5, .ref b6, .ref b7, .ref b8]))] := hD
  subst hw
  refine lv_if_ne (tgt := 14) hx hb dX11_differs_8 (by decide) (fun c3 => absurd c3 (by decide)) (fun c3 => ?_)
  refine lv_bipush (v := (-2)) hx hb dX11_differs_11 (by decide) ?_
  exact W.iret (v := (-2)) hx hb hr (fun t ht hW => ⟨⟨(-2), (), rfl, rfl, trivial⟩, hS.F ht⟩) hS.2.2 dX11_differs_13
set_option maxHeartbeats 4000000 in
set_option maxRecDepth 100000 in
theorem c_X11_phase (l : Launch) (dC : Nat → ClassId) (dI : Nat → Nat → Nat) (cI cZ cB cJ cM : ClassId) (h0 d0 d1 d2 d3 d4 d5 d6 d7 d8 d9 gn gf gp gs gr b0 b1 b2 b3 b4 b5 b6 b7 b8 : Nat) (p0 : Int32) (sz : Nat) : Met l yX11_phase (kw yX11_phase cX11_phase 3 (some .int)) ({ frames := 1, cells := 0, slots := 0, locals := 21 }) (va_Pc [.ref h0, .int p0] (kPre dC dI [(cI, .int), (cZ, .boolean), (cB, .byte), (cJ, .long), (cM, .object RX2)] [(h0, .inr (11, [.ref d0, .ref d1, .ref d2, .ref d3, .ref d4, .ref d5, .ref d6, .ref d7, .ref d8, .ref d9])), (d8, .inr (2, [.int 0, .int 0, .int 0, .int 0, .int 0, .int 0, .int 0, .int 0, .int 0, .ref gn, .ref gf, .ref gp, .ref gs, .ref gr])), (gf, .inr (1, [.int 0, .ref b0, .ref b1, .ref b2, .ref b3, .ref b4, .ref b5, .ref b6, .ref b7, .ref b8]))] sz)) (va_Qi (fun (r : Int32) (_ : Unit) => r = (-2)) (fun _ _ => True) (va_A [(h0, .inr (11, [.ref d0, .ref d1, .ref d2, .ref d3, .ref d4, .ref d5, .ref d6, .ref d7, .ref d8, .ref d9])), (d8, .inr (2, [.int 0, .int 0, .int 0, .int 0, .int 0, .int 0, .int 0, .int 0, .int 0, .ref gn, .ref gf, .ref gp, .ref gs, .ref gr])), (gf, .inr (1, [.int 0, .ref b0, .ref b1, .ref b2, .ref b3, .ref b4, .ref b5, .ref b6, .ref b7, .ref b8]))] sz)) 0 0 (va_A [(h0, .inr (11, [.ref d0, .ref d1, .ref d2, .ref d3, .ref d4, .ref d5, .ref d6, .ref d7, .ref d8, .ref d9])), (d8, .inr (2, [.int 0, .int 0, .int 0, .int 0, .int 0, .int 0, .int 0, .int 0, .int 0, .ref gn, .ref gf, .ref gp, .ref gs, .ref gr])), (gf, .inr (1, [.int 0, .ref b0, .ref b1, .ref b2, .ref b3, .ref b4, .ref b5, .ref b6, .ref b7, .ref b8]))] sz) := by
  refine kEnter (by decide) (Nat.le_of_ble_eq_true rfl) ?_
  intro p e s m below meth c ls hx hb hr hml hown hlocks hin hwd hsz hP hK hD hl
  subst hsz
  generalize hAe : va_A [(h0, .inr (11, [.ref d0, .ref d1, .ref d2, .ref d3, .ref d4, .ref d5, .ref d6, .ref d7, .ref d8, .ref d9])), (d8, .inr (2, [.int 0, .int 0, .int 0, .int 0, .int 0, .int 0, .int 0, .int 0, .int 0, .ref gn, .ref gf, .ref gp, .ref gs, .ref gr])), (gf, .inr (1, [.int 0, .ref b0, .ref b1, .ref b2, .ref b3, .ref b4, .ref b5, .ref b6, .ref b7, .ref b8]))] s.heap.size = A at hD ⊢
  have hA : ∀ q : Nat, s.heap.size ≤ q → A q := fun q h => by rw [← hAe]; exact Or.inr h
  have hS : va_S A s.heap s.heap [] := va_S.rf
  have hl : lv_has ls 3 [(0, .ref h0), (1, .int p0)] := hl
  refine lv_aload_n hx hb dX11_phase_0 rfl (lv_at hl 0 rfl) ?_
  refine va_get (D := (dC, dI)) (ci := 11) (v := .ref d8) (C := RX11) (T := TX11) (N := 10) hx hb hwd inlX11 hown hK hP 0 rfl rfl 8 (by decide) (hwd _ kr2_19) (fun _ h9 => h9) rfl dX11_phase_1 ?_
  refine lv_iload_n hx hb dX11_phase_4 rfl (lv_at hl 1 rfl) ?_
  have hPc := hP.sub (ws' := [(d8, .inr (2, [.int 0, .int 0, .int 0, .int 0, .int 0, .int 0, .int 0, .int 0, .int 0, .ref gn, .ref gf, .ref gp, .ref gs, .ref gr])), (gf, .inr (1, [.int 0, .ref b0, .ref b1, .ref b2, .ref b3, .ref b4, .ref b5, .ref b6, .ref b7, .ref b8]))]) [1, 2] rfl
  have hDc := hD.sub (ws' := [(d8, .inr (2, [.int 0, .int 0, .int 0, .int 0, .int 0, .int 0, .int 0, .int 0, .int 0, .ref gn, .ref gf, .ref gp, .ref gs, .ref gr])), (gf, .inr (1, [.int 0, .ref b0, .ref b1, .ref b2, .ref b3, .ref b4, .ref b5, .ref b6, .ref b7, .ref b8]))]) [1, 2] (by decide) rfl
  have hFc := va_free (wc := [(d8, .inr (2, [.int 0, .int 0, .int 0, .int 0, .int 0, .int 0, .int 0, .int 0, .int 0, .ref gn, .ref gf, .ref gp, .ref gs, .ref gr])), (gf, .inr (1, [.int 0, .ref b0, .ref b1, .ref b2, .ref b3, .ref b4, .ref b5, .ref b6, .ref b7, .ref b8]))]) hD hS hA [1, 2] rfl
  refine va_calli (va_runV (As := [.int p0]) (rest := []) ⟨hx, hb, hml, hown, hwd⟩ (c_X2_hasFollower l dC dI cI cZ cB cJ cM d8 gn gf gp gs gr b0 b1 b2 b3 b4 b5 b6 b7 b8 p0 s.heap.size) (cwV 1 hwd (gV kr16_17 kr12_21 kr12_22 kr2_18 kr12_23) rfl rfl rfl (by decide +kernel) ⟨Nat.le_of_ble_eq_true rfl, Nat.le_of_ble_eq_true rfl⟩) (kPreV hPc hK hDc (ci := 2) (q0 := 0) rfl rfl) rfl rfl hl.1 rfl (lv_room (Nat.le_of_ble_eq_true rfl)) dX11_phase_5 ⟨Nat.le_of_ble_eq_true rfl, Nat.le_of_ble_eq_true rfl⟩) hS (fun q _ h => hFc q h) hFc (fun r1 u2 t H1 locs ht9 hvm hw hB hz1 hk1 hS => ?_)
  obtain ⟨hP1, hD1⟩ := hB
  rw [ht9] at hP1
  obtain ⟨hP, hD⟩ := va_join (wr := [(h0, .inr (11, [.ref d0, .ref d1, .ref d2, .ref d3, .ref d4, .ref d5, .ref d6, .ref d7, .ref d8, .ref d9]))]) (w1 := [(d8, .inr (2, [.int 0, .int 0, .int 0, .int 0, .int 0, .int 0, .int 0, .int 0, .int 0, .ref gn, .ref gf, .ref gp, .ref gs, .ref gr])), (gf, .inr (1, [.int 0, .ref b0, .ref b1, .ref b2, .ref b3, .ref b4, .ref b5, .ref b6, .ref b7, .ref b8]))]) hP hD [1, 2] [0] rfl rfl (by decide) (by decide) hk1 hFc hP1 hD1
  generalize H1 = H at hP hS ⊢
  have hP : va_P (dC, dI) vwCl [(h0, .inr (11, [.ref d0, .ref d1, .ref d2, .ref d3, .ref d4, .ref d5, .ref d6, .ref d7, .ref d8, .ref d9])), (d8, .inr (2, [.int 0, .int 0, .int 0, .int 0, .int 0, .int 0, .int 0, .int 0, .int 0, .ref gn, .ref gf, .ref gp, .ref gs, .ref gr])), (gf, .inr (1, [.int 0, .ref b0, .ref b1, .ref b2, .ref b3, .ref b4, .ref b5, .ref b6, .ref b7, .ref b8]))] H := hP
  have hD : va_D A [(h0, .inr (11, [.ref d0, .ref d1, .ref d2, .ref d3, .ref d4, .ref d5, .ref d6, .ref d7, .ref d8, .ref d9])), (d8, .inr (2, [.int 0, .int 0, .int 0, .int 0, .int 0, .int 0, .int 0, .int 0, .int 0, .ref gn, .ref gf, .ref gp, .ref gs, .ref gr])), (gf, .inr (1, [.int 0, .ref b0, .ref b1, .ref b2, .ref b3, .ref b4, .ref b5, .ref b6, .ref b7, .ref b8]))] := hD
  subst hw
  refine lv_if_ne (tgt := 14) hx hb dX11_phase_8 (by decide) (fun c3 => absurd c3 (by decide)) (fun c3 => ?_)
  refine lv_bipush (v := (-2)) hx hb dX11_phase_11 (by decide) ?_
  exact W.iret (v := (-2)) hx hb hr (fun t ht hW => ⟨⟨(-2), (), rfl, rfl, trivial⟩, hS.F ht⟩) hS.2.2 dX11_phase_13
set_option maxHeartbeats 4000000 in
set_option maxRecDepth 100000 in
theorem c_X11_nearest (l : Launch) (dC : Nat → ClassId) (dI : Nat → Nat → Nat) (cI cZ cB cJ cM : ClassId) (h0 d0 d1 d2 d3 d4 d5 d6 d7 d8 d9 gn gf gp gs gr : Nat)  (sz : Nat) : Met l yX11_nearest (kw yX11_nearest cX11_nearest 5 (some .int)) ({ frames := 1, cells := 0, slots := 0, locals := 20 }) (va_Pc [.ref h0] (kPre dC dI [(cI, .int), (cZ, .boolean), (cB, .byte), (cJ, .long), (cM, .object RX2)] [(h0, .inr (11, [.ref d0, .ref d1, .ref d2, .ref d3, .ref d4, .ref d5, .ref d6, .ref d7, .ref d8, .ref d9])), (d8, .inr (2, [.int 0, .int 0, .int 0, .int 0, .int 0, .int 0, .int 0, .int 0, .int 0, .ref gn, .ref gf, .ref gp, .ref gs, .ref gr]))] sz)) (va_Qi (fun (r : Int32) (_ : Unit) => r = (-2)) (fun _ _ => True) (va_A [(h0, .inr (11, [.ref d0, .ref d1, .ref d2, .ref d3, .ref d4, .ref d5, .ref d6, .ref d7, .ref d8, .ref d9])), (d8, .inr (2, [.int 0, .int 0, .int 0, .int 0, .int 0, .int 0, .int 0, .int 0, .int 0, .ref gn, .ref gf, .ref gp, .ref gs, .ref gr]))] sz)) 0 0 (va_A [(h0, .inr (11, [.ref d0, .ref d1, .ref d2, .ref d3, .ref d4, .ref d5, .ref d6, .ref d7, .ref d8, .ref d9])), (d8, .inr (2, [.int 0, .int 0, .int 0, .int 0, .int 0, .int 0, .int 0, .int 0, .int 0, .ref gn, .ref gf, .ref gp, .ref gs, .ref gr]))] sz) := by
  refine kEnter (by decide) (Nat.le_of_ble_eq_true rfl) ?_
  intro p e s m below meth c ls hx hb hr hml hown hlocks hin hwd hsz hP hK hD hl
  subst hsz
  generalize hAe : va_A [(h0, .inr (11, [.ref d0, .ref d1, .ref d2, .ref d3, .ref d4, .ref d5, .ref d6, .ref d7, .ref d8, .ref d9])), (d8, .inr (2, [.int 0, .int 0, .int 0, .int 0, .int 0, .int 0, .int 0, .int 0, .int 0, .ref gn, .ref gf, .ref gp, .ref gs, .ref gr]))] s.heap.size = A at hD ⊢
  have hA : ∀ q : Nat, s.heap.size ≤ q → A q := fun q h => by rw [← hAe]; exact Or.inr h
  have hS : va_S A s.heap s.heap [] := va_S.rf
  have hl : lv_has ls 5 [(0, .ref h0)] := hl
  refine lv_aload_n hx hb dX11_nearest_0 rfl (lv_at hl 0 rfl) ?_
  refine va_get (D := (dC, dI)) (ci := 11) (v := .ref d8) (C := RX11) (T := TX11) (N := 10) hx hb hwd inlX11 hown hK hP 0 rfl rfl 8 (by decide) (hwd _ kr2_19) (fun _ h9 => h9) rfl dX11_nearest_1 ?_
  have hPc := hP.sub (ws' := [(d8, .inr (2, [.int 0, .int 0, .int 0, .int 0, .int 0, .int 0, .int 0, .int 0, .int 0, .ref gn, .ref gf, .ref gp, .ref gs, .ref gr]))]) [1] rfl
  have hDc := hD.sub (ws' := [(d8, .inr (2, [.int 0, .int 0, .int 0, .int 0, .int 0, .int 0, .int 0, .int 0, .int 0, .ref gn, .ref gf, .ref gp, .ref gs, .ref gr]))]) [1] (by decide) rfl
  have hFc := va_free (wc := [(d8, .inr (2, [.int 0, .int 0, .int 0, .int 0, .int 0, .int 0, .int 0, .int 0, .int 0, .ref gn, .ref gf, .ref gp, .ref gs, .ref gr]))]) hD hS hA [1] rfl
  refine va_calli (va_runV (As := []) (rest := []) ⟨hx, hb, hml, hown, hwd⟩ (c_X2_isTold l dC dI cI cZ cB cJ cM d8 gn gf gp gs gr s.heap.size) (cwV 0 hwd (gV kr14_23 kr15_0 kr15_1 kr2_18 kr15_2) rfl rfl rfl (by decide +kernel) ⟨Nat.le_of_ble_eq_true rfl, Nat.le_of_ble_eq_true rfl⟩) (kPreV hPc hK hDc (ci := 2) (q0 := 0) rfl rfl) rfl rfl hl.1 rfl (lv_room (Nat.le_of_ble_eq_true rfl)) dX11_nearest_4 ⟨Nat.le_of_ble_eq_true rfl, Nat.le_of_ble_eq_true rfl⟩) hS (fun q _ h => hFc q h) hFc (fun r1 u2 t H1 locs ht9 hvm hw hB hz1 hk1 hS => ?_)
  obtain ⟨hP1, hD1⟩ := hB
  rw [ht9] at hP1
  obtain ⟨hP, hD⟩ := va_join (wr := [(h0, .inr (11, [.ref d0, .ref d1, .ref d2, .ref d3, .ref d4, .ref d5, .ref d6, .ref d7, .ref d8, .ref d9]))]) (w1 := [(d8, .inr (2, [.int 0, .int 0, .int 0, .int 0, .int 0, .int 0, .int 0, .int 0, .int 0, .ref gn, .ref gf, .ref gp, .ref gs, .ref gr]))]) hP hD [1] [0] rfl rfl (by decide) (by decide) hk1 hFc hP1 hD1
  generalize H1 = H at hP hS ⊢
  have hP : va_P (dC, dI) vwCl [(h0, .inr (11, [.ref d0, .ref d1, .ref d2, .ref d3, .ref d4, .ref d5, .ref d6, .ref d7, .ref d8, .ref d9])), (d8, .inr (2, [.int 0, .int 0, .int 0, .int 0, .int 0, .int 0, .int 0, .int 0, .int 0, .ref gn, .ref gf, .ref gp, .ref gs, .ref gr]))] H := hP
  have hD : va_D A [(h0, .inr (11, [.ref d0, .ref d1, .ref d2, .ref d3, .ref d4, .ref d5, .ref d6, .ref d7, .ref d8, .ref d9])), (d8, .inr (2, [.int 0, .int 0, .int 0, .int 0, .int 0, .int 0, .int 0, .int 0, .int 0, .ref gn, .ref gf, .ref gp, .ref gs, .ref gr]))] := hD
  subst hw
  refine lv_if_ne (tgt := 13) hx hb dX11_nearest_7 (by decide) (fun c3 => absurd c3 (by decide)) (fun c3 => ?_)
  refine lv_bipush (v := (-2)) hx hb dX11_nearest_10 (by decide) ?_
  exact W.iret (v := (-2)) hx hb hr (fun t ht hW => ⟨⟨(-2), (), rfl, rfl, trivial⟩, hS.F ht⟩) hS.2.2 dX11_nearest_12
set_option maxHeartbeats 4000000 in
set_option maxRecDepth 100000 in
theorem c_X11_fewest (l : Launch) (dC : Nat → ClassId) (dI : Nat → Nat → Nat) (cI cZ cB cJ cM : ClassId) (h0 d0 d1 d2 d3 d4 d5 d6 d7 d8 d9 gn gf gp gs gr : Nat) (p0 : Int32) (sz : Nat) : Met l yX11_fewest (kw yX11_fewest cX11_fewest 3 (some .int)) ({ frames := 2, cells := 0, slots := 0, locals := 44 }) (va_Pc [.ref h0, .int p0] (kPre dC dI [(cI, .int), (cZ, .boolean), (cB, .byte), (cJ, .long), (cM, .object RX2)] [(h0, .inr (11, [.ref d0, .ref d1, .ref d2, .ref d3, .ref d4, .ref d5, .ref d6, .ref d7, .ref d8, .ref d9])), (d8, .inr (2, [.int 0, .int 0, .int 0, .int 0, .int 0, .int 0, .int 0, .int 0, .int 0, .ref gn, .ref gf, .ref gp, .ref gs, .ref gr]))] sz)) (va_Qi (fun (r : Int32) (_ : Unit) => r = (-2)) (fun _ _ => True) (va_A [(h0, .inr (11, [.ref d0, .ref d1, .ref d2, .ref d3, .ref d4, .ref d5, .ref d6, .ref d7, .ref d8, .ref d9])), (d8, .inr (2, [.int 0, .int 0, .int 0, .int 0, .int 0, .int 0, .int 0, .int 0, .int 0, .ref gn, .ref gf, .ref gp, .ref gs, .ref gr]))] sz)) 0 0 (va_A [(h0, .inr (11, [.ref d0, .ref d1, .ref d2, .ref d3, .ref d4, .ref d5, .ref d6, .ref d7, .ref d8, .ref d9])), (d8, .inr (2, [.int 0, .int 0, .int 0, .int 0, .int 0, .int 0, .int 0, .int 0, .int 0, .ref gn, .ref gf, .ref gp, .ref gs, .ref gr]))] sz) := by
  refine kEnter (by decide) (Nat.le_of_ble_eq_true rfl) ?_
  intro p e s m below meth c ls hx hb hr hml hown hlocks hin hwd hsz hP hK hD hl
  subst hsz
  generalize hAe : va_A [(h0, .inr (11, [.ref d0, .ref d1, .ref d2, .ref d3, .ref d4, .ref d5, .ref d6, .ref d7, .ref d8, .ref d9])), (d8, .inr (2, [.int 0, .int 0, .int 0, .int 0, .int 0, .int 0, .int 0, .int 0, .int 0, .ref gn, .ref gf, .ref gp, .ref gs, .ref gr]))] s.heap.size = A at hD ⊢
  have hA : ∀ q : Nat, s.heap.size ≤ q → A q := fun q h => by rw [← hAe]; exact Or.inr h
  have hS : va_S A s.heap s.heap [] := va_S.rf
  have hl : lv_has ls 3 [(0, .ref h0), (1, .int p0)] := hl
  refine lv_aload_n hx hb dX11_fewest_0 rfl (lv_at hl 0 rfl) ?_
  refine lv_iload_n hx hb dX11_fewest_1 rfl (lv_at hl 1 rfl) ?_
  have hPc := hP.sub (ws' := [(h0, .inr (11, [.ref d0, .ref d1, .ref d2, .ref d3, .ref d4, .ref d5, .ref d6, .ref d7, .ref d8, .ref d9])), (d8, .inr (2, [.int 0, .int 0, .int 0, .int 0, .int 0, .int 0, .int 0, .int 0, .int 0, .ref gn, .ref gf, .ref gp, .ref gs, .ref gr]))]) [0, 1] rfl
  have hDc := hD.sub (ws' := [(h0, .inr (11, [.ref d0, .ref d1, .ref d2, .ref d3, .ref d4, .ref d5, .ref d6, .ref d7, .ref d8, .ref d9])), (d8, .inr (2, [.int 0, .int 0, .int 0, .int 0, .int 0, .int 0, .int 0, .int 0, .int 0, .ref gn, .ref gf, .ref gp, .ref gs, .ref gr]))]) [0, 1] (by decide) rfl
  have hFc := va_free (wc := [(h0, .inr (11, [.ref d0, .ref d1, .ref d2, .ref d3, .ref d4, .ref d5, .ref d6, .ref d7, .ref d8, .ref d9])), (d8, .inr (2, [.int 0, .int 0, .int 0, .int 0, .int 0, .int 0, .int 0, .int 0, .int 0, .ref gn, .ref gf, .ref gp, .ref gs, .ref gr]))]) hD hS hA [0, 1] rfl
  refine va_calli (va_runV (As := [.int p0]) (rest := []) ⟨hx, hb, hml, hown, hwd⟩ (c_X11_takeMotions l dC dI cI cZ cB cJ cM h0 d0 d1 d2 d3 d4 d5 d6 d7 d8 d9 gn gf gp gs gr p0 s.heap.size) (cwV 1 hwd (gV kr27_11 kr27_12 kr27_13 kr1_2 kr27_14) rfl rfl rfl (by decide +kernel) ⟨Nat.le_of_ble_eq_true rfl, Nat.le_of_ble_eq_true rfl⟩) (kPreV hPc hK hDc (ci := 11) (q0 := 0) rfl rfl) rfl rfl hl.1 rfl (lv_room (Nat.le_of_ble_eq_true rfl)) dX11_fewest_2 ⟨Nat.le_of_ble_eq_true rfl, Nat.le_of_ble_eq_true rfl⟩) hS (fun q _ h => hFc q h) hFc (fun r1 u2 t H1 locs ht9 hvm hw hB hz1 hk1 hS => ?_)
  obtain ⟨hP1, hD1⟩ := hB
  rw [ht9] at hP1
  obtain ⟨hP, hD⟩ := va_join (wr := []) (w1 := [(h0, .inr (11, [.ref d0, .ref d1, .ref d2, .ref d3, .ref d4, .ref d5, .ref d6, .ref d7, .ref d8, .ref d9])), (d8, .inr (2, [.int 0, .int 0, .int 0, .int 0, .int 0, .int 0, .int 0, .int 0, .int 0, .ref gn, .ref gf, .ref gp, .ref gs, .ref gr]))]) hP hD [0, 1] [] rfl rfl (by decide) (by decide) hk1 hFc hP1 hD1
  generalize H1 = H at hP hS ⊢
  have hP : va_P (dC, dI) vwCl [(h0, .inr (11, [.ref d0, .ref d1, .ref d2, .ref d3, .ref d4, .ref d5, .ref d6, .ref d7, .ref d8, .ref d9])), (d8, .inr (2, [.int 0, .int 0, .int 0, .int 0, .int 0, .int 0, .int 0, .int 0, .int 0, .ref gn, .ref gf, .ref gp, .ref gs, .ref gr]))] H := hP
  have hD : va_D A [(h0, .inr (11, [.ref d0, .ref d1, .ref d2, .ref d3, .ref d4, .ref d5, .ref d6, .ref d7, .ref d8, .ref d9])), (d8, .inr (2, [.int 0, .int 0, .int 0, .int 0, .int 0, .int 0, .int 0, .int 0, .int 0, .ref gn, .ref gf, .ref gp, .ref gs, .ref gr]))] := hD
  subst hw
  refine lv_istore_n (lv' := [(2, .int (-2)), (0, .ref h0), (1, .int p0)]) hx hb dX11_fewest_5 rfl hl (by decide) rfl (fun ls hl => ?_)
  refine lv_iload_n hx hb dX11_fewest_6 rfl (lv_at hl 0 rfl) ?_
  refine lv_if_eq (tgt := 14) hx hb dX11_fewest_7 (by decide) (fun c3 => absurd c3 (by decide)) (fun c3 => ?_)
  refine lv_iload_n hx hb dX11_fewest_10 rfl (lv_at hl 0 rfl) ?_
  refine lv_goto (tgt := 28) hx hb dX11_fewest_11 (by decide) ?_
  exact W.iret (v := (-2)) hx hb hr (fun t ht hW => ⟨⟨(-2), (), rfl, rfl, trivial⟩, hS.F ht⟩) hS.2.2 dX11_fewest_28
set_option maxHeartbeats 4000000 in
set_option maxRecDepth 100000 in
theorem c_X11_place (l : Launch) (dC : Nat → ClassId) (dI : Nat → Nat → Nat) (cI cZ cB cJ cM : ClassId) (h0 d0 d1 d2 d3 d4 d5 d6 d7 d8 d9 gn gf gp gs gr : Nat) (p0 p1 : Int32) (sz : Nat) : Met l yX11_place (kw yX11_place cX11_place 4 (some .int)) ({ frames := 2, cells := 0, slots := 0, locals := 44 }) (va_Pc [.ref h0, .int p0, .int p1] (kPre dC dI [(cI, .int), (cZ, .boolean), (cB, .byte), (cJ, .long), (cM, .object RX2)] [(h0, .inr (11, [.ref d0, .ref d1, .ref d2, .ref d3, .ref d4, .ref d5, .ref d6, .ref d7, .ref d8, .ref d9])), (d8, .inr (2, [.int 0, .int 0, .int 0, .int 0, .int 0, .int 0, .int 0, .int 0, .int 0, .ref gn, .ref gf, .ref gp, .ref gs, .ref gr]))] sz)) (va_Qi (fun (r : Int32) (_ : Unit) => r = (-2)) (fun _ _ => True) (va_A [(h0, .inr (11, [.ref d0, .ref d1, .ref d2, .ref d3, .ref d4, .ref d5, .ref d6, .ref d7, .ref d8, .ref d9])), (d8, .inr (2, [.int 0, .int 0, .int 0, .int 0, .int 0, .int 0, .int 0, .int 0, .int 0, .ref gn, .ref gf, .ref gp, .ref gs, .ref gr]))] sz)) 0 0 (va_A [(h0, .inr (11, [.ref d0, .ref d1, .ref d2, .ref d3, .ref d4, .ref d5, .ref d6, .ref d7, .ref d8, .ref d9])), (d8, .inr (2, [.int 0, .int 0, .int 0, .int 0, .int 0, .int 0, .int 0, .int 0, .int 0, .ref gn, .ref gf, .ref gp, .ref gs, .ref gr]))] sz) := by
  refine kEnter (by decide) (Nat.le_of_ble_eq_true rfl) ?_
  intro p e s m below meth c ls hx hb hr hml hown hlocks hin hwd hsz hP hK hD hl
  subst hsz
  generalize hAe : va_A [(h0, .inr (11, [.ref d0, .ref d1, .ref d2, .ref d3, .ref d4, .ref d5, .ref d6, .ref d7, .ref d8, .ref d9])), (d8, .inr (2, [.int 0, .int 0, .int 0, .int 0, .int 0, .int 0, .int 0, .int 0, .int 0, .ref gn, .ref gf, .ref gp, .ref gs, .ref gr]))] s.heap.size = A at hD ⊢
  have hA : ∀ q : Nat, s.heap.size ≤ q → A q := fun q h => by rw [← hAe]; exact Or.inr h
  have hS : va_S A s.heap s.heap [] := va_S.rf
  have hl : lv_has ls 4 [(0, .ref h0), (1, .int p0), (2, .int p1)] := hl
  refine lv_aload_n hx hb dX11_place_0 rfl (lv_at hl 0 rfl) ?_
  refine lv_iload_n hx hb dX11_place_1 rfl (lv_at hl 1 rfl) ?_
  have hPc := hP.sub (ws' := [(h0, .inr (11, [.ref d0, .ref d1, .ref d2, .ref d3, .ref d4, .ref d5, .ref d6, .ref d7, .ref d8, .ref d9])), (d8, .inr (2, [.int 0, .int 0, .int 0, .int 0, .int 0, .int 0, .int 0, .int 0, .int 0, .ref gn, .ref gf, .ref gp, .ref gs, .ref gr]))]) [0, 1] rfl
  have hDc := hD.sub (ws' := [(h0, .inr (11, [.ref d0, .ref d1, .ref d2, .ref d3, .ref d4, .ref d5, .ref d6, .ref d7, .ref d8, .ref d9])), (d8, .inr (2, [.int 0, .int 0, .int 0, .int 0, .int 0, .int 0, .int 0, .int 0, .int 0, .ref gn, .ref gf, .ref gp, .ref gs, .ref gr]))]) [0, 1] (by decide) rfl
  have hFc := va_free (wc := [(h0, .inr (11, [.ref d0, .ref d1, .ref d2, .ref d3, .ref d4, .ref d5, .ref d6, .ref d7, .ref d8, .ref d9])), (d8, .inr (2, [.int 0, .int 0, .int 0, .int 0, .int 0, .int 0, .int 0, .int 0, .int 0, .ref gn, .ref gf, .ref gp, .ref gs, .ref gr]))]) hD hS hA [0, 1] rfl
  refine va_calli (va_runV (As := [.int p0]) (rest := []) ⟨hx, hb, hml, hown, hwd⟩ (c_X11_takeMotions l dC dI cI cZ cB cJ cM h0 d0 d1 d2 d3 d4 d5 d6 d7 d8 d9 gn gf gp gs gr p0 s.heap.size) (cwV 1 hwd (gV kr27_11 kr27_12 kr27_13 kr1_2 kr27_14) rfl rfl rfl (by decide +kernel) ⟨Nat.le_of_ble_eq_true rfl, Nat.le_of_ble_eq_true rfl⟩) (kPreV hPc hK hDc (ci := 11) (q0 := 0) rfl rfl) rfl rfl hl.1 rfl (lv_room (Nat.le_of_ble_eq_true rfl)) dX11_place_2 ⟨Nat.le_of_ble_eq_true rfl, Nat.le_of_ble_eq_true rfl⟩) hS (fun q _ h => hFc q h) hFc (fun r1 u2 t H1 locs ht9 hvm hw hB hz1 hk1 hS => ?_)
  obtain ⟨hP1, hD1⟩ := hB
  rw [ht9] at hP1
  obtain ⟨hP, hD⟩ := va_join (wr := []) (w1 := [(h0, .inr (11, [.ref d0, .ref d1, .ref d2, .ref d3, .ref d4, .ref d5, .ref d6, .ref d7, .ref d8, .ref d9])), (d8, .inr (2, [.int 0, .int 0, .int 0, .int 0, .int 0, .int 0, .int 0, .int 0, .int 0, .ref gn, .ref gf, .ref gp, .ref gs, .ref gr]))]) hP hD [0, 1] [] rfl rfl (by decide) (by decide) hk1 hFc hP1 hD1
  generalize H1 = H at hP hS ⊢
  have hP : va_P (dC, dI) vwCl [(h0, .inr (11, [.ref d0, .ref d1, .ref d2, .ref d3, .ref d4, .ref d5, .ref d6, .ref d7, .ref d8, .ref d9])), (d8, .inr (2, [.int 0, .int 0, .int 0, .int 0, .int 0, .int 0, .int 0, .int 0, .int 0, .ref gn, .ref gf, .ref gp, .ref gs, .ref gr]))] H := hP
  have hD : va_D A [(h0, .inr (11, [.ref d0, .ref d1, .ref d2, .ref d3, .ref d4, .ref d5, .ref d6, .ref d7, .ref d8, .ref d9])), (d8, .inr (2, [.int 0, .int 0, .int 0, .int 0, .int 0, .int 0, .int 0, .int 0, .int 0, .ref gn, .ref gf, .ref gp, .ref gs, .ref gr]))] := hD
  subst hw
  refine lv_istore_n (lv' := [(3, .int (-2)), (0, .ref h0), (1, .int p0), (2, .int p1)]) hx hb dX11_place_5 rfl hl (by decide) rfl (fun ls hl => ?_)
  refine lv_iload_n hx hb dX11_place_6 rfl (lv_at hl 0 rfl) ?_
  refine lv_if_eq (tgt := 12) hx hb dX11_place_7 (by decide) (fun c3 => absurd c3 (by decide)) (fun c3 => ?_)
  refine lv_iload_n hx hb dX11_place_10 rfl (lv_at hl 0 rfl) ?_
  exact W.iret (v := (-2)) hx hb hr (fun t ht hW => ⟨⟨(-2), (), rfl, rfl, trivial⟩, hS.F ht⟩) hS.2.2 dX11_place_11
set_option maxHeartbeats 4000000 in
set_option maxRecDepth 100000 in
theorem c_X11_clash (l : Launch) (dC : Nat → ClassId) (dI : Nat → Nat → Nat) (cI cZ cB cJ cM : ClassId) (h0 d0 d1 d2 d3 d4 d5 d6 d7 d8 d9 gn gf gp gs gr : Nat) (p0 : Int32) (sz : Nat) : Met l yX11_clash (kw yX11_clash cX11_clash 3 (some .int)) ({ frames := 2, cells := 0, slots := 0, locals := 44 }) (va_Pc [.ref h0, .int p0] (kPre dC dI [(cI, .int), (cZ, .boolean), (cB, .byte), (cJ, .long), (cM, .object RX2)] [(h0, .inr (11, [.ref d0, .ref d1, .ref d2, .ref d3, .ref d4, .ref d5, .ref d6, .ref d7, .ref d8, .ref d9])), (d8, .inr (2, [.int 0, .int 0, .int 0, .int 0, .int 0, .int 0, .int 0, .int 0, .int 0, .ref gn, .ref gf, .ref gp, .ref gs, .ref gr]))] sz)) (va_Qi (fun (r : Int32) (_ : Unit) => r = (-2)) (fun _ _ => True) (va_A [(h0, .inr (11, [.ref d0, .ref d1, .ref d2, .ref d3, .ref d4, .ref d5, .ref d6, .ref d7, .ref d8, .ref d9])), (d8, .inr (2, [.int 0, .int 0, .int 0, .int 0, .int 0, .int 0, .int 0, .int 0, .int 0, .ref gn, .ref gf, .ref gp, .ref gs, .ref gr]))] sz)) 0 0 (va_A [(h0, .inr (11, [.ref d0, .ref d1, .ref d2, .ref d3, .ref d4, .ref d5, .ref d6, .ref d7, .ref d8, .ref d9])), (d8, .inr (2, [.int 0, .int 0, .int 0, .int 0, .int 0, .int 0, .int 0, .int 0, .int 0, .ref gn, .ref gf, .ref gp, .ref gs, .ref gr]))] sz) := by
  refine kEnter (by decide) (Nat.le_of_ble_eq_true rfl) ?_
  intro p e s m below meth c ls hx hb hr hml hown hlocks hin hwd hsz hP hK hD hl
  subst hsz
  generalize hAe : va_A [(h0, .inr (11, [.ref d0, .ref d1, .ref d2, .ref d3, .ref d4, .ref d5, .ref d6, .ref d7, .ref d8, .ref d9])), (d8, .inr (2, [.int 0, .int 0, .int 0, .int 0, .int 0, .int 0, .int 0, .int 0, .int 0, .ref gn, .ref gf, .ref gp, .ref gs, .ref gr]))] s.heap.size = A at hD ⊢
  have hA : ∀ q : Nat, s.heap.size ≤ q → A q := fun q h => by rw [← hAe]; exact Or.inr h
  have hS : va_S A s.heap s.heap [] := va_S.rf
  have hl : lv_has ls 3 [(0, .ref h0), (1, .int p0)] := hl
  refine lv_aload_n hx hb dX11_clash_0 rfl (lv_at hl 0 rfl) ?_
  refine lv_iload_n hx hb dX11_clash_1 rfl (lv_at hl 1 rfl) ?_
  have hPc := hP.sub (ws' := [(h0, .inr (11, [.ref d0, .ref d1, .ref d2, .ref d3, .ref d4, .ref d5, .ref d6, .ref d7, .ref d8, .ref d9])), (d8, .inr (2, [.int 0, .int 0, .int 0, .int 0, .int 0, .int 0, .int 0, .int 0, .int 0, .ref gn, .ref gf, .ref gp, .ref gs, .ref gr]))]) [0, 1] rfl
  have hDc := hD.sub (ws' := [(h0, .inr (11, [.ref d0, .ref d1, .ref d2, .ref d3, .ref d4, .ref d5, .ref d6, .ref d7, .ref d8, .ref d9])), (d8, .inr (2, [.int 0, .int 0, .int 0, .int 0, .int 0, .int 0, .int 0, .int 0, .int 0, .ref gn, .ref gf, .ref gp, .ref gs, .ref gr]))]) [0, 1] (by decide) rfl
  have hFc := va_free (wc := [(h0, .inr (11, [.ref d0, .ref d1, .ref d2, .ref d3, .ref d4, .ref d5, .ref d6, .ref d7, .ref d8, .ref d9])), (d8, .inr (2, [.int 0, .int 0, .int 0, .int 0, .int 0, .int 0, .int 0, .int 0, .int 0, .ref gn, .ref gf, .ref gp, .ref gs, .ref gr]))]) hD hS hA [0, 1] rfl
  refine va_calli (va_runV (As := [.int p0]) (rest := []) ⟨hx, hb, hml, hown, hwd⟩ (c_X11_takeMotions l dC dI cI cZ cB cJ cM h0 d0 d1 d2 d3 d4 d5 d6 d7 d8 d9 gn gf gp gs gr p0 s.heap.size) (cwV 1 hwd (gV kr27_11 kr27_12 kr27_13 kr1_2 kr27_14) rfl rfl rfl (by decide +kernel) ⟨Nat.le_of_ble_eq_true rfl, Nat.le_of_ble_eq_true rfl⟩) (kPreV hPc hK hDc (ci := 11) (q0 := 0) rfl rfl) rfl rfl hl.1 rfl (lv_room (Nat.le_of_ble_eq_true rfl)) dX11_clash_2 ⟨Nat.le_of_ble_eq_true rfl, Nat.le_of_ble_eq_true rfl⟩) hS (fun q _ h => hFc q h) hFc (fun r1 u2 t H1 locs ht9 hvm hw hB hz1 hk1 hS => ?_)
  obtain ⟨hP1, hD1⟩ := hB
  rw [ht9] at hP1
  obtain ⟨hP, hD⟩ := va_join (wr := []) (w1 := [(h0, .inr (11, [.ref d0, .ref d1, .ref d2, .ref d3, .ref d4, .ref d5, .ref d6, .ref d7, .ref d8, .ref d9])), (d8, .inr (2, [.int 0, .int 0, .int 0, .int 0, .int 0, .int 0, .int 0, .int 0, .int 0, .ref gn, .ref gf, .ref gp, .ref gs, .ref gr]))]) hP hD [0, 1] [] rfl rfl (by decide) (by decide) hk1 hFc hP1 hD1
  generalize H1 = H at hP hS ⊢
  have hP : va_P (dC, dI) vwCl [(h0, .inr (11, [.ref d0, .ref d1, .ref d2, .ref d3, .ref d4, .ref d5, .ref d6, .ref d7, .ref d8, .ref d9])), (d8, .inr (2, [.int 0, .int 0, .int 0, .int 0, .int 0, .int 0, .int 0, .int 0, .int 0, .ref gn, .ref gf, .ref gp, .ref gs, .ref gr]))] H := hP
  have hD : va_D A [(h0, .inr (11, [.ref d0, .ref d1, .ref d2, .ref d3, .ref d4, .ref d5, .ref d6, .ref d7, .ref d8, .ref d9])), (d8, .inr (2, [.int 0, .int 0, .int 0, .int 0, .int 0, .int 0, .int 0, .int 0, .int 0, .ref gn, .ref gf, .ref gp, .ref gs, .ref gr]))] := hD
  subst hw
  refine lv_istore_n (lv' := [(2, .int (-2)), (0, .ref h0), (1, .int p0)]) hx hb dX11_clash_5 rfl hl (by decide) rfl (fun ls hl => ?_)
  refine lv_iload_n hx hb dX11_clash_6 rfl (lv_at hl 0 rfl) ?_
  refine lv_if_eq (tgt := 14) hx hb dX11_clash_7 (by decide) (fun c3 => absurd c3 (by decide)) (fun c3 => ?_)
  refine lv_iload_n hx hb dX11_clash_10 rfl (lv_at hl 0 rfl) ?_
  refine lv_goto (tgt := 28) hx hb dX11_clash_11 (by decide) ?_
  exact W.iret (v := (-2)) hx hb hr (fun t ht hW => ⟨⟨(-2), (), rfl, rfl, trivial⟩, hS.F ht⟩) hS.2.2 dX11_clash_28
set_option maxHeartbeats 4000000 in
set_option maxRecDepth 100000 in
theorem c_X11_faults (l : Launch) (dC : Nat → ClassId) (dI : Nat → Nat → Nat) (cI cZ cB cJ cM : ClassId) (h0 d0 d1 d2 d3 d4 d5 d6 d7 d8 d9 gn gf gp gs gr b0 b1 b2 b3 b4 b5 b6 b7 b8 : Nat) (p0 p1 p2 : Int32) (sz : Nat) : Met l yX11_faults (kw yX11_faults cX11_faults 5 (some .int)) ({ frames := 2, cells := 0, slots := 0, locals := 49 }) (va_Pc [.ref h0, .int p0, .int p1, .int p2] (kPre dC dI [(cI, .int), (cZ, .boolean), (cB, .byte), (cJ, .long), (cM, .object RX2)] [(h0, .inr (11, [.ref d0, .ref d1, .ref d2, .ref d3, .ref d4, .ref d5, .ref d6, .ref d7, .ref d8, .ref d9])), (d8, .inr (2, [.int 0, .int 0, .int 0, .int 0, .int 0, .int 0, .int 0, .int 0, .int 0, .ref gn, .ref gf, .ref gp, .ref gs, .ref gr])), (gf, .inr (1, [.int 0, .ref b0, .ref b1, .ref b2, .ref b3, .ref b4, .ref b5, .ref b6, .ref b7, .ref b8]))] sz)) (va_Qi (fun (r : Int32) (_ : Unit) => r = (-2)) (fun _ _ => True) (va_A [(h0, .inr (11, [.ref d0, .ref d1, .ref d2, .ref d3, .ref d4, .ref d5, .ref d6, .ref d7, .ref d8, .ref d9])), (d8, .inr (2, [.int 0, .int 0, .int 0, .int 0, .int 0, .int 0, .int 0, .int 0, .int 0, .ref gn, .ref gf, .ref gp, .ref gs, .ref gr])), (gf, .inr (1, [.int 0, .ref b0, .ref b1, .ref b2, .ref b3, .ref b4, .ref b5, .ref b6, .ref b7, .ref b8]))] sz)) 0 0 (va_A [(h0, .inr (11, [.ref d0, .ref d1, .ref d2, .ref d3, .ref d4, .ref d5, .ref d6, .ref d7, .ref d8, .ref d9])), (d8, .inr (2, [.int 0, .int 0, .int 0, .int 0, .int 0, .int 0, .int 0, .int 0, .int 0, .ref gn, .ref gf, .ref gp, .ref gs, .ref gr])), (gf, .inr (1, [.int 0, .ref b0, .ref b1, .ref b2, .ref b3, .ref b4, .ref b5, .ref b6, .ref b7, .ref b8]))] sz) := by
  refine kEnter (by decide) (Nat.le_of_ble_eq_true rfl) ?_
  intro p e s m below meth c ls hx hb hr hml hown hlocks hin hwd hsz hP hK hD hl
  subst hsz
  generalize hAe : va_A [(h0, .inr (11, [.ref d0, .ref d1, .ref d2, .ref d3, .ref d4, .ref d5, .ref d6, .ref d7, .ref d8, .ref d9])), (d8, .inr (2, [.int 0, .int 0, .int 0, .int 0, .int 0, .int 0, .int 0, .int 0, .int 0, .ref gn, .ref gf, .ref gp, .ref gs, .ref gr])), (gf, .inr (1, [.int 0, .ref b0, .ref b1, .ref b2, .ref b3, .ref b4, .ref b5, .ref b6, .ref b7, .ref b8]))] s.heap.size = A at hD ⊢
  have hA : ∀ q : Nat, s.heap.size ≤ q → A q := fun q h => by rw [← hAe]; exact Or.inr h
  have hS : va_S A s.heap s.heap [] := va_S.rf
  have hl : lv_has ls 5 [(0, .ref h0), (1, .int p0), (2, .int p1), (3, .int p2)] := hl
  refine lv_aload_n hx hb dX11_faults_0 rfl (lv_at hl 0 rfl) ?_
  refine lv_iload_n hx hb dX11_faults_1 rfl (lv_at hl 1 rfl) ?_
  refine lv_iload_n hx hb dX11_faults_2 rfl (lv_at hl 2 rfl) ?_
  refine lv_iload_n hx hb dX11_faults_3 rfl (lv_at hl 3 rfl) ?_
  have hPc := hP.sub (ws' := [(h0, .inr (11, [.ref d0, .ref d1, .ref d2, .ref d3, .ref d4, .ref d5, .ref d6, .ref d7, .ref d8, .ref d9])), (d8, .inr (2, [.int 0, .int 0, .int 0, .int 0, .int 0, .int 0, .int 0, .int 0, .int 0, .ref gn, .ref gf, .ref gp, .ref gs, .ref gr])), (gf, .inr (1, [.int 0, .ref b0, .ref b1, .ref b2, .ref b3, .ref b4, .ref b5, .ref b6, .ref b7, .ref b8]))]) [0, 1, 2] rfl
  have hDc := hD.sub (ws' := [(h0, .inr (11, [.ref d0, .ref d1, .ref d2, .ref d3, .ref d4, .ref d5, .ref d6, .ref d7, .ref d8, .ref d9])), (d8, .inr (2, [.int 0, .int 0, .int 0, .int 0, .int 0, .int 0, .int 0, .int 0, .int 0, .ref gn, .ref gf, .ref gp, .ref gs, .ref gr])), (gf, .inr (1, [.int 0, .ref b0, .ref b1, .ref b2, .ref b3, .ref b4, .ref b5, .ref b6, .ref b7, .ref b8]))]) [0, 1, 2] (by decide) rfl
  have hFc := va_free (wc := [(h0, .inr (11, [.ref d0, .ref d1, .ref d2, .ref d3, .ref d4, .ref d5, .ref d6, .ref d7, .ref d8, .ref d9])), (d8, .inr (2, [.int 0, .int 0, .int 0, .int 0, .int 0, .int 0, .int 0, .int 0, .int 0, .ref gn, .ref gf, .ref gp, .ref gs, .ref gr])), (gf, .inr (1, [.int 0, .ref b0, .ref b1, .ref b2, .ref b3, .ref b4, .ref b5, .ref b6, .ref b7, .ref b8]))]) hD hS hA [0, 1, 2] rfl
  refine va_calli (va_runV (As := [.int p0, .int p1, .int p2]) (rest := []) ⟨hx, hb, hml, hown, hwd⟩ (c_X11_searchFaults l dC dI cI cZ cB cJ cM h0 d0 d1 d2 d3 d4 d5 d6 d7 d8 d9 gn gf gp gs gr b0 b1 b2 b3 b4 b5 b6 b7 b8 p0 p1 p2 s.heap.size) (cwV 3 hwd (gV kr29_16 kr29_17 kr29_18 kr1_2 kr29_19) rfl rfl rfl (by decide +kernel) ⟨Nat.le_of_ble_eq_true rfl, Nat.le_of_ble_eq_true rfl⟩) (kPreV hPc hK hDc (ci := 11) (q0 := 0) rfl rfl) rfl rfl hl.1 rfl (lv_room (Nat.le_of_ble_eq_true rfl)) dX11_faults_4 ⟨Nat.le_of_ble_eq_true rfl, Nat.le_of_ble_eq_true rfl⟩) hS (fun q _ h => hFc q h) hFc (fun r1 u2 t H1 locs ht9 hvm hw hB hz1 hk1 hS => ?_)
  obtain ⟨hP1, hD1⟩ := hB
  rw [ht9] at hP1
  obtain ⟨hP, hD⟩ := va_join (wr := []) (w1 := [(h0, .inr (11, [.ref d0, .ref d1, .ref d2, .ref d3, .ref d4, .ref d5, .ref d6, .ref d7, .ref d8, .ref d9])), (d8, .inr (2, [.int 0, .int 0, .int 0, .int 0, .int 0, .int 0, .int 0, .int 0, .int 0, .ref gn, .ref gf, .ref gp, .ref gs, .ref gr])), (gf, .inr (1, [.int 0, .ref b0, .ref b1, .ref b2, .ref b3, .ref b4, .ref b5, .ref b6, .ref b7, .ref b8]))]) hP hD [0, 1, 2] [] rfl rfl (by decide) (by decide) hk1 hFc hP1 hD1
  generalize H1 = H at hP hS ⊢
  have hP : va_P (dC, dI) vwCl [(h0, .inr (11, [.ref d0, .ref d1, .ref d2, .ref d3, .ref d4, .ref d5, .ref d6, .ref d7, .ref d8, .ref d9])), (d8, .inr (2, [.int 0, .int 0, .int 0, .int 0, .int 0, .int 0, .int 0, .int 0, .int 0, .ref gn, .ref gf, .ref gp, .ref gs, .ref gr])), (gf, .inr (1, [.int 0, .ref b0, .ref b1, .ref b2, .ref b3, .ref b4, .ref b5, .ref b6, .ref b7, .ref b8]))] H := hP
  have hD : va_D A [(h0, .inr (11, [.ref d0, .ref d1, .ref d2, .ref d3, .ref d4, .ref d5, .ref d6, .ref d7, .ref d8, .ref d9])), (d8, .inr (2, [.int 0, .int 0, .int 0, .int 0, .int 0, .int 0, .int 0, .int 0, .int 0, .ref gn, .ref gf, .ref gp, .ref gs, .ref gr])), (gf, .inr (1, [.int 0, .ref b0, .ref b1, .ref b2, .ref b3, .ref b4, .ref b5, .ref b6, .ref b7, .ref b8]))] := hD
  subst hw
  refine lv_istore (lv' := [(4, .int (-2)), (0, .ref h0), (1, .int p0), (2, .int p1), (3, .int p2)]) hx hb dX11_faults_7 hl (by decide) rfl (fun ls hl => ?_)
  refine lv_iload hx hb dX11_faults_9 (lv_at hl 0 rfl) ?_
  refine lv_if_eq (tgt := 19) hx hb dX11_faults_11 (by decide) (fun c3 => absurd c3 (by decide)) (fun c3 => ?_)
  refine lv_iload hx hb dX11_faults_14 (lv_at hl 0 rfl) ?_
  refine lv_goto (tgt := 26) hx hb dX11_faults_16 (by decide) ?_
  exact W.iret (v := (-2)) hx hb hr (fun t ht hW => ⟨⟨(-2), (), rfl, rfl, trivial⟩, hS.F ht⟩) hS.2.2 dX11_faults_26
set_option maxHeartbeats 4000000 in
set_option maxRecDepth 100000 in
theorem c_X11_guess (l : Launch) (dC : Nat → ClassId) (dI : Nat → Nat → Nat) (cI cZ cB cJ cM : ClassId) (h0 d0 d1 d2 d3 d4 d5 d6 d7 d8 d9 gn gf gp gs gr b0 b1 b2 b3 b4 b5 b6 b7 b8 : Nat) (p0 p1 p2 p3 : Int32) (sz : Nat) : Met l yX11_guess (kw yX11_guess cX11_guess 6 (some .int)) ({ frames := 2, cells := 0, slots := 0, locals := 49 }) (va_Pc [.ref h0, .int p0, .int p1, .int p2, .int p3] (kPre dC dI [(cI, .int), (cZ, .boolean), (cB, .byte), (cJ, .long), (cM, .object RX2)] [(h0, .inr (11, [.ref d0, .ref d1, .ref d2, .ref d3, .ref d4, .ref d5, .ref d6, .ref d7, .ref d8, .ref d9])), (d8, .inr (2, [.int 0, .int 0, .int 0, .int 0, .int 0, .int 0, .int 0, .int 0, .int 0, .ref gn, .ref gf, .ref gp, .ref gs, .ref gr])), (gf, .inr (1, [.int 0, .ref b0, .ref b1, .ref b2, .ref b3, .ref b4, .ref b5, .ref b6, .ref b7, .ref b8]))] sz)) (va_Qi (fun (r : Int32) (_ : Unit) => r = (-2)) (fun _ _ => True) (va_A [(h0, .inr (11, [.ref d0, .ref d1, .ref d2, .ref d3, .ref d4, .ref d5, .ref d6, .ref d7, .ref d8, .ref d9])), (d8, .inr (2, [.int 0, .int 0, .int 0, .int 0, .int 0, .int 0, .int 0, .int 0, .int 0, .ref gn, .ref gf, .ref gp, .ref gs, .ref gr])), (gf, .inr (1, [.int 0, .ref b0, .ref b1, .ref b2, .ref b3, .ref b4, .ref b5, .ref b6, .ref b7, .ref b8]))] sz)) 0 0 (va_A [(h0, .inr (11, [.ref d0, .ref d1, .ref d2, .ref d3, .ref d4, .ref d5, .ref d6, .ref d7, .ref d8, .ref d9])), (d8, .inr (2, [.int 0, .int 0, .int 0, .int 0, .int 0, .int 0, .int 0, .int 0, .int 0, .ref gn, .ref gf, .ref gp, .ref gs, .ref gr])), (gf, .inr (1, [.int 0, .ref b0, .ref b1, .ref b2, .ref b3, .ref b4, .ref b5, .ref b6, .ref b7, .ref b8]))] sz) := by
  refine kEnter (by decide) (Nat.le_of_ble_eq_true rfl) ?_
  intro p e s m below meth c ls hx hb hr hml hown hlocks hin hwd hsz hP hK hD hl
  subst hsz
  generalize hAe : va_A [(h0, .inr (11, [.ref d0, .ref d1, .ref d2, .ref d3, .ref d4, .ref d5, .ref d6, .ref d7, .ref d8, .ref d9])), (d8, .inr (2, [.int 0, .int 0, .int 0, .int 0, .int 0, .int 0, .int 0, .int 0, .int 0, .ref gn, .ref gf, .ref gp, .ref gs, .ref gr])), (gf, .inr (1, [.int 0, .ref b0, .ref b1, .ref b2, .ref b3, .ref b4, .ref b5, .ref b6, .ref b7, .ref b8]))] s.heap.size = A at hD ⊢
  have hA : ∀ q : Nat, s.heap.size ≤ q → A q := fun q h => by rw [← hAe]; exact Or.inr h
  have hS : va_S A s.heap s.heap [] := va_S.rf
  have hl : lv_has ls 6 [(0, .ref h0), (1, .int p0), (2, .int p1), (3, .int p2), (4, .int p3)] := hl
  refine lv_iload hx hb dX11_guess_0 (lv_at hl 4 rfl) ?_
  refine lv_if_lt (tgt := 11) hx hb dX11_guess_2 (by decide) (fun c1 => ?_) (fun c1 => ?_)
  · refine lv_bipush (v := (-2)) hx hb dX11_guess_11 (by decide) ?_
    exact W.iret (v := (-2)) hx hb hr (fun t ht hW => ⟨⟨(-2), (), rfl, rfl, trivial⟩, hS.F ht⟩) hS.2.2 dX11_guess_13
  · refine lv_iload hx hb dX11_guess_5 (lv_at hl 4 rfl) ?_
    refine lv_iconst (v := 3) hx hb dX11_guess_7 (by decide) ?_
    refine lv_icmp_le (tgt := 14) hx hb dX11_guess_8 (by decide) (fun c2 => ?_) (fun c2 => ?_)
    · refine lv_aload_n hx hb dX11_guess_14 rfl (lv_at hl 0 rfl) ?_
      refine lv_iload_n hx hb dX11_guess_15 rfl (lv_at hl 1 rfl) ?_
      refine lv_iload_n hx hb dX11_guess_16 rfl (lv_at hl 2 rfl) ?_
      refine lv_iload_n hx hb dX11_guess_17 rfl (lv_at hl 3 rfl) ?_
      have hPc := hP.sub (ws' := [(h0, .inr (11, [.ref d0, .ref d1, .ref d2, .ref d3, .ref d4, .ref d5, .ref d6, .ref d7, .ref d8, .ref d9])), (d8, .inr (2, [.int 0, .int 0, .int 0, .int 0, .int 0, .int 0, .int 0, .int 0, .int 0, .ref gn, .ref gf, .ref gp, .ref gs, .ref gr])), (gf, .inr (1, [.int 0, .ref b0, .ref b1, .ref b2, .ref b3, .ref b4, .ref b5, .ref b6, .ref b7, .ref b8]))]) [0, 1, 2] rfl
      have hDc := hD.sub (ws' := [(h0, .inr (11, [.ref d0, .ref d1, .ref d2, .ref d3, .ref d4, .ref d5, .ref d6, .ref d7, .ref d8, .ref d9])), (d8, .inr (2, [.int 0, .int 0, .int 0, .int 0, .int 0, .int 0, .int 0, .int 0, .int 0, .ref gn, .ref gf, .ref gp, .ref gs, .ref gr])), (gf, .inr (1, [.int 0, .ref b0, .ref b1, .ref b2, .ref b3, .ref b4, .ref b5, .ref b6, .ref b7, .ref b8]))]) [0, 1, 2] (by decide) rfl
      have hFc := va_free (wc := [(h0, .inr (11, [.ref d0, .ref d1, .ref d2, .ref d3, .ref d4, .ref d5, .ref d6, .ref d7, .ref d8, .ref d9])), (d8, .inr (2, [.int 0, .int 0, .int 0, .int 0, .int 0, .int 0, .int 0, .int 0, .int 0, .ref gn, .ref gf, .ref gp, .ref gs, .ref gr])), (gf, .inr (1, [.int 0, .ref b0, .ref b1, .ref b2, .ref b3, .ref b4, .ref b5, .ref b6, .ref b7, .ref b8]))]) hD hS hA [0, 1, 2] rfl
      refine va_calli (va_runV (As := [.int p0, .int p1, .int p2]) (rest := []) ⟨hx, hb, hml, hown, hwd⟩ (c_X11_searchFaults l dC dI cI cZ cB cJ cM h0 d0 d1 d2 d3 d4 d5 d6 d7 d8 d9 gn gf gp gs gr b0 b1 b2 b3 b4 b5 b6 b7 b8 p0 p1 p2 s.heap.size) (cwV 3 hwd (gV kr29_16 kr29_17 kr29_18 kr1_2 kr29_19) rfl rfl rfl (by decide +kernel) ⟨Nat.le_of_ble_eq_true rfl, Nat.le_of_ble_eq_true rfl⟩) (kPreV hPc hK hDc (ci := 11) (q0 := 0) rfl rfl) rfl rfl hl.1 rfl (lv_room (Nat.le_of_ble_eq_true rfl)) dX11_guess_18 ⟨Nat.le_of_ble_eq_true rfl, Nat.le_of_ble_eq_true rfl⟩) hS (fun q _ h => hFc q h) hFc (fun r3 u4 t H1 locs ht9 hvm hw hB hz1 hk1 hS => ?_)
      obtain ⟨hP1, hD1⟩ := hB
      rw [ht9] at hP1
      obtain ⟨hP, hD⟩ := va_join (wr := []) (w1 := [(h0, .inr (11, [.ref d0, .ref d1, .ref d2, .ref d3, .ref d4, .ref d5, .ref d6, .ref d7, .ref d8, .ref d9])), (d8, .inr (2, [.int 0, .int 0, .int 0, .int 0, .int 0, .int 0, .int 0, .int 0, .int 0, .ref gn, .ref gf, .ref gp, .ref gs, .ref gr])), (gf, .inr (1, [.int 0, .ref b0, .ref b1, .ref b2, .ref b3, .ref b4, .ref b5, .ref b6, .ref b7, .ref b8]))]) hP hD [0, 1, 2] [] rfl rfl (by decide) (by decide) hk1 hFc hP1 hD1
      generalize H1 = H at hP hS ⊢
      have hP : va_P (dC, dI) vwCl [(h0, .inr (11, [.ref d0, .ref d1, .ref d2, .ref d3, .ref d4, .ref d5, .ref d6, .ref d7, .ref d8, .ref d9])), (d8, .inr (2, [.int 0, .int 0, .int 0, .int 0, .int 0, .int 0, .int 0, .int 0, .int 0, .ref gn, .ref gf, .ref gp, .ref gs, .ref gr])), (gf, .inr (1, [.int 0, .ref b0, .ref b1, .ref b2, .ref b3, .ref b4, .ref b5, .ref b6, .ref b7, .ref b8]))] H := hP
      have hD : va_D A [(h0, .inr (11, [.ref d0, .ref d1, .ref d2, .ref d3, .ref d4, .ref d5, .ref d6, .ref d7, .ref d8, .ref d9])), (d8, .inr (2, [.int 0, .int 0, .int 0, .int 0, .int 0, .int 0, .int 0, .int 0, .int 0, .ref gn, .ref gf, .ref gp, .ref gs, .ref gr])), (gf, .inr (1, [.int 0, .ref b0, .ref b1, .ref b2, .ref b3, .ref b4, .ref b5, .ref b6, .ref b7, .ref b8]))] := hD
      subst hw
      refine lv_istore (lv' := [(5, .int (-2)), (0, .ref h0), (1, .int p0), (2, .int p1), (3, .int p2), (4, .int p3)]) hx hb dX11_guess_21 hl (by decide) rfl (fun ls hl => ?_)
      refine lv_iload hx hb dX11_guess_23 (lv_at hl 0 rfl) ?_
      refine lv_if_eq (tgt := 31) hx hb dX11_guess_25 (by decide) (fun c5 => absurd c5 (by decide)) (fun c5 => ?_)
      refine lv_iload hx hb dX11_guess_28 (lv_at hl 0 rfl) ?_
      exact W.iret (v := (-2)) hx hb hr (fun t ht hW => ⟨⟨(-2), (), rfl, rfl, trivial⟩, hS.F ht⟩) hS.2.2 dX11_guess_30
    · refine lv_bipush (v := (-2)) hx hb dX11_guess_11 (by decide) ?_
      exact W.iret (v := (-2)) hx hb hr (fun t ht hW => ⟨⟨(-2), (), rfl, rfl, trivial⟩, hS.F ht⟩) hS.2.2 dX11_guess_13
set_option maxHeartbeats 4000000 in
set_option maxRecDepth 100000 in
theorem c_X11_margin (l : Launch) (dC : Nat → ClassId) (dI : Nat → Nat → Nat) (cI cZ cB cJ cM : ClassId) (h0 d0 d1 d2 d3 d4 d5 d6 d7 d8 d9 gn gf gp gs gr a0 a1 a2 a3 a4 a5 a6 : Nat) (p0 p1 p2 : Int32) (sz : Nat) : Met l yX11_margin (kw yX11_margin cX11_margin 8 (some .int)) ({ frames := 1, cells := 0, slots := 0, locals := 21 }) (va_Pc [.ref h0, .int p0, .int p1, .int p2] (kPre dC dI [(cI, .int), (cZ, .boolean), (cB, .byte), (cJ, .long), (cM, .object RX2)] [(h0, .inr (11, [.ref d0, .ref d1, .ref d2, .ref d3, .ref d4, .ref d5, .ref d6, .ref d7, .ref d8, .ref d9])), (d8, .inr (2, [.int 0, .int 0, .int 0, .int 0, .int 0, .int 0, .int 0, .int 0, .int 0, .ref gn, .ref gf, .ref gp, .ref gs, .ref gr])), (gn, .inr (3, [.int 0, .ref a0, .ref a1, .ref a2, .ref a3, .ref a4, .ref a5, .ref a6]))] sz)) (va_Qi (fun (r : Int32) (_ : Unit) => r = (-2)) (fun _ _ => True) (va_A [(h0, .inr (11, [.ref d0, .ref d1, .ref d2, .ref d3, .ref d4, .ref d5, .ref d6, .ref d7, .ref d8, .ref d9])), (d8, .inr (2, [.int 0, .int 0, .int 0, .int 0, .int 0, .int 0, .int 0, .int 0, .int 0, .ref gn, .ref gf, .ref gp, .ref gs, .ref gr])), (gn, .inr (3, [.int 0, .ref a0, .ref a1, .ref a2, .ref a3, .ref a4, .ref a5, .ref a6]))] sz)) 0 0 (va_A [(h0, .inr (11, [.ref d0, .ref d1, .ref d2, .ref d3, .ref d4, .ref d5, .ref d6, .ref d7, .ref d8, .ref d9])), (d8, .inr (2, [.int 0, .int 0, .int 0, .int 0, .int 0, .int 0, .int 0, .int 0, .int 0, .ref gn, .ref gf, .ref gp, .ref gs, .ref gr])), (gn, .inr (3, [.int 0, .ref a0, .ref a1, .ref a2, .ref a3, .ref a4, .ref a5, .ref a6]))] sz) := by
  refine kEnter (by decide) (Nat.le_of_ble_eq_true rfl) ?_
  intro p e s m below meth c ls hx hb hr hml hown hlocks hin hwd hsz hP hK hD hl
  subst hsz
  generalize hAe : va_A [(h0, .inr (11, [.ref d0, .ref d1, .ref d2, .ref d3, .ref d4, .ref d5, .ref d6, .ref d7, .ref d8, .ref d9])), (d8, .inr (2, [.int 0, .int 0, .int 0, .int 0, .int 0, .int 0, .int 0, .int 0, .int 0, .ref gn, .ref gf, .ref gp, .ref gs, .ref gr])), (gn, .inr (3, [.int 0, .ref a0, .ref a1, .ref a2, .ref a3, .ref a4, .ref a5, .ref a6]))] s.heap.size = A at hD ⊢
  have hA : ∀ q : Nat, s.heap.size ≤ q → A q := fun q h => by rw [← hAe]; exact Or.inr h
  have hS : va_S A s.heap s.heap [] := va_S.rf
  have hl : lv_has ls 8 [(0, .ref h0), (1, .int p0), (2, .int p1), (3, .int p2)] := hl
  refine lv_aload_n hx hb dX11_margin_0 rfl (lv_at hl 0 rfl) ?_
  refine va_get (D := (dC, dI)) (ci := 11) (v := .ref d8) (C := RX11) (T := TX11) (N := 10) hx hb hwd inlX11 hown hK hP 0 rfl rfl 8 (by decide) (hwd _ kr2_19) (fun _ h9 => h9) rfl dX11_margin_1 ?_
  refine lv_iload_n hx hb dX11_margin_4 rfl (lv_at hl 1 rfl) ?_
  have hPc := hP.sub (ws' := [(d8, .inr (2, [.int 0, .int 0, .int 0, .int 0, .int 0, .int 0, .int 0, .int 0, .int 0, .ref gn, .ref gf, .ref gp, .ref gs, .ref gr])), (gn, .inr (3, [.int 0, .ref a0, .ref a1, .ref a2, .ref a3, .ref a4, .ref a5, .ref a6]))]) [1, 2] rfl
  have hDc := hD.sub (ws' := [(d8, .inr (2, [.int 0, .int 0, .int 0, .int 0, .int 0, .int 0, .int 0, .int 0, .int 0, .ref gn, .ref gf, .ref gp, .ref gs, .ref gr])), (gn, .inr (3, [.int 0, .ref a0, .ref a1, .ref a2, .ref a3, .ref a4, .ref a5, .ref a6]))]) [1, 2] (by decide) rfl
  have hFc := va_free (wc := [(d8, .inr (2, [.int 0, .int 0, .int 0, .int 0, .int 0, .int 0, .int 0, .int 0, .int 0, .ref gn, .ref gf, .ref gp, .ref gs, .ref gr])), (gn, .inr (3, [.int 0, .ref a0, .ref a1, .ref a2, .ref a3, .ref a4, .ref a5, .ref a6]))]) hD hS hA [1, 2] rfl
  refine va_calli (va_runV (As := [.int p0]) (rest := []) ⟨hx, hb, hml, hown, hwd⟩ (c_X2_hasNose l dC dI cI cZ cB cJ cM d8 gn gf gp gs gr a0 a1 a2 a3 a4 a5 a6 p0 s.heap.size) (cwV 1 hwd (gV kr22_13 kr22_14 kr22_15 kr2_18 kr22_16) rfl rfl rfl (by decide +kernel) ⟨Nat.le_of_ble_eq_true rfl, Nat.le_of_ble_eq_true rfl⟩) (kPreV hPc hK hDc (ci := 2) (q0 := 0) rfl rfl) rfl rfl hl.1 rfl (lv_room (Nat.le_of_ble_eq_true rfl)) dX11_margin_5 ⟨Nat.le_of_ble_eq_true rfl, Nat.le_of_ble_eq_true rfl⟩) hS (fun q _ h => hFc q h) hFc (fun r1 u2 t H1 locs ht9 hvm hw hB hz1 hk1 hS => ?_)
  obtain ⟨hP1, hD1⟩ := hB
  rw [ht9] at hP1
  obtain ⟨hP, hD⟩ := va_join (wr := [(h0, .inr (11, [.ref d0, .ref d1, .ref d2, .ref d3, .ref d4, .ref d5, .ref d6, .ref d7, .ref d8, .ref d9]))]) (w1 := [(d8, .inr (2, [.int 0, .int 0, .int 0, .int 0, .int 0, .int 0, .int 0, .int 0, .int 0, .ref gn, .ref gf, .ref gp, .ref gs, .ref gr])), (gn, .inr (3, [.int 0, .ref a0, .ref a1, .ref a2, .ref a3, .ref a4, .ref a5, .ref a6]))]) hP hD [1, 2] [0] rfl rfl (by decide) (by decide) hk1 hFc hP1 hD1
  generalize H1 = H at hP hS ⊢
  have hP : va_P (dC, dI) vwCl [(h0, .inr (11, [.ref d0, .ref d1, .ref d2, .ref d3, .ref d4, .ref d5, .ref d6, .ref d7, .ref d8, .ref d9])), (d8, .inr (2, [.int 0, .int 0, .int 0, .int 0, .int 0, .int 0, .int 0, .int 0, .int 0, .ref gn, .ref gf, .ref gp, .ref gs, .ref gr])), (gn, .inr (3, [.int 0, .ref a0, .ref a1, .ref a2, .ref a3, .ref a4, .ref a5, .ref a6]))] H := hP
  have hD : va_D A [(h0, .inr (11, [.ref d0, .ref d1, .ref d2, .ref d3, .ref d4, .ref d5, .ref d6, .ref d7, .ref d8, .ref d9])), (d8, .inr (2, [.int 0, .int 0, .int 0, .int 0, .int 0, .int 0, .int 0, .int 0, .int 0, .ref gn, .ref gf, .ref gp, .ref gs, .ref gr])), (gn, .inr (3, [.int 0, .ref a0, .ref a1, .ref a2, .ref a3, .ref a4, .ref a5, .ref a6]))] := hD
  subst hw
  refine lv_if_eq (tgt := 29) hx hb dX11_margin_8 (by decide) (fun c3 => ?_) (fun c3 => absurd c3 (by decide))
  refine lv_bipush (v := (-2)) hx hb dX11_margin_29 (by decide) ?_
  exact W.iret (v := (-2)) hx hb hr (fun t ht hW => ⟨⟨(-2), (), rfl, rfl, trivial⟩, hS.F ht⟩) hS.2.2 dX11_margin_31
set_option maxHeartbeats 4000000 in
set_option maxRecDepth 100000 in
theorem c_X11_years (l : Launch) (dC : Nat → ClassId) (dI : Nat → Nat → Nat) (cI cZ cB cJ cM : ClassId) (h0 d0 d1 d2 d3 d4 d5 d6 d7 d8 d9 gn gf gp gs gr : Nat) (p0 p1 p2 : Int32) (sz : Nat) : Met l yX11_years (kw yX11_years cX11_years 8 (some .int)) ({ frames := 1, cells := 0, slots := 0, locals := 20 }) (va_Pc [.ref h0, .int p0, .int p1, .int p2] (kPre dC dI [(cI, .int), (cZ, .boolean), (cB, .byte), (cJ, .long), (cM, .object RX2)] [(h0, .inr (11, [.ref d0, .ref d1, .ref d2, .ref d3, .ref d4, .ref d5, .ref d6, .ref d7, .ref d8, .ref d9])), (d8, .inr (2, [.int 0, .int 0, .int 0, .int 0, .int 0, .int 0, .int 0, .int 0, .int 0, .ref gn, .ref gf, .ref gp, .ref gs, .ref gr]))] sz)) (va_Qi (fun (r : Int32) (_ : Unit) => r = (-2)) (fun _ _ => True) (va_A [(h0, .inr (11, [.ref d0, .ref d1, .ref d2, .ref d3, .ref d4, .ref d5, .ref d6, .ref d7, .ref d8, .ref d9])), (d8, .inr (2, [.int 0, .int 0, .int 0, .int 0, .int 0, .int 0, .int 0, .int 0, .int 0, .ref gn, .ref gf, .ref gp, .ref gs, .ref gr]))] sz)) 0 0 (va_A [(h0, .inr (11, [.ref d0, .ref d1, .ref d2, .ref d3, .ref d4, .ref d5, .ref d6, .ref d7, .ref d8, .ref d9])), (d8, .inr (2, [.int 0, .int 0, .int 0, .int 0, .int 0, .int 0, .int 0, .int 0, .int 0, .ref gn, .ref gf, .ref gp, .ref gs, .ref gr]))] sz) := by
  refine kEnter (by decide) (Nat.le_of_ble_eq_true rfl) ?_
  intro p e s m below meth c ls hx hb hr hml hown hlocks hin hwd hsz hP hK hD hl
  subst hsz
  generalize hAe : va_A [(h0, .inr (11, [.ref d0, .ref d1, .ref d2, .ref d3, .ref d4, .ref d5, .ref d6, .ref d7, .ref d8, .ref d9])), (d8, .inr (2, [.int 0, .int 0, .int 0, .int 0, .int 0, .int 0, .int 0, .int 0, .int 0, .ref gn, .ref gf, .ref gp, .ref gs, .ref gr]))] s.heap.size = A at hD ⊢
  have hA : ∀ q : Nat, s.heap.size ≤ q → A q := fun q h => by rw [← hAe]; exact Or.inr h
  have hS : va_S A s.heap s.heap [] := va_S.rf
  have hl : lv_has ls 8 [(0, .ref h0), (1, .int p0), (2, .int p1), (3, .int p2)] := hl
  refine lv_aload_n hx hb dX11_years_0 rfl (lv_at hl 0 rfl) ?_
  refine va_get (D := (dC, dI)) (ci := 11) (v := .ref d8) (C := RX11) (T := TX11) (N := 10) hx hb hwd inlX11 hown hK hP 0 rfl rfl 8 (by decide) (hwd _ kr2_19) (fun _ h9 => h9) rfl dX11_years_1 ?_
  have hPc := hP.sub (ws' := [(d8, .inr (2, [.int 0, .int 0, .int 0, .int 0, .int 0, .int 0, .int 0, .int 0, .int 0, .ref gn, .ref gf, .ref gp, .ref gs, .ref gr]))]) [1] rfl
  have hDc := hD.sub (ws' := [(d8, .inr (2, [.int 0, .int 0, .int 0, .int 0, .int 0, .int 0, .int 0, .int 0, .int 0, .ref gn, .ref gf, .ref gp, .ref gs, .ref gr]))]) [1] (by decide) rfl
  have hFc := va_free (wc := [(d8, .inr (2, [.int 0, .int 0, .int 0, .int 0, .int 0, .int 0, .int 0, .int 0, .int 0, .ref gn, .ref gf, .ref gp, .ref gs, .ref gr]))]) hD hS hA [1] rfl
  refine va_calli (va_runV (As := []) (rest := []) ⟨hx, hb, hml, hown, hwd⟩ (c_X2_isTold l dC dI cI cZ cB cJ cM d8 gn gf gp gs gr s.heap.size) (cwV 0 hwd (gV kr14_23 kr15_0 kr15_1 kr2_18 kr15_2) rfl rfl rfl (by decide +kernel) ⟨Nat.le_of_ble_eq_true rfl, Nat.le_of_ble_eq_true rfl⟩) (kPreV hPc hK hDc (ci := 2) (q0 := 0) rfl rfl) rfl rfl hl.1 rfl (lv_room (Nat.le_of_ble_eq_true rfl)) dX11_years_4 ⟨Nat.le_of_ble_eq_true rfl, Nat.le_of_ble_eq_true rfl⟩) hS (fun q _ h => hFc q h) hFc (fun r1 u2 t H1 locs ht9 hvm hw hB hz1 hk1 hS => ?_)
  obtain ⟨hP1, hD1⟩ := hB
  rw [ht9] at hP1
  obtain ⟨hP, hD⟩ := va_join (wr := [(h0, .inr (11, [.ref d0, .ref d1, .ref d2, .ref d3, .ref d4, .ref d5, .ref d6, .ref d7, .ref d8, .ref d9]))]) (w1 := [(d8, .inr (2, [.int 0, .int 0, .int 0, .int 0, .int 0, .int 0, .int 0, .int 0, .int 0, .ref gn, .ref gf, .ref gp, .ref gs, .ref gr]))]) hP hD [1] [0] rfl rfl (by decide) (by decide) hk1 hFc hP1 hD1
  generalize H1 = H at hP hS ⊢
  have hP : va_P (dC, dI) vwCl [(h0, .inr (11, [.ref d0, .ref d1, .ref d2, .ref d3, .ref d4, .ref d5, .ref d6, .ref d7, .ref d8, .ref d9])), (d8, .inr (2, [.int 0, .int 0, .int 0, .int 0, .int 0, .int 0, .int 0, .int 0, .int 0, .ref gn, .ref gf, .ref gp, .ref gs, .ref gr]))] H := hP
  have hD : va_D A [(h0, .inr (11, [.ref d0, .ref d1, .ref d2, .ref d3, .ref d4, .ref d5, .ref d6, .ref d7, .ref d8, .ref d9])), (d8, .inr (2, [.int 0, .int 0, .int 0, .int 0, .int 0, .int 0, .int 0, .int 0, .int 0, .ref gn, .ref gf, .ref gp, .ref gs, .ref gr]))] := hD
  subst hw
  refine lv_if_eq (tgt := 19) hx hb dX11_years_7 (by decide) (fun c3 => ?_) (fun c3 => absurd c3 (by decide))
  refine lv_bipush (v := (-2)) hx hb dX11_years_19 (by decide) ?_
  exact W.iret (v := (-2)) hx hb hr (fun t ht hW => ⟨⟨(-2), (), rfl, rfl, trivial⟩, hS.F ht⟩) hS.2.2 dX11_years_21
set_option maxHeartbeats 4000000 in
set_option maxRecDepth 100000 in
theorem c_X11_until (l : Launch) (dC : Nat → ClassId) (dI : Nat → Nat → Nat) (cI cZ cB cJ cM : ClassId) (h0 d0 d1 d2 d3 d4 d5 d6 d7 d8 d9 gn gf gp gs gr b0 b1 b2 b3 b4 b5 b6 b7 b8 : Nat) (p0 p1 p2 p3 p4 : Int32) (sz : Nat) : Met l yX11_until (kw yX11_until cX11_until 11 (some .int)) ({ frames := 1, cells := 0, slots := 0, locals := 21 }) (va_Pc [.ref h0, .int p0, .int p1, .int p2, .int p3, .int p4] (kPre dC dI [(cI, .int), (cZ, .boolean), (cB, .byte), (cJ, .long), (cM, .object RX2)] [(h0, .inr (11, [.ref d0, .ref d1, .ref d2, .ref d3, .ref d4, .ref d5, .ref d6, .ref d7, .ref d8, .ref d9])), (d8, .inr (2, [.int 0, .int 0, .int 0, .int 0, .int 0, .int 0, .int 0, .int 0, .int 0, .ref gn, .ref gf, .ref gp, .ref gs, .ref gr])), (gf, .inr (1, [.int 0, .ref b0, .ref b1, .ref b2, .ref b3, .ref b4, .ref b5, .ref b6, .ref b7, .ref b8]))] sz)) (va_Qi (fun (r : Int32) (_ : Unit) => r = (-2)) (fun _ _ => True) (va_A [(h0, .inr (11, [.ref d0, .ref d1, .ref d2, .ref d3, .ref d4, .ref d5, .ref d6, .ref d7, .ref d8, .ref d9])), (d8, .inr (2, [.int 0, .int 0, .int 0, .int 0, .int 0, .int 0, .int 0, .int 0, .int 0, .ref gn, .ref gf, .ref gp, .ref gs, .ref gr])), (gf, .inr (1, [.int 0, .ref b0, .ref b1, .ref b2, .ref b3, .ref b4, .ref b5, .ref b6, .ref b7, .ref b8]))] sz)) 0 0 (va_A [(h0, .inr (11, [.ref d0, .ref d1, .ref d2, .ref d3, .ref d4, .ref d5, .ref d6, .ref d7, .ref d8, .ref d9])), (d8, .inr (2, [.int 0, .int 0, .int 0, .int 0, .int 0, .int 0, .int 0, .int 0, .int 0, .ref gn, .ref gf, .ref gp, .ref gs, .ref gr])), (gf, .inr (1, [.int 0, .ref b0, .ref b1, .ref b2, .ref b3, .ref b4, .ref b5, .ref b6, .ref b7, .ref b8]))] sz) := by
  refine kEnter (by decide) (Nat.le_of_ble_eq_true rfl) ?_
  intro p e s m below meth c ls hx hb hr hml hown hlocks hin hwd hsz hP hK hD hl
  subst hsz
  generalize hAe : va_A [(h0, .inr (11, [.ref d0, .ref d1, .ref d2, .ref d3, .ref d4, .ref d5, .ref d6, .ref d7, .ref d8, .ref d9])), (d8, .inr (2, [.int 0, .int 0, .int 0, .int 0, .int 0, .int 0, .int 0, .int 0, .int 0, .ref gn, .ref gf, .ref gp, .ref gs, .ref gr])), (gf, .inr (1, [.int 0, .ref b0, .ref b1, .ref b2, .ref b3, .ref b4, .ref b5, .ref b6, .ref b7, .ref b8]))] s.heap.size = A at hD ⊢
  have hA : ∀ q : Nat, s.heap.size ≤ q → A q := fun q h => by rw [← hAe]; exact Or.inr h
  have hS : va_S A s.heap s.heap [] := va_S.rf
  have hl : lv_has ls 11 [(0, .ref h0), (1, .int p0), (2, .int p1), (3, .int p2), (4, .int p3), (5, .int p4)] := hl
  refine lv_aload_n hx hb dX11_until_0 rfl (lv_at hl 0 rfl) ?_
  refine va_get (D := (dC, dI)) (ci := 11) (v := .ref d8) (C := RX11) (T := TX11) (N := 10) hx hb hwd inlX11 hown hK hP 0 rfl rfl 8 (by decide) (hwd _ kr2_19) (fun _ h9 => h9) rfl dX11_until_1 ?_
  refine lv_iload_n hx hb dX11_until_4 rfl (lv_at hl 1 rfl) ?_
  have hPc := hP.sub (ws' := [(d8, .inr (2, [.int 0, .int 0, .int 0, .int 0, .int 0, .int 0, .int 0, .int 0, .int 0, .ref gn, .ref gf, .ref gp, .ref gs, .ref gr])), (gf, .inr (1, [.int 0, .ref b0, .ref b1, .ref b2, .ref b3, .ref b4, .ref b5, .ref b6, .ref b7, .ref b8]))]) [1, 2] rfl
  have hDc := hD.sub (ws' := [(d8, .inr (2, [.int 0, .int 0, .int 0, .int 0, .int 0, .int 0, .int 0, .int 0, .int 0, .ref gn, .ref gf, .ref gp, .ref gs, .ref gr])), (gf, .inr (1, [.int 0, .ref b0, .ref b1, .ref b2, .ref b3, .ref b4, .ref b5, .ref b6, .ref b7, .ref b8]))]) [1, 2] (by decide) rfl
  have hFc := va_free (wc := [(d8, .inr (2, [.int 0, .int 0, .int 0, .int 0, .int 0, .int 0, .int 0, .int 0, .int 0, .ref gn, .ref gf, .ref gp, .ref gs, .ref gr])), (gf, .inr (1, [.int 0, .ref b0, .ref b1, .ref b2, .ref b3, .ref b4, .ref b5, .ref b6, .ref b7, .ref b8]))]) hD hS hA [1, 2] rfl
  refine va_calli (va_runV (As := [.int p0]) (rest := []) ⟨hx, hb, hml, hown, hwd⟩ (c_X2_hasFollower l dC dI cI cZ cB cJ cM d8 gn gf gp gs gr b0 b1 b2 b3 b4 b5 b6 b7 b8 p0 s.heap.size) (cwV 1 hwd (gV kr16_17 kr12_21 kr12_22 kr2_18 kr12_23) rfl rfl rfl (by decide +kernel) ⟨Nat.le_of_ble_eq_true rfl, Nat.le_of_ble_eq_true rfl⟩) (kPreV hPc hK hDc (ci := 2) (q0 := 0) rfl rfl) rfl rfl hl.1 rfl (lv_room (Nat.le_of_ble_eq_true rfl)) dX11_until_5 ⟨Nat.le_of_ble_eq_true rfl, Nat.le_of_ble_eq_true rfl⟩) hS (fun q _ h => hFc q h) hFc (fun r1 u2 t H1 locs ht9 hvm hw hB hz1 hk1 hS => ?_)
  obtain ⟨hP1, hD1⟩ := hB
  rw [ht9] at hP1
  obtain ⟨hP, hD⟩ := va_join (wr := [(h0, .inr (11, [.ref d0, .ref d1, .ref d2, .ref d3, .ref d4, .ref d5, .ref d6, .ref d7, .ref d8, .ref d9]))]) (w1 := [(d8, .inr (2, [.int 0, .int 0, .int 0, .int 0, .int 0, .int 0, .int 0, .int 0, .int 0, .ref gn, .ref gf, .ref gp, .ref gs, .ref gr])), (gf, .inr (1, [.int 0, .ref b0, .ref b1, .ref b2, .ref b3, .ref b4, .ref b5, .ref b6, .ref b7, .ref b8]))]) hP hD [1, 2] [0] rfl rfl (by decide) (by decide) hk1 hFc hP1 hD1
  generalize H1 = H at hP hS ⊢
  have hP : va_P (dC, dI) vwCl [(h0, .inr (11, [.ref d0, .ref d1, .ref d2, .ref d3, .ref d4, .ref d5, .ref d6, .ref d7, .ref d8, .ref d9])), (d8, .inr (2, [.int 0, .int 0, .int 0, .int 0, .int 0, .int 0, .int 0, .int 0, .int 0, .ref gn, .ref gf, .ref gp, .ref gs, .ref gr])), (gf, .inr (1, [.int 0, .ref b0, .ref b1, .ref b2, .ref b3, .ref b4, .ref b5, .ref b6, .ref b7, .ref b8]))] H := hP
  have hD : va_D A [(h0, .inr (11, [.ref d0, .ref d1, .ref d2, .ref d3, .ref d4, .ref d5, .ref d6, .ref d7, .ref d8, .ref d9])), (d8, .inr (2, [.int 0, .int 0, .int 0, .int 0, .int 0, .int 0, .int 0, .int 0, .int 0, .ref gn, .ref gf, .ref gp, .ref gs, .ref gr])), (gf, .inr (1, [.int 0, .ref b0, .ref b1, .ref b2, .ref b3, .ref b4, .ref b5, .ref b6, .ref b7, .ref b8]))] := hD
  subst hw
  refine lv_if_eq (tgt := 29) hx hb dX11_until_8 (by decide) (fun c3 => ?_) (fun c3 => absurd c3 (by decide))
  refine lv_bipush (v := (-2)) hx hb dX11_until_29 (by decide) ?_
  exact W.iret (v := (-2)) hx hb hr (fun t ht hW => ⟨⟨(-2), (), rfl, rfl, trivial⟩, hS.F ht⟩) hS.2.2 dX11_until_31
set_option maxHeartbeats 4000000 in
set_option maxRecDepth 100000 in
theorem c_X11_heard (l : Launch) (dC : Nat → ClassId) (dI : Nat → Nat → Nat) (cI cZ cB cJ cM : ClassId) (h0 d0 d1 d2 d3 d4 d5 d6 d7 d8 d9 gn gf gp gs gr b0 b1 b2 b3 b4 b5 b6 b7 b8 : Nat) (p0 p1 : Int32) (sz : Nat) : Met l yX11_heard (kw yX11_heard cX11_heard 3 (some .long)) ({ frames := 1, cells := 0, slots := 0, locals := 21 }) (va_Pc [.ref h0, .int p0, .int p1] (kPre dC dI [(cI, .int), (cZ, .boolean), (cB, .byte), (cJ, .long), (cM, .object RX2)] [(h0, .inr (11, [.ref d0, .ref d1, .ref d2, .ref d3, .ref d4, .ref d5, .ref d6, .ref d7, .ref d8, .ref d9])), (d8, .inr (2, [.int 0, .int 0, .int 0, .int 0, .int 0, .int 0, .int 0, .int 0, .int 0, .ref gn, .ref gf, .ref gp, .ref gs, .ref gr])), (gf, .inr (1, [.int 0, .ref b0, .ref b1, .ref b2, .ref b3, .ref b4, .ref b5, .ref b6, .ref b7, .ref b8]))] sz)) (va_Ql (fun (r : Int64) (_ : Unit) => r = (-2)) (fun _ _ => True) (va_A [(h0, .inr (11, [.ref d0, .ref d1, .ref d2, .ref d3, .ref d4, .ref d5, .ref d6, .ref d7, .ref d8, .ref d9])), (d8, .inr (2, [.int 0, .int 0, .int 0, .int 0, .int 0, .int 0, .int 0, .int 0, .int 0, .ref gn, .ref gf, .ref gp, .ref gs, .ref gr])), (gf, .inr (1, [.int 0, .ref b0, .ref b1, .ref b2, .ref b3, .ref b4, .ref b5, .ref b6, .ref b7, .ref b8]))] sz)) 0 0 (va_A [(h0, .inr (11, [.ref d0, .ref d1, .ref d2, .ref d3, .ref d4, .ref d5, .ref d6, .ref d7, .ref d8, .ref d9])), (d8, .inr (2, [.int 0, .int 0, .int 0, .int 0, .int 0, .int 0, .int 0, .int 0, .int 0, .ref gn, .ref gf, .ref gp, .ref gs, .ref gr])), (gf, .inr (1, [.int 0, .ref b0, .ref b1, .ref b2, .ref b3, .ref b4, .ref b5, .ref b6, .ref b7, .ref b8]))] sz) := by
  refine kEnter (by decide) (Nat.le_of_ble_eq_true rfl) ?_
  intro p e s m below meth c ls hx hb hr hml hown hlocks hin hwd hsz hP hK hD hl
  subst hsz
  generalize hAe : va_A [(h0, .inr (11, [.ref d0, .ref d1, .ref d2, .ref d3, .ref d4, .ref d5, .ref d6, .ref d7, .ref d8, .ref d9])), (d8, .inr (2, [.int 0, .int 0, .int 0, .int 0, .int 0, .int 0, .int 0, .int 0, .int 0, .ref gn, .ref gf, .ref gp, .ref gs, .ref gr])), (gf, .inr (1, [.int 0, .ref b0, .ref b1, .ref b2, .ref b3, .ref b4, .ref b5, .ref b6, .ref b7, .ref b8]))] s.heap.size = A at hD ⊢
  have hA : ∀ q : Nat, s.heap.size ≤ q → A q := fun q h => by rw [← hAe]; exact Or.inr h
  have hS : va_S A s.heap s.heap [] := va_S.rf
  have hl : lv_has ls 3 [(0, .ref h0), (1, .int p0), (2, .int p1)] := hl
  refine lv_aload_n hx hb dX11_heard_0 rfl (lv_at hl 0 rfl) ?_
  refine va_get (D := (dC, dI)) (ci := 11) (v := .ref d8) (C := RX11) (T := TX11) (N := 10) hx hb hwd inlX11 hown hK hP 0 rfl rfl 8 (by decide) (hwd _ kr2_19) (fun _ h9 => h9) rfl dX11_heard_1 ?_
  refine lv_iload_n hx hb dX11_heard_4 rfl (lv_at hl 1 rfl) ?_
  have hPc := hP.sub (ws' := [(d8, .inr (2, [.int 0, .int 0, .int 0, .int 0, .int 0, .int 0, .int 0, .int 0, .int 0, .ref gn, .ref gf, .ref gp, .ref gs, .ref gr])), (gf, .inr (1, [.int 0, .ref b0, .ref b1, .ref b2, .ref b3, .ref b4, .ref b5, .ref b6, .ref b7, .ref b8]))]) [1, 2] rfl
  have hDc := hD.sub (ws' := [(d8, .inr (2, [.int 0, .int 0, .int 0, .int 0, .int 0, .int 0, .int 0, .int 0, .int 0, .ref gn, .ref gf, .ref gp, .ref gs, .ref gr])), (gf, .inr (1, [.int 0, .ref b0, .ref b1, .ref b2, .ref b3, .ref b4, .ref b5, .ref b6, .ref b7, .ref b8]))]) [1, 2] (by decide) rfl
  have hFc := va_free (wc := [(d8, .inr (2, [.int 0, .int 0, .int 0, .int 0, .int 0, .int 0, .int 0, .int 0, .int 0, .ref gn, .ref gf, .ref gp, .ref gs, .ref gr])), (gf, .inr (1, [.int 0, .ref b0, .ref b1, .ref b2, .ref b3, .ref b4, .ref b5, .ref b6, .ref b7, .ref b8]))]) hD hS hA [1, 2] rfl
  refine va_calli (va_runV (As := [.int p0]) (rest := []) ⟨hx, hb, hml, hown, hwd⟩ (c_X2_hasFollower l dC dI cI cZ cB cJ cM d8 gn gf gp gs gr b0 b1 b2 b3 b4 b5 b6 b7 b8 p0 s.heap.size) (cwV 1 hwd (gV kr16_17 kr12_21 kr12_22 kr2_18 kr12_23) rfl rfl rfl (by decide +kernel) ⟨Nat.le_of_ble_eq_true rfl, Nat.le_of_ble_eq_true rfl⟩) (kPreV hPc hK hDc (ci := 2) (q0 := 0) rfl rfl) rfl rfl hl.1 rfl (lv_room (Nat.le_of_ble_eq_true rfl)) dX11_heard_5 ⟨Nat.le_of_ble_eq_true rfl, Nat.le_of_ble_eq_true rfl⟩) hS (fun q _ h => hFc q h) hFc (fun r1 u2 t H1 locs ht9 hvm hw hB hz1 hk1 hS => ?_)
  obtain ⟨hP1, hD1⟩ := hB
  rw [ht9] at hP1
  obtain ⟨hP, hD⟩ := va_join (wr := [(h0, .inr (11, [.ref d0, .ref d1, .ref d2, .ref d3, .ref d4, .ref d5, .ref d6, .ref d7, .ref d8, .ref d9]))]) (w1 := [(d8, .inr (2, [.int 0, .int 0, .int 0, .int 0, .int 0, .int 0, .int 0, .int 0, .int 0, .ref gn, .ref gf, .ref gp, .ref gs, .ref gr])), (gf, .inr (1, [.int 0, .ref b0, .ref b1, .ref b2, .ref b3, .ref b4, .ref b5, .ref b6, .ref b7, .ref b8]))]) hP hD [1, 2] [0] rfl rfl (by decide) (by decide) hk1 hFc hP1 hD1
  generalize H1 = H at hP hS ⊢
  have hP : va_P (dC, dI) vwCl [(h0, .inr (11, [.ref d0, .ref d1, .ref d2, .ref d3, .ref d4, .ref d5, .ref d6, .ref d7, .ref d8, .ref d9])), (d8, .inr (2, [.int 0, .int 0, .int 0, .int 0, .int 0, .int 0, .int 0, .int 0, .int 0, .ref gn, .ref gf, .ref gp, .ref gs, .ref gr])), (gf, .inr (1, [.int 0, .ref b0, .ref b1, .ref b2, .ref b3, .ref b4, .ref b5, .ref b6, .ref b7, .ref b8]))] H := hP
  have hD : va_D A [(h0, .inr (11, [.ref d0, .ref d1, .ref d2, .ref d3, .ref d4, .ref d5, .ref d6, .ref d7, .ref d8, .ref d9])), (d8, .inr (2, [.int 0, .int 0, .int 0, .int 0, .int 0, .int 0, .int 0, .int 0, .int 0, .ref gn, .ref gf, .ref gp, .ref gs, .ref gr])), (gf, .inr (1, [.int 0, .ref b0, .ref b1, .ref b2, .ref b3, .ref b4, .ref b5, .ref b6, .ref b7, .ref b8]))] := hD
  subst hw
  refine lv_if_eq (tgt := 18) hx hb dX11_heard_8 (by decide) (fun c3 => ?_) (fun c3 => absurd c3 (by decide))
  refine lv_ldc2 (v := (-2)) hx hb hown (hwd _ kr29_6) dX11_heard_18 ?_
  exact W.lret (v := (-2)) hx hb hr (fun t ht hW => ⟨⟨(-2), (), rfl, rfl, trivial⟩, hS.F ht⟩) hS.2.2 dX11_heard_21
set_option maxHeartbeats 4000000 in
set_option maxRecDepth 100000 in
theorem c_X11_motion (l : Launch) (dC : Nat → ClassId) (dI : Nat → Nat → Nat) (cI cZ cB cJ cM : ClassId) (h0 d0 d1 d2 d3 d4 d5 d6 d7 d8 d9 a0 gn gf gp gs gr : Nat)  (sz : Nat) : Met l yX11_motion (kw yX11_motion cX11_motion 1 (some .int)) ({ frames := 1, cells := 0, slots := 0, locals := 20 }) (va_Pc [.ref h0] (kPre dC dI [(cI, .int), (cZ, .boolean), (cB, .byte), (cJ, .long), (cM, .object RX2)] [(h0, .inr (11, [.ref d0, .ref d1, .ref d2, .ref d3, .ref d4, .ref d5, .ref d6, .ref d7, .ref d8, .ref d9])), (d0, .inr (10, [.ref a0, .int 0, .int 0, .int (-1), .int 0, .int 0, .int 0, .int 0])), (d8, .inr (2, [.int 0, .int 0, .int 0, .int 0, .int 0, .int 0, .int 0, .int 0, .int 0, .ref gn, .ref gf, .ref gp, .ref gs, .ref gr]))] sz)) (va_Qi (fun (r : Int32) (_ : Unit) => r = (-2)) (fun _ _ => True) (va_A [(h0, .inr (11, [.ref d0, .ref d1, .ref d2, .ref d3, .ref d4, .ref d5, .ref d6, .ref d7, .ref d8, .ref d9])), (d0, .inr (10, [.ref a0, .int 0, .int 0, .int (-1), .int 0, .int 0, .int 0, .int 0])), (d8, .inr (2, [.int 0, .int 0, .int 0, .int 0, .int 0, .int 0, .int 0, .int 0, .int 0, .ref gn, .ref gf, .ref gp, .ref gs, .ref gr]))] sz)) 0 0 (va_A [(h0, .inr (11, [.ref d0, .ref d1, .ref d2, .ref d3, .ref d4, .ref d5, .ref d6, .ref d7, .ref d8, .ref d9])), (d0, .inr (10, [.ref a0, .int 0, .int 0, .int (-1), .int 0, .int 0, .int 0, .int 0])), (d8, .inr (2, [.int 0, .int 0, .int 0, .int 0, .int 0, .int 0, .int 0, .int 0, .int 0, .ref gn, .ref gf, .ref gp, .ref gs, .ref gr]))] sz) := by
  refine kEnter (by decide) (Nat.le_of_ble_eq_true rfl) ?_
  intro p e s m below meth c ls hx hb hr hml hown hlocks hin hwd hsz hP hK hD hl
  subst hsz
  generalize hAe : va_A [(h0, .inr (11, [.ref d0, .ref d1, .ref d2, .ref d3, .ref d4, .ref d5, .ref d6, .ref d7, .ref d8, .ref d9])), (d0, .inr (10, [.ref a0, .int 0, .int 0, .int (-1), .int 0, .int 0, .int 0, .int 0])), (d8, .inr (2, [.int 0, .int 0, .int 0, .int 0, .int 0, .int 0, .int 0, .int 0, .int 0, .ref gn, .ref gf, .ref gp, .ref gs, .ref gr]))] s.heap.size = A at hD ⊢
  have hA : ∀ q : Nat, s.heap.size ≤ q → A q := fun q h => by rw [← hAe]; exact Or.inr h
  have hS : va_S A s.heap s.heap [] := va_S.rf
  have hl : lv_has ls 1 [(0, .ref h0)] := hl
  refine lv_aload_n hx hb dX11_motion_0 rfl (lv_at hl 0 rfl) ?_
  refine va_get (D := (dC, dI)) (ci := 11) (v := .ref d8) (C := RX11) (T := TX11) (N := 10) hx hb hwd inlX11 hown hK hP 0 rfl rfl 8 (by decide) (hwd _ kr2_19) (fun _ h9 => h9) rfl dX11_motion_1 ?_
  have hPc := hP.sub (ws' := [(d8, .inr (2, [.int 0, .int 0, .int 0, .int 0, .int 0, .int 0, .int 0, .int 0, .int 0, .ref gn, .ref gf, .ref gp, .ref gs, .ref gr]))]) [2] rfl
  have hDc := hD.sub (ws' := [(d8, .inr (2, [.int 0, .int 0, .int 0, .int 0, .int 0, .int 0, .int 0, .int 0, .int 0, .ref gn, .ref gf, .ref gp, .ref gs, .ref gr]))]) [2] (by decide) rfl
  have hFc := va_free (wc := [(d8, .inr (2, [.int 0, .int 0, .int 0, .int 0, .int 0, .int 0, .int 0, .int 0, .int 0, .ref gn, .ref gf, .ref gp, .ref gs, .ref gr]))]) hD hS hA [2] rfl
  refine va_calli (va_runV (As := []) (rest := []) ⟨hx, hb, hml, hown, hwd⟩ (c_X2_isTold l dC dI cI cZ cB cJ cM d8 gn gf gp gs gr s.heap.size) (cwV 0 hwd (gV kr14_23 kr15_0 kr15_1 kr2_18 kr15_2) rfl rfl rfl (by decide +kernel) ⟨Nat.le_of_ble_eq_true rfl, Nat.le_of_ble_eq_true rfl⟩) (kPreV hPc hK hDc (ci := 2) (q0 := 0) rfl rfl) rfl rfl hl.1 rfl (lv_room (Nat.le_of_ble_eq_true rfl)) dX11_motion_4 ⟨Nat.le_of_ble_eq_true rfl, Nat.le_of_ble_eq_true rfl⟩) hS (fun q _ h => hFc q h) hFc (fun r1 u2 t H1 locs ht9 hvm hw hB hz1 hk1 hS => ?_)
  obtain ⟨hP1, hD1⟩ := hB
  rw [ht9] at hP1
  obtain ⟨hP, hD⟩ := va_join (wr := [(h0, .inr (11, [.ref d0, .ref d1, .ref d2, .ref d3, .ref d4, .ref d5, .ref d6, .ref d7, .ref d8, .ref d9])), (d0, .inr (10, [.ref a0, .int 0, .int 0, .int (-1), .int 0, .int 0, .int 0, .int 0]))]) (w1 := [(d8, .inr (2, [.int 0, .int 0, .int 0, .int 0, .int 0, .int 0, .int 0, .int 0, .int 0, .ref gn, .ref gf, .ref gp, .ref gs, .ref gr]))]) hP hD [2] [0, 1] rfl rfl (by decide) (by decide) hk1 hFc hP1 hD1
  generalize H1 = H at hP hS ⊢
  have hP : va_P (dC, dI) vwCl [(h0, .inr (11, [.ref d0, .ref d1, .ref d2, .ref d3, .ref d4, .ref d5, .ref d6, .ref d7, .ref d8, .ref d9])), (d0, .inr (10, [.ref a0, .int 0, .int 0, .int (-1), .int 0, .int 0, .int 0, .int 0])), (d8, .inr (2, [.int 0, .int 0, .int 0, .int 0, .int 0, .int 0, .int 0, .int 0, .int 0, .ref gn, .ref gf, .ref gp, .ref gs, .ref gr]))] H := hP
  have hD : va_D A [(h0, .inr (11, [.ref d0, .ref d1, .ref d2, .ref d3, .ref d4, .ref d5, .ref d6, .ref d7, .ref d8, .ref d9])), (d0, .inr (10, [.ref a0, .int 0, .int 0, .int (-1), .int 0, .int 0, .int 0, .int 0])), (d8, .inr (2, [.int 0, .int 0, .int 0, .int 0, .int 0, .int 0, .int 0, .int 0, .int 0, .ref gn, .ref gf, .ref gp, .ref gs, .ref gr]))] := hD
  subst hw
  refine lv_if_ne (tgt := 21) hx hb dX11_motion_7 (by decide) (fun c3 => absurd c3 (by decide)) (fun c3 => ?_)
  refine lv_aload_n hx hb dX11_motion_10 rfl (lv_at hl 0 rfl) ?_
  refine va_get (D := (dC, dI)) (ci := 11) (v := .ref d0) (C := RX11) (T := TX11) (N := 10) hx hb hwd inlX11 hown hK hP 0 rfl rfl 0 (by decide) (hwd _ kr1_16) (fun _ h9 => h9) rfl dX11_motion_11 ?_
  refine lv_iconst (v := 0) hx hb dX11_motion_14 (by decide) ?_
  refine va_put (D := (dC, dI)) (ci := 10) (v := .int 0) (ty := .int) (C := RX10) (T := TX10) (N := 8) hx hb hwd inlX10 tyX10 tyX10_ok nmX10 hown hK hP hD hS 1 rfl rfl 1 (by decide) (hwd _ kr8_11) (fun _ h9 => h9) rfl (by decide +kernel) rfl rfl (Nat.le_of_ble_eq_true rfl) dX11_motion_15 (fun H locs hP hD hS => ?_)
  have hP : va_P (dC, dI) vwCl [(h0, .inr (11, [.ref d0, .ref d1, .ref d2, .ref d3, .ref d4, .ref d5, .ref d6, .ref d7, .ref d8, .ref d9])), (d0, .inr (10, [.ref a0, .int 0, .int 0, .int (-1), .int 0, .int 0, .int 0, .int 0])), (d8, .inr (2, [.int 0, .int 0, .int 0, .int 0, .int 0, .int 0, .int 0, .int 0, .int 0, .ref gn, .ref gf, .ref gp, .ref gs, .ref gr]))] H := hP
  have hD : va_D A [(h0, .inr (11, [.ref d0, .ref d1, .ref d2, .ref d3, .ref d4, .ref d5, .ref d6, .ref d7, .ref d8, .ref d9])), (d0, .inr (10, [.ref a0, .int 0, .int 0, .int (-1), .int 0, .int 0, .int 0, .int 0])), (d8, .inr (2, [.int 0, .int 0, .int 0, .int 0, .int 0, .int 0, .int 0, .int 0, .int 0, .ref gn, .ref gf, .ref gp, .ref gs, .ref gr]))] := hD
  refine lv_bipush (v := (-2)) hx hb dX11_motion_18 (by decide) ?_
  exact W.iret (v := (-2)) hx hb hr (fun t ht hW => ⟨⟨(-2), (), rfl, rfl, trivial⟩, hS.F ht⟩) hS.2.2 dX11_motion_20

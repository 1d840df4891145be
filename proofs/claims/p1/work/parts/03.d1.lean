theorem dX6_best_0 : decode cX6_best 0 = .ok (.aload_n 0, 1) := by decide +kernel
theorem dX6_best_1 : decode cX6_best 1 = .ok (.iload_n 1, 1) := by decide +kernel
theorem dX6_best_2 : decode cX6_best 2 = .ok (.invokevirtual 199, 3) := by decide +kernel
theorem dX6_points_0 : decode cX6_points 0 = .ok (.aload_n 0, 1) := by decide +kernel
theorem dX6_points_1 : decode cX6_points 1 = .ok (.iload_n 1, 1) := by decide +kernel
theorem dX6_points_2 : decode cX6_points 2 = .ok (.invokevirtual 199, 3) := by decide +kernel
theorem dX6_belt_0 : decode cX6_belt 0 = .ok (.aload_n 0, 1) := by decide +kernel
theorem dX6_belt_1 : decode cX6_belt 1 = .ok (.iload_n 1, 1) := by decide +kernel
theorem dX6_belt_2 : decode cX6_belt 2 = .ok (.invokevirtual 199, 3) := by decide +kernel
theorem dX6_honour_0 : decode cX6_honour 0 = .ok (.aload_n 0, 1) := by decide +kernel
theorem dX6_honour_1 : decode cX6_honour 1 = .ok (.iload_n 1, 1) := by decide +kernel
theorem dX6_honour_2 : decode cX6_honour 2 = .ok (.invokevirtual 199, 3) := by decide +kernel
theorem dX6_ranked_0 : decode cX6_ranked 0 = .ok (.iconst 0, 1) := by decide +kernel
theorem dX6_ranked_1 : decode cX6_ranked 1 = .ok (.istore_n 2, 1) := by decide +kernel
theorem dX6_ranked_2 : decode cX6_ranked 2 = .ok (.iload_n 2, 1) := by decide +kernel
theorem dX6_ranked_3 : decode cX6_ranked 3 = .ok (.aload_n 0, 1) := by decide +kernel
theorem dX6_ranked_4 : decode cX6_ranked 4 = .ok (.getfield 62, 3) := by decide +kernel
theorem dX6_ranked_7 : decode cX6_ranked 7 = .ok (.if_icmp .ge 54, 3) := by decide +kernel
theorem dX6_ranked_61 : decode cX6_ranked 61 = .ok (.new 186, 3) := by decide +kernel
theorem dX6_ranked_64 : decode cX6_ranked 64 = .ok (.dup, 1) := by decide +kernel
theorem dX6_ranked_65 : decode cX6_ranked 65 = .ok (.ldc_w 338, 3) := by decide +kernel
theorem dX6_ranked_68 : decode cX6_ranked 68 = .ok (.invokespecial 190, 3) := by decide +kernel
theorem dX6_ranked_71 : decode cX6_ranked 71 = .ok (.athrow, 1) := by decide +kernel
theorem dX6_challenge_0 : decode cX6_challenge 0 = .ok (.aload_n 0, 1) := by decide +kernel
theorem dX6_challenge_1 : decode cX6_challenge 1 = .ok (.iload_n 1, 1) := by decide +kernel
theorem dX6_challenge_2 : decode cX6_challenge 2 = .ok (.invokevirtual 199, 3) := by decide +kernel
theorem dX6_give_0 : decode cX6_give 0 = .ok (.aload_n 0, 1) := by decide +kernel
theorem dX6_give_1 : decode cX6_give 1 = .ok (.iload_n 1, 1) := by decide +kernel
theorem dX6_give_2 : decode cX6_give 2 = .ok (.invokevirtual 199, 3) := by decide +kernel
theorem dX6_answer_0 : decode cX6_answer 0 = .ok (.aload_n 0, 1) := by decide +kernel
theorem dX6_answer_1 : decode cX6_answer 1 = .ok (.iload_n 1, 1) := by decide +kernel
theorem dX6_answer_2 : decode cX6_answer 2 = .ok (.invokevirtual 199, 3) := by decide +kernel
theorem dX6_open_0 : decode cX6_open 0 = .ok (.iload_n 1, 1) := by decide +kernel
theorem dX6_open_1 : decode cX6_open 1 = .ok (.ifCond .lt 11, 3) := by decide +kernel
theorem dX6_open_4 : decode cX6_open 4 = .ok (.iload_n 1, 1) := by decide +kernel
theorem dX6_open_5 : decode cX6_open 5 = .ok (.aload_n 0, 1) := by decide +kernel
theorem dX6_open_6 : decode cX6_open 6 = .ok (.getfield 68, 3) := by decide +kernel
theorem dX6_open_9 : decode cX6_open 9 = .ok (.if_icmp .lt 14, 3) := by decide +kernel
theorem dX6_open_12 : decode cX6_open 12 = .ok (.new 186, 3) := by decide +kernel
theorem dX6_open_15 : decode cX6_open 15 = .ok (.dup, 1) := by decide +kernel
theorem dX6_open_16 : decode cX6_open 16 = .ok (.ldc_w 371, 3) := by decide +kernel
theorem dX6_open_19 : decode cX6_open 19 = .ok (.invokespecial 190, 3) := by decide +kernel
theorem dX6_open_22 : decode cX6_open 22 = .ok (.athrow, 1) := by decide +kernel
theorem dX6_left_0 : decode cX6_left 0 = .ok (.aload_n 0, 1) := by decide +kernel
theorem dX6_left_1 : decode cX6_left 1 = .ok (.iload_n 1, 1) := by decide +kernel
theorem dX6_left_2 : decode cX6_left 2 = .ok (.invokevirtual 219, 3) := by decide +kernel
theorem dX6_days_0 : decode cX6_days 0 = .ok (.iload_n 1, 1) := by decide +kernel
theorem dX6_days_1 : decode cX6_days 1 = .ok (.iconst 1, 1) := by decide +kernel
theorem dX6_days_2 : decode cX6_days 2 = .ok (.if_icmp .lt 9, 3) := by decide +kernel
theorem dX6_days_5 : decode cX6_days 5 = .ok (.iload_n 1, 1) := by decide +kernel
theorem dX6_days_6 : decode cX6_days 6 = .ok (.bipush 30, 2) := by decide +kernel
theorem dX6_days_8 : decode cX6_days 8 = .ok (.if_icmp .le 14, 3) := by decide +kernel
theorem dX6_days_11 : decode cX6_days 11 = .ok (.new 92, 3) := by decide +kernel
theorem dX6_days_14 : decode cX6_days 14 = .ok (.dup, 1) := by decide +kernel
theorem dX6_days_15 : decode cX6_days 15 = .ok (.ldc_w 373, 3) := by decide +kernel
theorem dX6_days_18 : decode cX6_days 18 = .ok (.invokespecial 96, 3) := by decide +kernel
theorem dX6_days_21 : decode cX6_days 21 = .ok (.athrow, 1) := by decide +kernel
theorem dX6_days_22 : decode cX6_days 22 = .ok (.iconst 0, 1) := by decide +kernel
theorem dX6_days_23 : decode cX6_days 23 = .ok (.istore_n 2, 1) := by decide +kernel
theorem dX6_days_24 : decode cX6_days 24 = .ok (.aload_n 0, 1) := by decide +kernel
theorem dX6_days_25 : decode cX6_days 25 = .ok (.getfield 68, 3) := by decide +kernel
theorem dX6_days_28 : decode cX6_days 28 = .ok (.iconst 1, 1) := by decide +kernel
theorem dX6_days_29 : decode cX6_days 29 = .ok (.isub, 1) := by decide +kernel
theorem dX6_days_30 : decode cX6_days 30 = .ok (.istore_n 3, 1) := by decide +kernel
theorem dX6_days_31 : decode cX6_days 31 = .ok (.iload_n 3, 1) := by decide +kernel
theorem dX6_days_32 : decode cX6_days 32 = .ok (.ifCond .lt 91, 3) := by decide +kernel
theorem dX6_days_123 : decode cX6_days 123 = .ok (.iload_n 2, 1) := by decide +kernel
theorem dX6_days_124 : decode cX6_days 124 = .ok (.ireturn, 1) := by decide +kernel
theorem dX6_checksum_0 : decode cX6_checksum 0 = .ok (.ldc2_w 378, 3) := by decide +kernel
theorem dX6_checksum_3 : decode cX6_checksum 3 = .ok (.lstore_n 1, 1) := by decide +kernel
theorem dX6_checksum_4 : decode cX6_checksum 4 = .ok (.iconst 0, 1) := by decide +kernel
theorem dX6_checksum_5 : decode cX6_checksum 5 = .ok (.istore_n 3, 1) := by decide +kernel
theorem dX6_checksum_6 : decode cX6_checksum 6 = .ok (.iload_n 3, 1) := by decide +kernel
theorem dX6_checksum_7 : decode cX6_checksum 7 = .ok (.aload_n 0, 1) := by decide +kernel
theorem dX6_checksum_8 : decode cX6_checksum 8 = .ok (.getfield 65, 3) := by decide +kernel
theorem dX6_checksum_11 : decode cX6_checksum 11 = .ok (.if_icmp .ge 43, 3) := by decide +kernel
theorem dX6_checksum_54 : decode cX6_checksum 54 = .ok (.iconst 0, 1) := by decide +kernel
theorem dX6_checksum_55 : decode cX6_checksum 55 = .ok (.istore_n 3, 1) := by decide +kernel
theorem dX6_checksum_56 : decode cX6_checksum 56 = .ok (.iload_n 3, 1) := by decide +kernel
theorem dX6_checksum_57 : decode cX6_checksum 57 = .ok (.aload_n 0, 1) := by decide +kernel
theorem dX6_checksum_58 : decode cX6_checksum 58 = .ok (.getfield 62, 3) := by decide +kernel
theorem dX6_checksum_61 : decode cX6_checksum 61 = .ok (.if_icmp .ge 26, 3) := by decide +kernel
theorem dX6_checksum_87 : decode cX6_checksum 87 = .ok (.lload_n 1, 1) := by decide +kernel
theorem dX6_checksum_88 : decode cX6_checksum 88 = .ok (.lreturn, 1) := by decide +kernel
theorem dX6_standingShare_0 : decode cX6_standingShare 0 = .ok (.aload_n 0, 1) := by decide +kernel
theorem dX6_standingShare_1 : decode cX6_standingShare 1 = .ok (.getfield 65, 3) := by decide +kernel
theorem dX6_standingShare_4 : decode cX6_standingShare 4 = .ok (.ifCond .ne 14, 3) := by decide +kernel
theorem dX6_standingShare_7 : decode cX6_standingShare 7 = .ok (.new 385, 3) := by decide +kernel
theorem dX6_standingShare_10 : decode cX6_standingShare 10 = .ok (.dup, 1) := by decide +kernel
theorem dX6_standingShare_11 : decode cX6_standingShare 11 = .ok (.ldc_w 387, 3) := by decide +kernel
theorem dX6_standingShare_14 : decode cX6_standingShare 14 = .ok (.invokespecial 389, 3) := by decide +kernel
theorem dX6_standingShare_17 : decode cX6_standingShare 17 = .ok (.athrow, 1) := by decide +kernel
theorem dX6_meanSteps_0 : decode cX6_meanSteps 0 = .ok (.aload_n 0, 1) := by decide +kernel
theorem dX6_meanSteps_1 : decode cX6_meanSteps 1 = .ok (.iload_n 1, 1) := by decide +kernel
theorem dX6_meanSteps_2 : decode cX6_meanSteps 2 = .ok (.invokevirtual 219, 3) := by decide +kernel
theorem dX6_isSound_0 : decode cX6_isSound 0 = .ok (.aload_n 0, 1) := by decide +kernel
theorem dX6_isSound_1 : decode cX6_isSound 1 = .ok (.invokevirtual 270, 3) := by decide +kernel
theorem dX6_isSound_4 : decode cX6_isSound 4 = .ok (.aload_n 0, 1) := by decide +kernel
theorem dX6_isSound_5 : decode cX6_isSound 5 = .ok (.getfield 71, 3) := by decide +kernel
theorem dX6_isSound_8 : decode cX6_isSound 8 = .ok (.if_icmp .gt 28, 3) := by decide +kernel
theorem dX6_isSound_11 : decode cX6_isSound 11 = .ok (.aload_n 0, 1) := by decide +kernel
theorem dX6_isSound_12 : decode cX6_isSound 12 = .ok (.invokevirtual 395, 3) := by decide +kernel
theorem dX6_isSound_15 : decode cX6_isSound 15 = .ok (.ifCond .eq 21, 3) := by decide +kernel
theorem dX6_isSound_18 : decode cX6_isSound 18 = .ok (.aload_n 0, 1) := by decide +kernel
theorem dX6_isSound_19 : decode cX6_isSound 19 = .ok (.invokevirtual 398, 3) := by decide +kernel
theorem dX6_isSound_22 : decode cX6_isSound 22 = .ok (.ifCond .eq 14, 3) := by decide +kernel
theorem dX6_isSound_25 : decode cX6_isSound 25 = .ok (.aload_n 0, 1) := by decide +kernel
theorem dX6_isSound_26 : decode cX6_isSound 26 = .ok (.invokevirtual 401, 3) := by decide +kernel
theorem dX6_isSound_29 : decode cX6_isSound 29 = .ok (.ifCond .eq 7, 3) := by decide +kernel
theorem dX6_isSound_32 : decode cX6_isSound 32 = .ok (.iconst 1, 1) := by decide +kernel
theorem dX6_isSound_33 : decode cX6_isSound 33 = .ok (.goto 4, 3) := by decide +kernel
theorem dX6_isSound_37 : decode cX6_isSound 37 = .ok (.ireturn, 1) := by decide +kernel
theorem dX6_isOutOfRange_0 : decode cX6_isOutOfRange 0 = .ok (.iload_n 0, 1) := by decide +kernel
theorem dX6_isOutOfRange_1 : decode cX6_isOutOfRange 1 = .ok (.sipush (-999), 3) := by decide +kernel
theorem dX6_isOutOfRange_4 : decode cX6_isOutOfRange 4 = .ok (.if_icmp .lt 10, 3) := by decide +kernel
theorem dX6_isOutOfRange_7 : decode cX6_isOutOfRange 7 = .ok (.iload_n 0, 1) := by decide +kernel
theorem dX6_isOutOfRange_8 : decode cX6_isOutOfRange 8 = .ok (.sipush 999, 3) := by decide +kernel
theorem dX6_isOutOfRange_11 : decode cX6_isOutOfRange 11 = .ok (.if_icmp .le 7, 3) := by decide +kernel
theorem dX6_isOutOfRange_14 : decode cX6_isOutOfRange 14 = .ok (.iconst 1, 1) := by decide +kernel
theorem dX6_isOutOfRange_15 : decode cX6_isOutOfRange 15 = .ok (.goto 4, 3) := by decide +kernel
theorem dX6_isOutOfRange_18 : decode cX6_isOutOfRange 18 = .ok (.iconst 0, 1) := by decide +kernel
theorem dX6_isOutOfRange_19 : decode cX6_isOutOfRange 19 = .ok (.ireturn, 1) := by decide +kernel
theorem dX6_kataAt_0 : decode cX6_kataAt 0 = .ok (.iload_n 1, 1) := by decide +kernel
theorem dX6_kataAt_1 : decode cX6_kataAt 1 = .ok (.ifCond .lt 11, 3) := by decide +kernel
theorem dX6_kataAt_4 : decode cX6_kataAt 4 = .ok (.iload_n 1, 1) := by decide +kernel
theorem dX6_kataAt_5 : decode cX6_kataAt 5 = .ok (.aload_n 0, 1) := by decide +kernel
theorem dX6_kataAt_6 : decode cX6_kataAt 6 = .ok (.getfield 58, 3) := by decide +kernel
theorem dX6_kataAt_9 : decode cX6_kataAt 9 = .ok (.if_icmp .lt 14, 3) := by decide +kernel
theorem dX6_kataAt_12 : decode cX6_kataAt 12 = .ok (.new 404, 3) := by decide +kernel
theorem dX6_kataAt_15 : decode cX6_kataAt 15 = .ok (.dup, 1) := by decide +kernel
theorem dX6_kataAt_16 : decode cX6_kataAt 16 = .ok (.ldc_w 406, 3) := by decide +kernel
theorem dX6_kataAt_19 : decode cX6_kataAt 19 = .ok (.invokespecial 408, 3) := by decide +kernel
theorem dX6_kataAt_22 : decode cX6_kataAt 22 = .ok (.athrow, 1) := by decide +kernel
theorem dX6_memberAt_0 : decode cX6_memberAt 0 = .ok (.iload_n 1, 1) := by decide +kernel
theorem dX6_memberAt_1 : decode cX6_memberAt 1 = .ok (.ifCond .lt 11, 3) := by decide +kernel
theorem dX6_memberAt_4 : decode cX6_memberAt 4 = .ok (.iload_n 1, 1) := by decide +kernel
theorem dX6_memberAt_5 : decode cX6_memberAt 5 = .ok (.aload_n 0, 1) := by decide +kernel
theorem dX6_memberAt_6 : decode cX6_memberAt 6 = .ok (.getfield 62, 3) := by decide +kernel
theorem dX6_memberAt_9 : decode cX6_memberAt 9 = .ok (.if_icmp .lt 14, 3) := by decide +kernel
theorem dX6_memberAt_12 : decode cX6_memberAt 12 = .ok (.new 404, 3) := by decide +kernel
theorem dX6_memberAt_15 : decode cX6_memberAt 15 = .ok (.dup, 1) := by decide +kernel
theorem dX6_memberAt_16 : decode cX6_memberAt 16 = .ok (.ldc_w 411, 3) := by decide +kernel
theorem dX6_memberAt_19 : decode cX6_memberAt 19 = .ok (.invokespecial 408, 3) := by decide +kernel
theorem dX6_memberAt_22 : decode cX6_memberAt 22 = .ok (.athrow, 1) := by decide +kernel
theorem dX6_workAt_0 : decode cX6_workAt 0 = .ok (.iload_n 1, 1) := by decide +kernel
theorem dX6_workAt_1 : decode cX6_workAt 1 = .ok (.ifCond .lt 11, 3) := by decide +kernel
theorem dX6_workAt_4 : decode cX6_workAt 4 = .ok (.iload_n 1, 1) := by decide +kernel
theorem dX6_workAt_5 : decode cX6_workAt 5 = .ok (.aload_n 0, 1) := by decide +kernel
theorem dX6_workAt_6 : decode cX6_workAt 6 = .ok (.getfield 65, 3) := by decide +kernel
theorem dX6_workAt_9 : decode cX6_workAt 9 = .ok (.if_icmp .lt 14, 3) := by decide +kernel
theorem dX6_workAt_12 : decode cX6_workAt 12 = .ok (.new 404, 3) := by decide +kernel
theorem dX6_workAt_15 : decode cX6_workAt 15 = .ok (.dup, 1) := by decide +kernel
theorem dX6_workAt_16 : decode cX6_workAt 16 = .ok (.ldc_w 413, 3) := by decide +kernel
theorem dX6_workAt_19 : decode cX6_workAt 19 = .ok (.invokespecial 408, 3) := by decide +kernel
theorem dX6_workAt_22 : decode cX6_workAt 22 = .ok (.athrow, 1) := by decide +kernel
theorem dX6_lastRun_0 : decode cX6_lastRun 0 = .ok (.aload_n 0, 1) := by decide +kernel
theorem dX6_lastRun_1 : decode cX6_lastRun 1 = .ok (.getfield 77, 3) := by decide +kernel
theorem dX6_lastRun_4 : decode cX6_lastRun 4 = .ok (.ifCond .ne 14, 3) := by decide +kernel
theorem dX6_lastRun_7 : decode cX6_lastRun 7 = .ok (.new 186, 3) := by decide +kernel
theorem dX6_lastRun_10 : decode cX6_lastRun 10 = .ok (.dup, 1) := by decide +kernel
theorem dX6_lastRun_11 : decode cX6_lastRun 11 = .ok (.ldc_w 415, 3) := by decide +kernel
theorem dX6_lastRun_14 : decode cX6_lastRun 14 = .ok (.invokespecial 190, 3) := by decide +kernel
theorem dX6_lastRun_17 : decode cX6_lastRun 17 = .ok (.athrow, 1) := by decide +kernel
theorem dX6_bodyCount_0 : decode cX6_bodyCount 0 = .ok (.iconst 0, 1) := by decide +kernel
theorem dX6_bodyCount_1 : decode cX6_bodyCount 1 = .ok (.istore_n 1, 1) := by decide +kernel
theorem dX6_bodyCount_2 : decode cX6_bodyCount 2 = .ok (.iconst 0, 1) := by decide +kernel
theorem dX6_bodyCount_3 : decode cX6_bodyCount 3 = .ok (.istore_n 2, 1) := by decide +kernel
theorem dX6_bodyCount_4 : decode cX6_bodyCount 4 = .ok (.iload_n 2, 1) := by decide +kernel
theorem dX6_bodyCount_5 : decode cX6_bodyCount 5 = .ok (.aload_n 0, 1) := by decide +kernel
theorem dX6_bodyCount_6 : decode cX6_bodyCount 6 = .ok (.getfield 65, 3) := by decide +kernel
theorem dX6_bodyCount_9 : decode cX6_bodyCount 9 = .ok (.if_icmp .ge 29, 3) := by decide +kernel
theorem dX6_bodyCount_38 : decode cX6_bodyCount 38 = .ok (.iload_n 1, 1) := by decide +kernel
theorem dX6_bodyCount_39 : decode cX6_bodyCount 39 = .ok (.ireturn, 1) := by decide +kernel
theorem dX6_makeRoom_0 : decode cX6_makeRoom 0 = .ok (.iconst 0, 1) := by decide +kernel
theorem dX6_makeRoom_1 : decode cX6_makeRoom 1 = .ok (.istore_n 1, 1) := by decide +kernel
theorem dX6_makeRoom_2 : decode cX6_makeRoom 2 = .ok (.aload_n 0, 1) := by decide +kernel
theorem dX6_makeRoom_3 : decode cX6_makeRoom 3 = .ok (.invokevirtual 270, 3) := by decide +kernel
theorem dX6_makeRoom_6 : decode cX6_makeRoom 6 = .ok (.aload_n 0, 1) := by decide +kernel
theorem dX6_makeRoom_7 : decode cX6_makeRoom 7 = .ok (.getfield 71, 3) := by decide +kernel
theorem dX6_makeRoom_10 : decode cX6_makeRoom 10 = .ok (.isub, 1) := by decide +kernel
theorem dX6_makeRoom_11 : decode cX6_makeRoom 11 = .ok (.istore_n 2, 1) := by decide +kernel
theorem dX6_makeRoom_12 : decode cX6_makeRoom 12 = .ok (.iload_n 2, 1) := by decide +kernel
theorem dX6_makeRoom_13 : decode cX6_makeRoom 13 = .ok (.ifCond .le 32, 3) := by decide +kernel
theorem dX6_makeRoom_45 : decode cX6_makeRoom 45 = .ok (.iload_n 1, 1) := by decide +kernel
theorem dX6_makeRoom_46 : decode cX6_makeRoom 46 = .ok (.ireturn, 1) := by decide +kernel
theorem dX6_areBodiesSound_0 : decode cX6_areBodiesSound 0 = .ok (.iconst 0, 1) := by decide +kernel
theorem dX6_areBodiesSound_1 : decode cX6_areBodiesSound 1 = .ok (.istore_n 1, 1) := by decide +kernel
theorem dX6_areBodiesSound_2 : decode cX6_areBodiesSound 2 = .ok (.iload_n 1, 1) := by decide +kernel
theorem dX6_areBodiesSound_3 : decode cX6_areBodiesSound 3 = .ok (.aload_n 0, 1) := by decide +kernel
theorem dX6_areBodiesSound_4 : decode cX6_areBodiesSound 4 = .ok (.getfield 65, 3) := by decide +kernel
theorem dX6_areBodiesSound_7 : decode cX6_areBodiesSound 7 = .ok (.if_icmp .ge 52, 3) := by decide +kernel
theorem dX6_areBodiesSound_59 : decode cX6_areBodiesSound 59 = .ok (.iconst 1, 1) := by decide +kernel
theorem dX6_areBodiesSound_60 : decode cX6_areBodiesSound 60 = .ok (.ireturn, 1) := by decide +kernel
theorem dX6_areBeltsSound_0 : decode cX6_areBeltsSound 0 = .ok (.iconst 0, 1) := by decide +kernel
theorem dX6_areBeltsSound_1 : decode cX6_areBeltsSound 1 = .ok (.istore_n 1, 1) := by decide +kernel
theorem dX6_areBeltsSound_2 : decode cX6_areBeltsSound 2 = .ok (.iload_n 1, 1) := by decide +kernel
theorem dX6_areBeltsSound_3 : decode cX6_areBeltsSound 3 = .ok (.aload_n 0, 1) := by decide +kernel
theorem dX6_areBeltsSound_4 : decode cX6_areBeltsSound 4 = .ok (.getfield 65, 3) := by decide +kernel
theorem dX6_areBeltsSound_7 : decode cX6_areBeltsSound 7 = .ok (.if_icmp .ge 23, 3) := by decide +kernel
theorem dX6_areBeltsSound_30 : decode cX6_areBeltsSound 30 = .ok (.iconst 0, 1) := by decide +kernel
theorem dX6_areBeltsSound_31 : decode cX6_areBeltsSound 31 = .ok (.istore_n 1, 1) := by decide +kernel
theorem dX6_areBeltsSound_32 : decode cX6_areBeltsSound 32 = .ok (.iload_n 1, 1) := by decide +kernel
theorem dX6_areBeltsSound_33 : decode cX6_areBeltsSound 33 = .ok (.aload_n 0, 1) := by decide +kernel
theorem dX6_areBeltsSound_34 : decode cX6_areBeltsSound 34 = .ok (.getfield 62, 3) := by decide +kernel
theorem dX6_areBeltsSound_37 : decode cX6_areBeltsSound 37 = .ok (.if_icmp .ge 24, 3) := by decide +kernel
theorem dX6_areBeltsSound_61 : decode cX6_areBeltsSound 61 = .ok (.iconst 1, 1) := by decide +kernel
theorem dX6_areBeltsSound_62 : decode cX6_areBeltsSound 62 = .ok (.ireturn, 1) := by decide +kernel
theorem dX6_areChallengesSound_0 : decode cX6_areChallengesSound 0 = .ok (.iconst 0, 1) := by decide +kernel
theorem dX6_areChallengesSound_1 : decode cX6_areChallengesSound 1 = .ok (.istore_n 1, 1) := by decide +kernel
theorem dX6_areChallengesSound_2 : decode cX6_areChallengesSound 2 = .ok (.iconst 0, 1) := by decide +kernel
theorem dX6_areChallengesSound_3 : decode cX6_areChallengesSound 3 = .ok (.istore_n 2, 1) := by decide +kernel
theorem dX6_areChallengesSound_4 : decode cX6_areChallengesSound 4 = .ok (.iload_n 2, 1) := by decide +kernel
theorem dX6_areChallengesSound_5 : decode cX6_areChallengesSound 5 = .ok (.aload_n 0, 1) := by decide +kernel
theorem dX6_areChallengesSound_6 : decode cX6_areChallengesSound 6 = .ok (.getfield 65, 3) := by decide +kernel
theorem dX6_areChallengesSound_9 : decode cX6_areChallengesSound 9 = .ok (.if_icmp .ge 26, 3) := by decide +kernel
theorem dX6_areChallengesSound_35 : decode cX6_areChallengesSound 35 = .ok (.iconst 0, 1) := by decide +kernel
theorem dX6_areChallengesSound_36 : decode cX6_areChallengesSound 36 = .ok (.istore_n 2, 1) := by decide +kernel
theorem dX6_areChallengesSound_37 : decode cX6_areChallengesSound 37 = .ok (.iload_n 2, 1) := by decide +kernel
theorem dX6_areChallengesSound_38 : decode cX6_areChallengesSound 38 = .ok (.aload_n 0, 1) := by decide +kernel
theorem dX6_areChallengesSound_39 : decode cX6_areChallengesSound 39 = .ok (.getfield 68, 3) := by decide +kernel
theorem dX6_areChallengesSound_42 : decode cX6_areChallengesSound 42 = .ok (.if_icmp .ge 38, 3) := by decide +kernel
theorem dX6_areChallengesSound_80 : decode cX6_areChallengesSound 80 = .ok (.iload_n 1, 1) := by decide +kernel
theorem dX6_areChallengesSound_81 : decode cX6_areChallengesSound 81 = .ok (.aload_n 0, 1) := by decide +kernel
theorem dX6_areChallengesSound_82 : decode cX6_areChallengesSound 82 = .ok (.getfield 68, 3) := by decide +kernel
theorem dX6_areChallengesSound_85 : decode cX6_areChallengesSound 85 = .ok (.if_icmp .ne 7, 3) := by decide +kernel
theorem dX6_areChallengesSound_88 : decode cX6_areChallengesSound 88 = .ok (.iconst 1, 1) := by decide +kernel
theorem dX6_areChallengesSound_89 : decode cX6_areChallengesSound 89 = .ok (.goto 4, 3) := by decide +kernel
theorem dX6_areChallengesSound_93 : decode cX6_areChallengesSound 93 = .ok (.ireturn, 1) := by decide +kernel
theorem dX7_init_0 : decode cX7_init 0 = .ok (.aload_n 0, 1) := by decide +kernel
theorem dX7_init_1 : decode cX7_init 1 = .ok (.invokespecial 1, 3) := by decide +kernel
theorem dX7_init_4 : decode cX7_init 4 = .ok (.aload_n 0, 1) := by decide +kernel
theorem dX7_init_5 : decode cX7_init 5 = .ok (.iconst 0, 1) := by decide +kernel
theorem dX7_init_6 : decode cX7_init 6 = .ok (.putfield 7, 3) := by decide +kernel
theorem dX7_init_9 : decode cX7_init 9 = .ok (.aload_n 0, 1) := by decide +kernel
theorem dX7_init_10 : decode cX7_init 10 = .ok (.iconst 0, 1) := by decide +kernel
theorem dX7_init_11 : decode cX7_init 11 = .ok (.putfield 13, 3) := by decide +kernel
theorem dX7_init_14 : decode cX7_init 14 = .ok (.aload_n 0, 1) := by decide +kernel
theorem dX7_init_15 : decode cX7_init 15 = .ok (.iconst 0, 1) := by decide +kernel
theorem dX7_init_16 : decode cX7_init 16 = .ok (.putfield 16, 3) := by decide +kernel
theorem dX7_init_19 : decode cX7_init 19 = .ok (.aload_n 0, 1) := by decide +kernel
theorem dX7_init_20 : decode cX7_init 20 = .ok (.iconst 0, 1) := by decide +kernel
theorem dX7_init_21 : decode cX7_init 21 = .ok (.putfield 19, 3) := by decide +kernel
theorem dX7_init_24 : decode cX7_init 24 = .ok (.aload_n 0, 1) := by decide +kernel
theorem dX7_init_25 : decode cX7_init 25 = .ok (.iconst 0, 1) := by decide +kernel
theorem dX7_init_26 : decode cX7_init 26 = .ok (.putfield 22, 3) := by decide +kernel
theorem dX7_init_29 : decode cX7_init 29 = .ok (.aload_n 0, 1) := by decide +kernel
theorem dX7_init_30 : decode cX7_init 30 = .ok (.iconst 0, 1) := by decide +kernel
theorem dX7_init_31 : decode cX7_init 31 = .ok (.putfield 25, 3) := by decide +kernel
theorem dX7_init_34 : decode cX7_init 34 = .ok (.aload_n 0, 1) := by decide +kernel
theorem dX7_init_35 : decode cX7_init 35 = .ok (.bipush 12, 2) := by decide +kernel
theorem dX7_init_37 : decode cX7_init 37 = .ok (.putfield 28, 3) := by decide +kernel
theorem dX7_init_40 : decode cX7_init 40 = .ok (.aload_n 0, 1) := by decide +kernel
theorem dX7_init_41 : decode cX7_init 41 = .ok (.iconst 0, 1) := by decide +kernel
theorem dX7_init_42 : decode cX7_init 42 = .ok (.putfield 31, 3) := by decide +kernel
theorem dX7_init_45 : decode cX7_init 45 = .ok (.aload_n 0, 1) := by decide +kernel
theorem dX7_init_46 : decode cX7_init 46 = .ok (.iconst 0, 1) := by decide +kernel
theorem dX7_init_47 : decode cX7_init 47 = .ok (.putfield 34, 3) := by decide +kernel
theorem dX7_init_50 : decode cX7_init 50 = .ok (.aload_n 0, 1) := by decide +kernel
theorem dX7_init_51 : decode cX7_init 51 = .ok (.iconst 0, 1) := by decide +kernel
theorem dX7_init_52 : decode cX7_init 52 = .ok (.putfield 37, 3) := by decide +kernel
theorem dX7_init_55 : decode cX7_init 55 = .ok (.aload_n 0, 1) := by decide +kernel
theorem dX7_init_56 : decode cX7_init 56 = .ok (.sipush 984, 3) := by decide +kernel
theorem dX7_init_59 : decode cX7_init 59 = .ok (.newarray .char, 2) := by decide +kernel
theorem dX7_init_61 : decode cX7_init 61 = .ok (.putfield 40, 3) := by decide +kernel
theorem dX7_init_64 : decode cX7_init 64 = .ok (.aload_n 0, 1) := by decide +kernel
theorem dX7_init_65 : decode cX7_init 65 = .ok (.sipush 984, 3) := by decide +kernel
theorem dX7_init_68 : decode cX7_init 68 = .ok (.newarray .int, 2) := by decide +kernel
theorem dX7_init_70 : decode cX7_init 70 = .ok (.putfield 44, 3) := by decide +kernel
theorem dX7_init_73 : decode cX7_init 73 = .ok (.aload_n 0, 1) := by decide +kernel
theorem dX7_init_74 : decode cX7_init 74 = .ok (.bipush 41, 2) := by decide +kernel
theorem dX7_init_76 : decode cX7_init 76 = .ok (.newarray .int, 2) := by decide +kernel
theorem dX7_init_78 : decode cX7_init 78 = .ok (.putfield 48, 3) := by decide +kernel
theorem dX7_init_81 : decode cX7_init 81 = .ok (.aload_n 0, 1) := by decide +kernel
theorem dX7_init_82 : decode cX7_init 82 = .ok (.iconst 4, 1) := by decide +kernel
theorem dX7_init_83 : decode cX7_init 83 = .ok (.newarray .int, 2) := by decide +kernel
theorem dX7_init_85 : decode cX7_init 85 = .ok (.putfield 51, 3) := by decide +kernel
theorem dX7_init_88 : decode cX7_init 88 = .ok (.aload_n 0, 1) := by decide +kernel
theorem dX7_init_89 : decode cX7_init 89 = .ok (.bipush 6, 2) := by decide +kernel
theorem dX7_init_91 : decode cX7_init 91 = .ok (.newarray .int, 2) := by decide +kernel
theorem dX7_init_93 : decode cX7_init 93 = .ok (.putfield 54, 3) := by decide +kernel
theorem dX7_init_96 : decode cX7_init 96 = .ok (.aload_n 0, 1) := by decide +kernel
theorem dX7_init_97 : decode cX7_init 97 = .ok (.bipush 8, 2) := by decide +kernel
theorem dX7_init_99 : decode cX7_init 99 = .ok (.newarray .int, 2) := by decide +kernel
theorem dX7_init_101 : decode cX7_init 101 = .ok (.putfield 57, 3) := by decide +kernel
theorem dX7_init_104 : decode cX7_init 104 = .ok (.aload_n 0, 1) := by decide +kernel
theorem dX7_init_105 : decode cX7_init 105 = .ok (.bipush 8, 2) := by decide +kernel
theorem dX7_init_107 : decode cX7_init 107 = .ok (.newarray .int, 2) := by decide +kernel
theorem dX7_init_109 : decode cX7_init 109 = .ok (.putfield 60, 3) := by decide +kernel
theorem dX7_init_112 : decode cX7_init 112 = .ok (.aload_n 0, 1) := by decide +kernel
theorem dX7_init_113 : decode cX7_init 113 = .ok (.bipush 40, 2) := by decide +kernel
theorem dX7_init_115 : decode cX7_init 115 = .ok (.newarray .int, 2) := by decide +kernel
theorem dX7_init_117 : decode cX7_init 117 = .ok (.putfield 63, 3) := by decide +kernel
theorem dX7_init_120 : decode cX7_init 120 = .ok (.aload_n 0, 1) := by decide +kernel
theorem dX7_init_121 : decode cX7_init 121 = .ok (.bipush 40, 2) := by decide +kernel
theorem dX7_init_123 : decode cX7_init 123 = .ok (.newarray .int, 2) := by decide +kernel
theorem dX7_init_125 : decode cX7_init 125 = .ok (.putfield 66, 3) := by decide +kernel
theorem dX7_init_128 : decode cX7_init 128 = .ok (.aload_n 0, 1) := by decide +kernel
theorem dX7_init_129 : decode cX7_init 129 = .ok (.sipush 160, 3) := by decide +kernel
theorem dX7_init_132 : decode cX7_init 132 = .ok (.newarray .int, 2) := by decide +kernel
theorem dX7_init_134 : decode cX7_init 134 = .ok (.putfield 69, 3) := by decide +kernel
theorem dX7_init_137 : decode cX7_init 137 = .ok (.aload_n 0, 1) := by decide +kernel
theorem dX7_init_138 : decode cX7_init 138 = .ok (.sipush 240, 3) := by decide +kernel
theorem dX7_init_141 : decode cX7_init 141 = .ok (.newarray .int, 2) := by decide +kernel
theorem dX7_init_143 : decode cX7_init 143 = .ok (.putfield 72, 3) := by decide +kernel
theorem dX7_init_146 : decode cX7_init 146 = .ok (.aload_n 0, 1) := by decide +kernel
theorem dX7_init_147 : decode cX7_init 147 = .ok (.bipush 40, 2) := by decide +kernel
theorem dX7_init_149 : decode cX7_init 149 = .ok (.newarray .int, 2) := by decide +kernel
theorem dX7_init_151 : decode cX7_init 151 = .ok (.putfield 75, 3) := by decide +kernel
theorem dX7_init_154 : decode cX7_init 154 = .ok (.aload_n 0, 1) := by decide +kernel
theorem dX7_init_155 : decode cX7_init 155 = .ok (.bipush 40, 2) := by decide +kernel
theorem dX7_init_157 : decode cX7_init 157 = .ok (.newarray .int, 2) := by decide +kernel
theorem dX7_init_159 : decode cX7_init 159 = .ok (.putfield 78, 3) := by decide +kernel
theorem dX7_init_162 : decode cX7_init 162 = .ok (.aload_n 0, 1) := by decide +kernel
theorem dX7_init_163 : decode cX7_init 163 = .ok (.bipush 40, 2) := by decide +kernel
theorem dX7_init_165 : decode cX7_init 165 = .ok (.newarray .int, 2) := by decide +kernel
theorem dX7_init_167 : decode cX7_init 167 = .ok (.putfield 81, 3) := by decide +kernel
theorem dX7_init_170 : decode cX7_init 170 = .ok (.aload_n 0, 1) := by decide +kernel
theorem dX7_init_171 : decode cX7_init 171 = .ok (.bipush 40, 2) := by decide +kernel
theorem dX7_init_173 : decode cX7_init 173 = .ok (.newarray .long, 2) := by decide +kernel
theorem dX7_init_175 : decode cX7_init 175 = .ok (.putfield 84, 3) := by decide +kernel
theorem dX7_init_178 : decode cX7_init 178 = .ok (.aload_n 0, 1) := by decide +kernel
theorem dX7_init_179 : decode cX7_init 179 = .ok (.bipush 40, 2) := by decide +kernel
theorem dX7_init_181 : decode cX7_init 181 = .ok (.newarray .char, 2) := by decide +kernel
theorem dX7_init_183 : decode cX7_init 183 = .ok (.putfield 88, 3) := by decide +kernel
theorem dX7_init_186 : decode cX7_init 186 = .ok (.aload_n 0, 1) := by decide +kernel
theorem dX7_init_187 : decode cX7_init 187 = .ok (.bipush 40, 2) := by decide +kernel
theorem dX7_init_189 : decode cX7_init 189 = .ok (.newarray .boolean, 2) := by decide +kernel
theorem dX7_init_191 : decode cX7_init 191 = .ok (.putfield 91, 3) := by decide +kernel
theorem dX7_init_194 : decode cX7_init 194 = .ok (.aload_n 0, 1) := by decide +kernel
theorem dX7_init_195 : decode cX7_init 195 = .ok (.sipush 200, 3) := by decide +kernel
theorem dX7_init_198 : decode cX7_init 198 = .ok (.newarray .int, 2) := by decide +kernel
theorem dX7_init_200 : decode cX7_init 200 = .ok (.putfield 95, 3) := by decide +kernel
theorem dX7_init_203 : decode cX7_init 203 = .ok (.aload_n 0, 1) := by decide +kernel
theorem dX7_init_204 : decode cX7_init 204 = .ok (.sipush 200, 3) := by decide +kernel
theorem dX7_init_207 : decode cX7_init 207 = .ok (.newarray .int, 2) := by decide +kernel
theorem dX7_init_209 : decode cX7_init 209 = .ok (.putfield 98, 3) := by decide +kernel
theorem dX7_init_212 : decode cX7_init 212 = .ok (.aload_n 0, 1) := by decide +kernel
theorem dX7_init_213 : decode cX7_init 213 = .ok (.sipush 400, 3) := by decide +kernel
theorem dX7_init_216 : decode cX7_init 216 = .ok (.newarray .int, 2) := by decide +kernel
theorem dX7_init_218 : decode cX7_init 218 = .ok (.putfield 101, 3) := by decide +kernel
theorem dX7_init_221 : decode cX7_init 221 = .ok (.aload_n 0, 1) := by decide +kernel
theorem dX7_init_222 : decode cX7_init 222 = .ok (.sipush 400, 3) := by decide +kernel
theorem dX7_init_225 : decode cX7_init 225 = .ok (.newarray .int, 2) := by decide +kernel
theorem dX7_init_227 : decode cX7_init 227 = .ok (.putfield 104, 3) := by decide +kernel
theorem dX7_init_230 : decode cX7_init 230 = .ok (.aload_n 0, 1) := by decide +kernel
theorem dX7_init_231 : decode cX7_init 231 = .ok (.bipush 40, 2) := by decide +kernel
theorem dX7_init_233 : decode cX7_init 233 = .ok (.newarray .int, 2) := by decide +kernel
theorem dX7_init_235 : decode cX7_init 235 = .ok (.putfield 107, 3) := by decide +kernel
theorem dX7_init_238 : decode cX7_init 238 = .ok (.aload_n 0, 1) := by decide +kernel
theorem dX7_init_239 : decode cX7_init 239 = .ok (.bipush 40, 2) := by decide +kernel
theorem dX7_init_241 : decode cX7_init 241 = .ok (.newarray .int, 2) := by decide +kernel
theorem dX7_init_243 : decode cX7_init 243 = .ok (.putfield 110, 3) := by decide +kernel
theorem dX7_init_246 : decode cX7_init 246 = .ok (.aload_n 0, 1) := by decide +kernel
theorem dX7_init_247 : decode cX7_init 247 = .ok (.bipush 40, 2) := by decide +kernel
theorem dX7_init_249 : decode cX7_init 249 = .ok (.newarray .int, 2) := by decide +kernel
theorem dX7_init_251 : decode cX7_init 251 = .ok (.putfield 113, 3) := by decide +kernel
theorem dX7_init_254 : decode cX7_init 254 = .ok (.aload_n 0, 1) := by decide +kernel
theorem dX7_init_255 : decode cX7_init 255 = .ok (.bipush 10, 2) := by decide +kernel
theorem dX7_init_257 : decode cX7_init 257 = .ok (.newarray .int, 2) := by decide +kernel
theorem dX7_init_259 : decode cX7_init 259 = .ok (.putfield 116, 3) := by decide +kernel
theorem dX7_init_262 : decode cX7_init 262 = .ok (.aload_n 0, 1) := by decide +kernel
theorem dX7_init_263 : decode cX7_init 263 = .ok (.bipush 30, 2) := by decide +kernel
theorem dX7_init_265 : decode cX7_init 265 = .ok (.newarray .int, 2) := by decide +kernel
theorem dX7_init_267 : decode cX7_init 267 = .ok (.putfield 119, 3) := by decide +kernel
theorem dX7_init_270 : decode cX7_init 270 = .ok (.aload_n 0, 1) := by decide +kernel
theorem dX7_init_271 : decode cX7_init 271 = .ok (.bipush 12, 2) := by decide +kernel
theorem dX7_init_273 : decode cX7_init 273 = .ok (.newarray .int, 2) := by decide +kernel
theorem dX7_init_275 : decode cX7_init 275 = .ok (.putfield 122, 3) := by decide +kernel
theorem dX7_init_278 : decode cX7_init 278 = .ok (.aload_n 0, 1) := by decide +kernel
theorem dX7_init_279 : decode cX7_init 279 = .ok (.bipush 6, 2) := by decide +kernel
theorem dX7_init_281 : decode cX7_init 281 = .ok (.newarray .int, 2) := by decide +kernel
theorem dX7_init_283 : decode cX7_init 283 = .ok (.putfield 125, 3) := by decide +kernel
theorem dX7_init_286 : decode cX7_init 286 = .ok (.aload_n 0, 1) := by decide +kernel
theorem dX7_init_287 : decode cX7_init 287 = .ok (.iconst 0, 1) := by decide +kernel
theorem dX7_init_288 : decode cX7_init 288 = .ok (.putfield 128, 3) := by decide +kernel
theorem dX7_init_291 : decode cX7_init 291 = .ok (.aload_n 0, 1) := by decide +kernel
theorem dX7_init_292 : decode cX7_init 292 = .ok (.iconst 0, 1) := by decide +kernel
theorem dX7_init_293 : decode cX7_init 293 = .ok (.putfield 131, 3) := by decide +kernel
theorem dX7_init_296 : decode cX7_init 296 = .ok (.aload_n 0, 1) := by decide +kernel
theorem dX7_init_297 : decode cX7_init 297 = .ok (.iconst 0, 1) := by decide +kernel
theorem dX7_init_298 : decode cX7_init 298 = .ok (.putfield 134, 3) := by decide +kernel
theorem dX7_init_301 : decode cX7_init 301 = .ok (.aload_n 0, 1) := by decide +kernel
theorem dX7_init_302 : decode cX7_init 302 = .ok (.iconst 0, 1) := by decide +kernel
theorem dX7_init_303 : decode cX7_init 303 = .ok (.putfield 137, 3) := by decide +kernel
theorem dX7_init_306 : decode cX7_init 306 = .ok (.aload_n 0, 1) := by decide +kernel
theorem dX7_init_307 : decode cX7_init 307 = .ok (.iconst 0, 1) := by decide +kernel
theorem dX7_init_308 : decode cX7_init 308 = .ok (.putfield 141, 3) := by decide +kernel
theorem dX7_init_311 : decode cX7_init 311 = .ok (.aload_n 0, 1) := by decide +kernel
theorem dX7_init_312 : decode cX7_init 312 = .ok (.iconst 0, 1) := by decide +kernel
theorem dX7_init_313 : decode cX7_init 313 = .ok (.putfield 144, 3) := by decide +kernel
theorem dX7_init_316 : decode cX7_init 316 = .ok (.aload_n 0, 1) := by decide +kernel
theorem dX7_init_317 : decode cX7_init 317 = .ok (.iconst 0, 1) := by decide +kernel
theorem dX7_init_318 : decode cX7_init 318 = .ok (.putfield 147, 3) := by decide +kernel
theorem dX7_init_321 : decode cX7_init 321 = .ok (.aload_n 0, 1) := by decide +kernel
theorem dX7_init_322 : decode cX7_init 322 = .ok (.bipush 6, 2) := by decide +kernel
theorem dX7_init_324 : decode cX7_init 324 = .ok (.newarray .int, 2) := by decide +kernel
theorem dX7_init_326 : decode cX7_init 326 = .ok (.putfield 150, 3) := by decide +kernel
theorem dX7_init_329 : decode cX7_init 329 = .ok (.return_, 1) := by decide +kernel
theorem dX7_thrown_0 : decode cX7_thrown 0 = .ok (.aload_n 0, 1) := by decide +kernel
theorem dX7_thrown_1 : decode cX7_thrown 1 = .ok (.getfield 37, 3) := by decide +kernel
theorem dX7_thrown_4 : decode cX7_thrown 4 = .ok (.ireturn, 1) := by decide +kernel
theorem dX7_in_0 : decode cX7_in 0 = .ok (.iload_n 0, 1) := by decide +kernel
theorem dX7_in_1 : decode cX7_in 1 = .ok (.iload_n 1, 1) := by decide +kernel
theorem dX7_in_2 : decode cX7_in 2 = .ok (.if_icmp .lt 12, 3) := by decide +kernel
theorem dX7_in_5 : decode cX7_in 5 = .ok (.iload_n 0, 1) := by decide +kernel
theorem dX7_in_6 : decode cX7_in 6 = .ok (.iload_n 2, 1) := by decide +kernel
theorem dX7_in_7 : decode cX7_in 7 = .ok (.if_icmp .gt 7, 3) := by decide +kernel
theorem dX7_in_10 : decode cX7_in 10 = .ok (.iconst 1, 1) := by decide +kernel
theorem dX7_in_11 : decode cX7_in 11 = .ok (.goto 4, 3) := by decide +kernel
theorem dX7_in_14 : decode cX7_in 14 = .ok (.iconst 0, 1) := by decide +kernel
theorem dX7_in_15 : decode cX7_in 15 = .ok (.ireturn, 1) := by decide +kernel
theorem dX7_fails_0 : decode cX7_fails 0 = .ok (.aload_n 0, 1) := by decide +kernel
theorem dX7_fails_1 : decode cX7_fails 1 = .ok (.iload_n 1, 1) := by decide +kernel
theorem dX7_fails_2 : decode cX7_fails 2 = .ok (.putfield 37, 3) := by decide +kernel
theorem dX7_fails_5 : decode cX7_fails 5 = .ok (.iconst 0, 1) := by decide +kernel
theorem dX7_fails_6 : decode cX7_fails 6 = .ok (.ireturn, 1) := by decide +kernel
theorem dX7_tells_0 : decode cX7_tells 0 = .ok (.aload_n 0, 1) := by decide +kernel
theorem dX7_tells_1 : decode cX7_tells 1 = .ok (.iconst 0, 1) := by decide +kernel
theorem dX7_tells_2 : decode cX7_tells 2 = .ok (.putfield 37, 3) := by decide +kernel
theorem dX7_tells_5 : decode cX7_tells 5 = .ok (.iload_n 1, 1) := by decide +kernel
theorem dX7_tells_6 : decode cX7_tells 6 = .ok (.ireturn, 1) := by decide +kernel
theorem dX7_isOneOf_0 : decode cX7_isOneOf 0 = .ok (.iload_n 0, 1) := by decide +kernel
theorem dX7_isOneOf_1 : decode cX7_isOneOf 1 = .ok (.iload_n 1, 1) := by decide +kernel
theorem dX7_isOneOf_2 : decode cX7_isOneOf 2 = .ok (.if_icmp .eq 19, 3) := by decide +kernel
theorem dX7_isOneOf_5 : decode cX7_isOneOf 5 = .ok (.iload_n 0, 1) := by decide +kernel
theorem dX7_isOneOf_6 : decode cX7_isOneOf 6 = .ok (.iload_n 2, 1) := by decide +kernel
theorem dX7_isOneOf_7 : decode cX7_isOneOf 7 = .ok (.if_icmp .eq 14, 3) := by decide +kernel
theorem dX7_isOneOf_10 : decode cX7_isOneOf 10 = .ok (.iload_n 0, 1) := by decide +kernel
theorem dX7_isOneOf_11 : decode cX7_isOneOf 11 = .ok (.iload_n 3, 1) := by decide +kernel
theorem dX7_isOneOf_12 : decode cX7_isOneOf 12 = .ok (.if_icmp .eq 9, 3) := by decide +kernel
theorem dX7_isOneOf_15 : decode cX7_isOneOf 15 = .ok (.iload_n 0, 1) := by decide +kernel
theorem dX7_isOneOf_16 : decode cX7_isOneOf 16 = .ok (.iload 4, 2) := by decide +kernel
theorem dX7_isOneOf_18 : decode cX7_isOneOf 18 = .ok (.if_icmp .ne 7, 3) := by decide +kernel
theorem dX7_isOneOf_21 : decode cX7_isOneOf 21 = .ok (.iconst 1, 1) := by decide +kernel
theorem dX7_isOneOf_22 : decode cX7_isOneOf 22 = .ok (.goto 4, 3) := by decide +kernel
theorem dX7_isOneOf_25 : decode cX7_isOneOf 25 = .ok (.iconst 0, 1) := by decide +kernel
theorem dX7_isOneOf_26 : decode cX7_isOneOf 26 = .ok (.ireturn, 1) := by decide +kernel
theorem dX7_isLetter_0 : decode cX7_isLetter 0 = .ok (.iload_n 0, 1) := by decide +kernel
theorem dX7_isLetter_1 : decode cX7_isLetter 1 = .ok (.bipush 110, 2) := by decide +kernel
theorem dX7_isLetter_3 : decode cX7_isLetter 3 = .ok (.bipush 105, 2) := by decide +kernel
theorem dX7_isLetter_5 : decode cX7_isLetter 5 = .ok (.bipush 43, 2) := by decide +kernel
theorem dX7_isLetter_7 : decode cX7_isLetter 7 = .ok (.bipush 45, 2) := by decide +kernel
theorem dX7_isLetter_9 : decode cX7_isLetter 9 = .ok (.invokestatic 153, 3) := by decide +kernel
theorem dX7_isLetter_12 : decode cX7_isLetter 12 = .ok (.ifCond .ne 33, 3) := by decide +kernel
theorem dX7_isLetter_15 : decode cX7_isLetter 15 = .ok (.iload_n 0, 1) := by decide +kernel
theorem dX7_isLetter_16 : decode cX7_isLetter 16 = .ok (.bipush 42, 2) := by decide +kernel
theorem dX7_isLetter_18 : decode cX7_isLetter 18 = .ok (.bipush 37, 2) := by decide +kernel
theorem dX7_isLetter_20 : decode cX7_isLetter 20 = .ok (.bipush 100, 2) := by decide +kernel
theorem dX7_isLetter_22 : decode cX7_isLetter 22 = .ok (.bipush 115, 2) := by decide +kernel
theorem dX7_isLetter_24 : decode cX7_isLetter 24 = .ok (.invokestatic 153, 3) := by decide +kernel
theorem dX7_isLetter_27 : decode cX7_isLetter 27 = .ok (.ifCond .ne 18, 3) := by decide +kernel
theorem dX7_isLetter_30 : decode cX7_isLetter 30 = .ok (.iload_n 0, 1) := by decide +kernel
theorem dX7_isLetter_31 : decode cX7_isLetter 31 = .ok (.bipush 112, 2) := by decide +kernel
theorem dX7_isLetter_33 : decode cX7_isLetter 33 = .ok (.bipush 111, 2) := by decide +kernel
theorem dX7_isLetter_35 : decode cX7_isLetter 35 = .ok (.bipush 91, 2) := by decide +kernel
theorem dX7_isLetter_37 : decode cX7_isLetter 37 = .ok (.bipush 93, 2) := by decide +kernel
theorem dX7_isLetter_39 : decode cX7_isLetter 39 = .ok (.invokestatic 153, 3) := by decide +kernel
theorem dX7_isLetter_42 : decode cX7_isLetter 42 = .ok (.ifCond .eq 7, 3) := by decide +kernel
theorem dX7_isLetter_45 : decode cX7_isLetter 45 = .ok (.iconst 1, 1) := by decide +kernel
theorem dX7_isLetter_46 : decode cX7_isLetter 46 = .ok (.goto 4, 3) := by decide +kernel
theorem dX7_isLetter_49 : decode cX7_isLetter 49 = .ok (.iconst 0, 1) := by decide +kernel
theorem dX7_isLetter_50 : decode cX7_isLetter 50 = .ok (.ireturn, 1) := by decide +kernel
theorem dX7_step_0 : decode cX7_step 0 = .ok (.iload_n 1, 1) := by decide +kernel
theorem dX7_step_1 : decode cX7_step 1 = .ok (.invokestatic 157, 3) := by decide +kernel
theorem dX7_step_4 : decode cX7_step 4 = .ok (.ifCond .eq 22, 3) := by decide +kernel
theorem dX7_step_7 : decode cX7_step 7 = .ok (.iload_n 1, 1) := by decide +kernel
theorem dX7_step_8 : decode cX7_step 8 = .ok (.bipush 110, 2) := by decide +kernel
theorem dX7_step_10 : decode cX7_step 10 = .ok (.if_icmp .ne 22, 3) := by decide +kernel
theorem dX7_step_13 : decode cX7_step 13 = .ok (.iload_n 2, 1) := by decide +kernel
theorem dX7_step_14 : decode cX7_step 14 = .ok (.sipush (-999), 3) := by decide +kernel
theorem dX7_step_17 : decode cX7_step 17 = .ok (.sipush 999, 3) := by decide +kernel
theorem dX7_step_20 : decode cX7_step 20 = .ok (.invokestatic 161, 3) := by decide +kernel
theorem dX7_step_23 : decode cX7_step 23 = .ok (.ifCond .ne 9, 3) := by decide +kernel
theorem dX7_step_26 : decode cX7_step 26 = .ok (.aload_n 0, 1) := by decide +kernel
theorem dX7_step_27 : decode cX7_step 27 = .ok (.iconst 1, 1) := by decide +kernel
theorem dX7_step_28 : decode cX7_step 28 = .ok (.invokevirtual 165, 3) := by decide +kernel
theorem dX7_step_31 : decode cX7_step 31 = .ok (.ireturn, 1) := by decide +kernel
theorem dX7_step_32 : decode cX7_step 32 = .ok (.aload_n 0, 1) := by decide +kernel
theorem dX7_step_33 : decode cX7_step 33 = .ok (.getfield 7, 3) := by decide +kernel
theorem dX7_step_36 : decode cX7_step 36 = .ok (.bipush 24, 2) := by decide +kernel
theorem dX7_step_38 : decode cX7_step 38 = .ok (.if_icmp .ne 9, 3) := by decide +kernel
theorem dX7_step_41 : decode cX7_step 41 = .ok (.aload_n 0, 1) := by decide +kernel
theorem dX7_step_42 : decode cX7_step 42 = .ok (.iconst 2, 1) := by decide +kernel
theorem dX7_step_43 : decode cX7_step 43 = .ok (.invokevirtual 165, 3) := by decide +kernel
theorem dX7_step_46 : decode cX7_step 46 = .ok (.ireturn, 1) := by decide +kernel
theorem dX7_step_47 : decode cX7_step 47 = .ok (.aload_n 0, 1) := by decide +kernel
theorem dX7_step_48 : decode cX7_step 48 = .ok (.getfield 40, 3) := by decide +kernel
theorem dX7_step_51 : decode cX7_step 51 = .ok (.sipush 960, 3) := by decide +kernel
theorem dX7_step_54 : decode cX7_step 54 = .ok (.aload_n 0, 1) := by decide +kernel
theorem dX7_step_55 : decode cX7_step 55 = .ok (.getfield 7, 3) := by decide +kernel
theorem dX7_step_58 : decode cX7_step 58 = .ok (.iadd, 1) := by decide +kernel
theorem dX7_step_59 : decode cX7_step 59 = .ok (.iload_n 1, 1) := by decide +kernel
theorem dX7_step_60 : decode cX7_step 60 = .ok (.castore, 1) := by decide +kernel
theorem dX7_step_61 : decode cX7_step 61 = .ok (.aload_n 0, 1) := by decide +kernel
theorem dX7_step_62 : decode cX7_step 62 = .ok (.getfield 44, 3) := by decide +kernel
theorem dX7_step_65 : decode cX7_step 65 = .ok (.sipush 960, 3) := by decide +kernel
theorem dX7_step_68 : decode cX7_step 68 = .ok (.aload_n 0, 1) := by decide +kernel
theorem dX7_step_69 : decode cX7_step 69 = .ok (.getfield 7, 3) := by decide +kernel
theorem dX7_step_72 : decode cX7_step 72 = .ok (.iadd, 1) := by decide +kernel
theorem dX7_step_73 : decode cX7_step 73 = .ok (.iload_n 1, 1) := by decide +kernel
theorem dX7_step_74 : decode cX7_step 74 = .ok (.bipush 110, 2) := by decide +kernel
theorem dX7_step_76 : decode cX7_step 76 = .ok (.if_icmp .ne 7, 3) := by decide +kernel
theorem dX7_step_79 : decode cX7_step 79 = .ok (.iload_n 2, 1) := by decide +kernel
theorem dX7_step_80 : decode cX7_step 80 = .ok (.goto 4, 3) := by decide +kernel
theorem dX7_step_83 : decode cX7_step 83 = .ok (.iconst 0, 1) := by decide +kernel
theorem dX7_step_84 : decode cX7_step 84 = .ok (.iastore, 1) := by decide +kernel
theorem dX7_step_85 : decode cX7_step 85 = .ok (.aload_n 0, 1) := by decide +kernel
theorem dX7_step_86 : decode cX7_step 86 = .ok (.dup, 1) := by decide +kernel
theorem dX7_step_87 : decode cX7_step 87 = .ok (.getfield 7, 3) := by decide +kernel
theorem dX7_step_90 : decode cX7_step 90 = .ok (.iconst 1, 1) := by decide +kernel
theorem dX7_step_91 : decode cX7_step 91 = .ok (.iadd, 1) := by decide +kernel
theorem dX7_step_92 : decode cX7_step 92 = .ok (.putfield 7, 3) := by decide +kernel
theorem dX7_step_95 : decode cX7_step 95 = .ok (.aload_n 0, 1) := by decide +kernel
theorem dX7_step_96 : decode cX7_step 96 = .ok (.getfield 48, 3) := by decide +kernel
theorem dX7_step_99 : decode cX7_step 99 = .ok (.bipush 40, 2) := by decide +kernel
theorem dX7_step_101 : decode cX7_step 101 = .ok (.aload_n 0, 1) := by decide +kernel
theorem dX7_step_102 : decode cX7_step 102 = .ok (.getfield 7, 3) := by decide +kernel
theorem dX7_step_105 : decode cX7_step 105 = .ok (.iastore, 1) := by decide +kernel
theorem dX7_step_106 : decode cX7_step 106 = .ok (.aload_n 0, 1) := by decide +kernel
theorem dX7_step_107 : decode cX7_step 107 = .ok (.aload_n 0, 1) := by decide +kernel
theorem dX7_step_108 : decode cX7_step 108 = .ok (.getfield 7, 3) := by decide +kernel
theorem dX7_step_111 : decode cX7_step 111 = .ok (.invokevirtual 169, 3) := by decide +kernel
theorem dX7_step_114 : decode cX7_step 114 = .ok (.ireturn, 1) := by decide +kernel
theorem dX7_wipe_0 : decode cX7_wipe 0 = .ok (.aload_n 0, 1) := by decide +kernel
theorem dX7_wipe_1 : decode cX7_wipe 1 = .ok (.getfield 7, 3) := by decide +kernel
theorem dX7_wipe_4 : decode cX7_wipe 4 = .ok (.istore_n 1, 1) := by decide +kernel
theorem dX7_wipe_5 : decode cX7_wipe 5 = .ok (.aload_n 0, 1) := by decide +kernel
theorem dX7_wipe_6 : decode cX7_wipe 6 = .ok (.iconst 0, 1) := by decide +kernel
theorem dX7_wipe_7 : decode cX7_wipe 7 = .ok (.putfield 7, 3) := by decide +kernel
theorem dX7_wipe_10 : decode cX7_wipe 10 = .ok (.aload_n 0, 1) := by decide +kernel
theorem dX7_wipe_11 : decode cX7_wipe 11 = .ok (.getfield 48, 3) := by decide +kernel
theorem dX7_wipe_14 : decode cX7_wipe 14 = .ok (.bipush 40, 2) := by decide +kernel
theorem dX7_wipe_16 : decode cX7_wipe 16 = .ok (.iconst 0, 1) := by decide +kernel
theorem dX7_wipe_17 : decode cX7_wipe 17 = .ok (.iastore, 1) := by decide +kernel
theorem dX7_wipe_18 : decode cX7_wipe 18 = .ok (.aload_n 0, 1) := by decide +kernel
theorem dX7_wipe_19 : decode cX7_wipe 19 = .ok (.iload_n 1, 1) := by decide +kernel
theorem dX7_wipe_20 : decode cX7_wipe 20 = .ok (.invokevirtual 169, 3) := by decide +kernel
theorem dX7_wipe_23 : decode cX7_wipe 23 = .ok (.ireturn, 1) := by decide +kernel
theorem dX7_number_0 : decode cX7_number 0 = .ok (.iload_n 1, 1) := by decide +kernel
theorem dX7_number_1 : decode cX7_number 1 = .ok (.sipush (-999), 3) := by decide +kernel
theorem dX7_number_4 : decode cX7_number 4 = .ok (.sipush 999, 3) := by decide +kernel
theorem dX7_number_7 : decode cX7_number 7 = .ok (.invokestatic 161, 3) := by decide +kernel
theorem dX7_number_10 : decode cX7_number 10 = .ok (.ifCond .ne 9, 3) := by decide +kernel
theorem dX7_number_13 : decode cX7_number 13 = .ok (.aload_n 0, 1) := by decide +kernel
theorem dX7_number_14 : decode cX7_number 14 = .ok (.iconst 1, 1) := by decide +kernel
theorem dX7_number_15 : decode cX7_number 15 = .ok (.invokevirtual 165, 3) := by decide +kernel
theorem dX7_number_18 : decode cX7_number 18 = .ok (.ireturn, 1) := by decide +kernel
theorem dX7_number_19 : decode cX7_number 19 = .ok (.iload_n 2, 1) := by decide +kernel
theorem dX7_number_20 : decode cX7_number 20 = .ok (.ifCond .eq 15, 3) := by decide +kernel
theorem dX7_number_23 : decode cX7_number 23 = .ok (.aload_n 0, 1) := by decide +kernel
theorem dX7_number_24 : decode cX7_number 24 = .ok (.getfield 16, 3) := by decide +kernel
theorem dX7_number_27 : decode cX7_number 27 = .ok (.bipush 6, 2) := by decide +kernel
theorem dX7_number_29 : decode cX7_number 29 = .ok (.if_icmp .ne 20, 3) := by decide +kernel
theorem dX7_number_35 : decode cX7_number 35 = .ok (.aload_n 0, 1) := by decide +kernel
theorem dX7_number_36 : decode cX7_number 36 = .ok (.getfield 13, 3) := by decide +kernel
theorem dX7_number_39 : decode cX7_number 39 = .ok (.iconst 4, 1) := by decide +kernel
theorem dX7_number_40 : decode cX7_number 40 = .ok (.if_icmp .ne 9, 3) := by decide +kernel
theorem dX7_number_49 : decode cX7_number 49 = .ok (.iload_n 2, 1) := by decide +kernel
theorem dX7_number_50 : decode cX7_number 50 = .ok (.ifCond .eq 32, 3) := by decide +kernel
theorem dX7_number_53 : decode cX7_number 53 = .ok (.aload_n 0, 1) := by decide +kernel
theorem dX7_number_54 : decode cX7_number 54 = .ok (.getfield 54, 3) := by decide +kernel
theorem dX7_number_57 : decode cX7_number 57 = .ok (.aload_n 0, 1) := by decide +kernel
theorem dX7_number_58 : decode cX7_number 58 = .ok (.getfield 16, 3) := by decide +kernel
theorem dX7_number_61 : decode cX7_number 61 = .ok (.iload_n 1, 1) := by decide +kernel
theorem dX7_number_62 : decode cX7_number 62 = .ok (.iastore, 1) := by decide +kernel
theorem dX7_number_63 : decode cX7_number 63 = .ok (.aload_n 0, 1) := by decide +kernel
theorem dX7_number_64 : decode cX7_number 64 = .ok (.dup, 1) := by decide +kernel
theorem dX7_number_65 : decode cX7_number 65 = .ok (.getfield 16, 3) := by decide +kernel
theorem dX7_number_68 : decode cX7_number 68 = .ok (.iconst 1, 1) := by decide +kernel
theorem dX7_number_69 : decode cX7_number 69 = .ok (.iadd, 1) := by decide +kernel
theorem dX7_number_70 : decode cX7_number 70 = .ok (.putfield 16, 3) := by decide +kernel
theorem dX7_number_73 : decode cX7_number 73 = .ok (.aload_n 0, 1) := by decide +kernel
theorem dX7_number_74 : decode cX7_number 74 = .ok (.aload_n 0, 1) := by decide +kernel
theorem dX7_number_75 : decode cX7_number 75 = .ok (.getfield 16, 3) := by decide +kernel
theorem dX7_number_78 : decode cX7_number 78 = .ok (.invokevirtual 169, 3) := by decide +kernel
theorem dX7_number_81 : decode cX7_number 81 = .ok (.ireturn, 1) := by decide +kernel
theorem dX7_number_82 : decode cX7_number 82 = .ok (.aload_n 0, 1) := by decide +kernel
theorem dX7_number_83 : decode cX7_number 83 = .ok (.getfield 51, 3) := by decide +kernel
theorem dX7_number_86 : decode cX7_number 86 = .ok (.aload_n 0, 1) := by decide +kernel
theorem dX7_number_87 : decode cX7_number 87 = .ok (.getfield 13, 3) := by decide +kernel
theorem dX7_number_90 : decode cX7_number 90 = .ok (.iload_n 1, 1) := by decide +kernel
theorem dX7_number_91 : decode cX7_number 91 = .ok (.iastore, 1) := by decide +kernel
theorem dX7_number_92 : decode cX7_number 92 = .ok (.aload_n 0, 1) := by decide +kernel
theorem dX7_number_93 : decode cX7_number 93 = .ok (.dup, 1) := by decide +kernel
theorem dX7_number_94 : decode cX7_number 94 = .ok (.getfield 13, 3) := by decide +kernel
theorem dX7_number_97 : decode cX7_number 97 = .ok (.iconst 1, 1) := by decide +kernel
theorem dX7_number_98 : decode cX7_number 98 = .ok (.iadd, 1) := by decide +kernel
theorem dX7_number_99 : decode cX7_number 99 = .ok (.putfield 13, 3) := by decide +kernel
theorem dX7_number_102 : decode cX7_number 102 = .ok (.aload_n 0, 1) := by decide +kernel
theorem dX7_number_103 : decode cX7_number 103 = .ok (.aload_n 0, 1) := by decide +kernel
theorem dX7_number_104 : decode cX7_number 104 = .ok (.getfield 13, 3) := by decide +kernel
theorem dX7_number_107 : decode cX7_number 107 = .ok (.invokevirtual 169, 3) := by decide +kernel
theorem dX7_number_110 : decode cX7_number 110 = .ok (.ireturn, 1) := by decide +kernel
theorem dX7_clears_0 : decode cX7_clears 0 = .ok (.aload_n 0, 1) := by decide +kernel
theorem dX7_clears_1 : decode cX7_clears 1 = .ok (.getfield 13, 3) := by decide +kernel
theorem dX7_clears_4 : decode cX7_clears 4 = .ok (.aload_n 0, 1) := by decide +kernel
theorem dX7_clears_5 : decode cX7_clears 5 = .ok (.getfield 16, 3) := by decide +kernel
theorem dX7_clears_8 : decode cX7_clears 8 = .ok (.iadd, 1) := by decide +kernel
theorem dX7_clears_9 : decode cX7_clears 9 = .ok (.istore_n 1, 1) := by decide +kernel
theorem dX7_clears_10 : decode cX7_clears 10 = .ok (.aload_n 0, 1) := by decide +kernel
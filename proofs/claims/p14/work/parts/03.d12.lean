theorem dX7_points_24 : decode cX7_points 24 = .ok (.fconst 0, 1) := by decide +kernel
theorem dX7_points_25 : decode cX7_points 25 = .ok (.goto 8, 3) := by decide +kernel
theorem dX7_points_28 : decode cX7_points 28 = .ok (.aload_n 0, 1) := by decide +kernel
theorem dX7_points_29 : decode cX7_points 29 = .ok (.iload_n 1, 1) := by decide +kernel
theorem dX7_points_30 : decode cX7_points 30 = .ok (.invokevirtual 274, 3) := by decide +kernel
theorem dX7_points_33 : decode cX7_points 33 = .ok (.freturn, 1) := by decide +kernel
theorem dX7_belt_0 : decode cX7_belt 0 = .ok (.aload_n 0, 1) := by decide +kernel
theorem dX7_belt_1 : decode cX7_belt 1 = .ok (.iload_n 1, 1) := by decide +kernel
theorem dX7_belt_2 : decode cX7_belt 2 = .ok (.invokevirtual 214, 3) := by decide +kernel
theorem dX7_belt_5 : decode cX7_belt 5 = .ok (.ifCond .eq 15, 3) := by decide +kernel
theorem dX7_belt_8 : decode cX7_belt 8 = .ok (.aload_n 0, 1) := by decide +kernel
theorem dX7_belt_9 : decode cX7_belt 9 = .ok (.aload_n 0, 1) := by decide +kernel
theorem dX7_belt_10 : decode cX7_belt 10 = .ok (.iload_n 1, 1) := by decide +kernel
theorem dX7_belt_11 : decode cX7_belt 11 = .ok (.invokevirtual 256, 3) := by decide +kernel
theorem dX7_belt_14 : decode cX7_belt 14 = .ok (.invokevirtual 169, 3) := by decide +kernel
theorem dX7_belt_17 : decode cX7_belt 17 = .ok (.goto 8, 3) := by decide +kernel
theorem dX7_belt_20 : decode cX7_belt 20 = .ok (.aload_n 0, 1) := by decide +kernel
theorem dX7_belt_21 : decode cX7_belt 21 = .ok (.iconst 1, 1) := by decide +kernel
theorem dX7_belt_22 : decode cX7_belt 22 = .ok (.invokevirtual 165, 3) := by decide +kernel
theorem dX7_belt_25 : decode cX7_belt 25 = .ok (.ireturn, 1) := by decide +kernel
theorem dX7_honour_0 : decode cX7_honour 0 = .ok (.aload_n 0, 1) := by decide +kernel
theorem dX7_honour_1 : decode cX7_honour 1 = .ok (.iload_n 1, 1) := by decide +kernel
theorem dX7_honour_2 : decode cX7_honour 2 = .ok (.invokevirtual 214, 3) := by decide +kernel
theorem dX7_honour_5 : decode cX7_honour 5 = .ok (.ifCond .eq 16, 3) := by decide +kernel
theorem dX7_honour_8 : decode cX7_honour 8 = .ok (.aload_n 0, 1) := by decide +kernel
theorem dX7_honour_9 : decode cX7_honour 9 = .ok (.aload_n 0, 1) := by decide +kernel
theorem dX7_honour_10 : decode cX7_honour 10 = .ok (.getfield 116, 3) := by decide +kernel
theorem dX7_honour_13 : decode cX7_honour 13 = .ok (.iload_n 1, 1) := by decide +kernel
theorem dX7_honour_14 : decode cX7_honour 14 = .ok (.iaload, 1) := by decide +kernel
theorem dX7_honour_15 : decode cX7_honour 15 = .ok (.invokevirtual 169, 3) := by decide +kernel
theorem dX7_honour_18 : decode cX7_honour 18 = .ok (.goto 8, 3) := by decide +kernel
theorem dX7_honour_21 : decode cX7_honour 21 = .ok (.aload_n 0, 1) := by decide +kernel
theorem dX7_honour_22 : decode cX7_honour 22 = .ok (.iconst 1, 1) := by decide +kernel
theorem dX7_honour_23 : decode cX7_honour 23 = .ok (.invokevirtual 165, 3) := by decide +kernel
theorem dX7_honour_26 : decode cX7_honour 26 = .ok (.ireturn, 1) := by decide +kernel
theorem dX7_isAheadOf_0 : decode cX7_isAheadOf 0 = .ok (.aload_n 0, 1) := by decide +kernel
theorem dX7_isAheadOf_1 : decode cX7_isAheadOf 1 = .ok (.iload_n 1, 1) := by decide +kernel
theorem dX7_isAheadOf_2 : decode cX7_isAheadOf 2 = .ok (.invokevirtual 256, 3) := by decide +kernel
theorem dX7_isAheadOf_5 : decode cX7_isAheadOf 5 = .ok (.aload_n 0, 1) := by decide +kernel
theorem dX7_isAheadOf_6 : decode cX7_isAheadOf 6 = .ok (.iload_n 2, 1) := by decide +kernel
theorem dX7_isAheadOf_7 : decode cX7_isAheadOf 7 = .ok (.invokevirtual 256, 3) := by decide +kernel
theorem dX7_isAheadOf_10 : decode cX7_isAheadOf 10 = .ok (.if_icmp .eq 22, 3) := by decide +kernel
theorem dX7_isAheadOf_13 : decode cX7_isAheadOf 13 = .ok (.aload_n 0, 1) := by decide +kernel
theorem dX7_isAheadOf_14 : decode cX7_isAheadOf 14 = .ok (.iload_n 1, 1) := by decide +kernel
theorem dX7_isAheadOf_15 : decode cX7_isAheadOf 15 = .ok (.invokevirtual 256, 3) := by decide +kernel
theorem dX7_isAheadOf_18 : decode cX7_isAheadOf 18 = .ok (.aload_n 0, 1) := by decide +kernel
theorem dX7_isAheadOf_19 : decode cX7_isAheadOf 19 = .ok (.iload_n 2, 1) := by decide +kernel
theorem dX7_isAheadOf_20 : decode cX7_isAheadOf 20 = .ok (.invokevirtual 256, 3) := by decide +kernel
theorem dX7_isAheadOf_23 : decode cX7_isAheadOf 23 = .ok (.if_icmp .le 7, 3) := by decide +kernel
theorem dX7_isAheadOf_26 : decode cX7_isAheadOf 26 = .ok (.iconst 1, 1) := by decide +kernel
theorem dX7_isAheadOf_27 : decode cX7_isAheadOf 27 = .ok (.goto 4, 3) := by decide +kernel
theorem dX7_isAheadOf_30 : decode cX7_isAheadOf 30 = .ok (.iconst 0, 1) := by decide +kernel
theorem dX7_isAheadOf_31 : decode cX7_isAheadOf 31 = .ok (.ireturn, 1) := by decide +kernel
theorem dX7_isAheadOf_32 : decode cX7_isAheadOf 32 = .ok (.aload_n 0, 1) := by decide +kernel
theorem dX7_isAheadOf_33 : decode cX7_isAheadOf 33 = .ok (.iload_n 1, 1) := by decide +kernel
theorem dX7_isAheadOf_34 : decode cX7_isAheadOf 34 = .ok (.invokevirtual 274, 3) := by decide +kernel
theorem dX7_isAheadOf_37 : decode cX7_isAheadOf 37 = .ok (.aload_n 0, 1) := by decide +kernel
theorem dX7_isAheadOf_38 : decode cX7_isAheadOf 38 = .ok (.iload_n 2, 1) := by decide +kernel
theorem dX7_isAheadOf_39 : decode cX7_isAheadOf 39 = .ok (.invokevirtual 274, 3) := by decide +kernel
theorem dX7_isAheadOf_42 : decode cX7_isAheadOf 42 = .ok (.fcmp .l, 1) := by decide +kernel
theorem dX7_isAheadOf_43 : decode cX7_isAheadOf 43 = .ok (.ifCond .gt 22, 3) := by decide +kernel
theorem dX7_isAheadOf_46 : decode cX7_isAheadOf 46 = .ok (.aload_n 0, 1) := by decide +kernel
theorem dX7_isAheadOf_47 : decode cX7_isAheadOf 47 = .ok (.iload_n 1, 1) := by decide +kernel
theorem dX7_isAheadOf_48 : decode cX7_isAheadOf 48 = .ok (.invokevirtual 274, 3) := by decide +kernel
theorem dX7_isAheadOf_51 : decode cX7_isAheadOf 51 = .ok (.aload_n 0, 1) := by decide +kernel
theorem dX7_isAheadOf_52 : decode cX7_isAheadOf 52 = .ok (.iload_n 2, 1) := by decide +kernel
theorem dX7_isAheadOf_53 : decode cX7_isAheadOf 53 = .ok (.invokevirtual 274, 3) := by decide +kernel
theorem dX7_isAheadOf_56 : decode cX7_isAheadOf 56 = .ok (.fcmp .l, 1) := by decide +kernel
theorem dX7_isAheadOf_57 : decode cX7_isAheadOf 57 = .ok (.ifCond .ne 12, 3) := by decide +kernel
theorem dX7_isAheadOf_60 : decode cX7_isAheadOf 60 = .ok (.iload_n 1, 1) := by decide +kernel
theorem dX7_isAheadOf_61 : decode cX7_isAheadOf 61 = .ok (.iload_n 2, 1) := by decide +kernel
theorem dX7_isAheadOf_62 : decode cX7_isAheadOf 62 = .ok (.if_icmp .ge 7, 3) := by decide +kernel
theorem dX7_isAheadOf_65 : decode cX7_isAheadOf 65 = .ok (.iconst 1, 1) := by decide +kernel
theorem dX7_isAheadOf_66 : decode cX7_isAheadOf 66 = .ok (.goto 4, 3) := by decide +kernel
theorem dX7_isAheadOf_69 : decode cX7_isAheadOf 69 = .ok (.iconst 0, 1) := by decide +kernel
theorem dX7_isAheadOf_70 : decode cX7_isAheadOf 70 = .ok (.ireturn, 1) := by decide +kernel
theorem dX7_ranked_0 : decode cX7_ranked 0 = .ok (.iconst 0, 1) := by decide +kernel
theorem dX7_ranked_1 : decode cX7_ranked 1 = .ok (.istore_n 2, 1) := by decide +kernel
theorem dX7_ranked_2 : decode cX7_ranked 2 = .ok (.iload_n 2, 1) := by decide +kernel
theorem dX7_ranked_3 : decode cX7_ranked 3 = .ok (.aload_n 0, 1) := by decide +kernel
theorem dX7_ranked_4 : decode cX7_ranked 4 = .ok (.getfield 22, 3) := by decide +kernel
theorem dX7_ranked_7 : decode cX7_ranked 7 = .ok (.if_icmp .ge 64, 3) := by decide +kernel
theorem dX7_ranked_10 : decode cX7_ranked 10 = .ok (.iconst 0, 1) := by decide +kernel
theorem dX7_ranked_11 : decode cX7_ranked 11 = .ok (.istore_n 3, 1) := by decide +kernel
theorem dX7_ranked_12 : decode cX7_ranked 12 = .ok (.iconst 0, 1) := by decide +kernel
theorem dX7_ranked_13 : decode cX7_ranked 13 = .ok (.istore 4, 2) := by decide +kernel
theorem dX7_ranked_15 : decode cX7_ranked 15 = .ok (.iload 4, 2) := by decide +kernel
theorem dX7_ranked_17 : decode cX7_ranked 17 = .ok (.aload_n 0, 1) := by decide +kernel
theorem dX7_ranked_18 : decode cX7_ranked 18 = .ok (.getfield 22, 3) := by decide +kernel
theorem dX7_ranked_21 : decode cX7_ranked 21 = .ok (.if_icmp .ge 33, 3) := by decide +kernel
theorem dX7_ranked_24 : decode cX7_ranked 24 = .ok (.iload_n 3, 1) := by decide +kernel
theorem dX7_ranked_25 : decode cX7_ranked 25 = .ok (.iload 4, 2) := by decide +kernel
theorem dX7_ranked_27 : decode cX7_ranked 27 = .ok (.iload_n 2, 1) := by decide +kernel
theorem dX7_ranked_28 : decode cX7_ranked 28 = .ok (.if_icmp .eq 17, 3) := by decide +kernel
theorem dX7_ranked_31 : decode cX7_ranked 31 = .ok (.aload_n 0, 1) := by decide +kernel
theorem dX7_ranked_32 : decode cX7_ranked 32 = .ok (.iload 4, 2) := by decide +kernel
theorem dX7_ranked_34 : decode cX7_ranked 34 = .ok (.iload_n 2, 1) := by decide +kernel
theorem dX7_ranked_35 : decode cX7_ranked 35 = .ok (.invokevirtual 278, 3) := by decide +kernel
theorem dX7_ranked_38 : decode cX7_ranked 38 = .ok (.ifCond .eq 7, 3) := by decide +kernel
theorem dX7_ranked_41 : decode cX7_ranked 41 = .ok (.iconst 1, 1) := by decide +kernel
theorem dX7_ranked_42 : decode cX7_ranked 42 = .ok (.goto 4, 3) := by decide +kernel
theorem dX7_ranked_45 : decode cX7_ranked 45 = .ok (.iconst 0, 1) := by decide +kernel
theorem dX7_ranked_46 : decode cX7_ranked 46 = .ok (.iadd, 1) := by decide +kernel
theorem dX7_ranked_47 : decode cX7_ranked 47 = .ok (.istore_n 3, 1) := by decide +kernel
theorem dX7_ranked_48 : decode cX7_ranked 48 = .ok (.iinc 4 1, 3) := by decide +kernel
theorem dX7_ranked_51 : decode cX7_ranked 51 = .ok (.goto (-36), 3) := by decide +kernel
theorem dX7_ranked_54 : decode cX7_ranked 54 = .ok (.iload_n 3, 1) := by decide +kernel
theorem dX7_ranked_55 : decode cX7_ranked 55 = .ok (.iload_n 1, 1) := by decide +kernel
theorem dX7_ranked_56 : decode cX7_ranked 56 = .ok (.if_icmp .ne 9, 3) := by decide +kernel
theorem dX7_ranked_59 : decode cX7_ranked 59 = .ok (.aload_n 0, 1) := by decide +kernel
theorem dX7_ranked_60 : decode cX7_ranked 60 = .ok (.iload_n 2, 1) := by decide +kernel
theorem dX7_ranked_61 : decode cX7_ranked 61 = .ok (.invokevirtual 169, 3) := by decide +kernel
theorem dX7_ranked_64 : decode cX7_ranked 64 = .ok (.ireturn, 1) := by decide +kernel
theorem dX7_ranked_65 : decode cX7_ranked 65 = .ok (.iinc 2 1, 3) := by decide +kernel
theorem dX7_ranked_68 : decode cX7_ranked 68 = .ok (.goto (-66), 3) := by decide +kernel
theorem dX7_ranked_71 : decode cX7_ranked 71 = .ok (.aload_n 0, 1) := by decide +kernel
theorem dX7_ranked_72 : decode cX7_ranked 72 = .ok (.iconst 1, 1) := by decide +kernel
theorem dX7_ranked_73 : decode cX7_ranked 73 = .ok (.invokevirtual 165, 3) := by decide +kernel
theorem dX7_ranked_76 : decode cX7_ranked 76 = .ok (.ireturn, 1) := by decide +kernel
theorem dX7_openCount_0 : decode cX7_openCount 0 = .ok (.iconst 0, 1) := by decide +kernel
theorem dX7_openCount_1 : decode cX7_openCount 1 = .ok (.istore_n 1, 1) := by decide +kernel
theorem dX7_openCount_2 : decode cX7_openCount 2 = .ok (.iconst 0, 1) := by decide +kernel
theorem dX7_openCount_3 : decode cX7_openCount 3 = .ok (.istore_n 2, 1) := by decide +kernel
theorem dX7_openCount_4 : decode cX7_openCount 4 = .ok (.iload_n 2, 1) := by decide +kernel
theorem dX7_openCount_5 : decode cX7_openCount 5 = .ok (.aload_n 0, 1) := by decide +kernel
theorem dX7_openCount_6 : decode cX7_openCount 6 = .ok (.getfield 25, 3) := by decide +kernel
theorem dX7_openCount_9 : decode cX7_openCount 9 = .ok (.if_icmp .ge 28, 3) := by decide +kernel
theorem dX7_openCount_12 : decode cX7_openCount 12 = .ok (.iload_n 1, 1) := by decide +kernel
theorem dX7_openCount_13 : decode cX7_openCount 13 = .ok (.aload_n 0, 1) := by decide +kernel
theorem dX7_openCount_14 : decode cX7_openCount 14 = .ok (.getfield 88, 3) := by decide +kernel
theorem dX7_openCount_17 : decode cX7_openCount 17 = .ok (.iload_n 2, 1) := by decide +kernel
theorem dX7_openCount_18 : decode cX7_openCount 18 = .ok (.caload, 1) := by decide +kernel
theorem dX7_openCount_19 : decode cX7_openCount 19 = .ok (.bipush 99, 2) := by decide +kernel
theorem dX7_openCount_21 : decode cX7_openCount 21 = .ok (.if_icmp .ne 7, 3) := by decide +kernel
theorem dX7_openCount_24 : decode cX7_openCount 24 = .ok (.iconst 1, 1) := by decide +kernel
theorem dX7_openCount_25 : decode cX7_openCount 25 = .ok (.goto 4, 3) := by decide +kernel
theorem dX7_openCount_28 : decode cX7_openCount 28 = .ok (.iconst 0, 1) := by decide +kernel
theorem dX7_openCount_29 : decode cX7_openCount 29 = .ok (.iadd, 1) := by decide +kernel
theorem dX7_openCount_30 : decode cX7_openCount 30 = .ok (.istore_n 1, 1) := by decide +kernel
theorem dX7_openCount_31 : decode cX7_openCount 31 = .ok (.iinc 2 1, 3) := by decide +kernel
theorem dX7_openCount_34 : decode cX7_openCount 34 = .ok (.goto (-30), 3) := by decide +kernel
theorem dX7_openCount_37 : decode cX7_openCount 37 = .ok (.iload_n 1, 1) := by decide +kernel
theorem dX7_openCount_38 : decode cX7_openCount 38 = .ok (.ireturn, 1) := by decide +kernel
theorem dX7_challenge_0 : decode cX7_challenge 0 = .ok (.aload_n 0, 1) := by decide +kernel
theorem dX7_challenge_1 : decode cX7_challenge 1 = .ok (.iload_n 1, 1) := by decide +kernel
theorem dX7_challenge_2 : decode cX7_challenge 2 = .ok (.invokevirtual 214, 3) := by decide +kernel
theorem dX7_challenge_5 : decode cX7_challenge 5 = .ok (.ifCond .eq 11, 3) := by decide +kernel
theorem dX7_challenge_8 : decode cX7_challenge 8 = .ok (.aload_n 0, 1) := by decide +kernel
theorem dX7_challenge_9 : decode cX7_challenge 9 = .ok (.iload_n 2, 1) := by decide +kernel
theorem dX7_challenge_10 : decode cX7_challenge 10 = .ok (.invokevirtual 227, 3) := by decide +kernel
theorem dX7_challenge_13 : decode cX7_challenge 13 = .ok (.ifCond .ne 9, 3) := by decide +kernel
theorem dX7_challenge_16 : decode cX7_challenge 16 = .ok (.aload_n 0, 1) := by decide +kernel
theorem dX7_challenge_17 : decode cX7_challenge 17 = .ok (.iconst 1, 1) := by decide +kernel
theorem dX7_challenge_18 : decode cX7_challenge 18 = .ok (.invokevirtual 165, 3) := by decide +kernel
theorem dX7_challenge_21 : decode cX7_challenge 21 = .ok (.ireturn, 1) := by decide +kernel
theorem dX7_challenge_22 : decode cX7_challenge 22 = .ok (.aload_n 0, 1) := by decide +kernel
theorem dX7_challenge_23 : decode cX7_challenge 23 = .ok (.getfield 78, 3) := by decide +kernel
theorem dX7_challenge_26 : decode cX7_challenge 26 = .ok (.iload_n 2, 1) := by decide +kernel
theorem dX7_challenge_27 : decode cX7_challenge 27 = .ok (.iaload, 1) := by decide +kernel
theorem dX7_challenge_28 : decode cX7_challenge 28 = .ok (.iload_n 1, 1) := by decide +kernel
theorem dX7_challenge_29 : decode cX7_challenge 29 = .ok (.if_icmp .eq 24, 3) := by decide +kernel
theorem dX7_challenge_32 : decode cX7_challenge 32 = .ok (.aload_n 0, 1) := by decide +kernel
theorem dX7_challenge_33 : decode cX7_challenge 33 = .ok (.getfield 88, 3) := by decide +kernel
theorem dX7_challenge_36 : decode cX7_challenge 36 = .ok (.iload_n 2, 1) := by decide +kernel
theorem dX7_challenge_37 : decode cX7_challenge 37 = .ok (.caload, 1) := by decide +kernel
theorem dX7_challenge_38 : decode cX7_challenge 38 = .ok (.bipush 112, 2) := by decide +kernel
theorem dX7_challenge_40 : decode cX7_challenge 40 = .ok (.if_icmp .ne 13, 3) := by decide +kernel
theorem dX7_challenge_43 : decode cX7_challenge 43 = .ok (.aload_n 0, 1) := by decide +kernel
theorem dX7_challenge_44 : decode cX7_challenge 44 = .ok (.getfield 116, 3) := by decide +kernel
theorem dX7_challenge_47 : decode cX7_challenge 47 = .ok (.iload_n 1, 1) := by decide +kernel
theorem dX7_challenge_48 : decode cX7_challenge 48 = .ok (.iaload, 1) := by decide +kernel
theorem dX7_challenge_49 : decode cX7_challenge 49 = .ok (.iconst 2, 1) := by decide +kernel
theorem dX7_challenge_50 : decode cX7_challenge 50 = .ok (.if_icmp .ge 9, 3) := by decide +kernel
theorem dX7_challenge_53 : decode cX7_challenge 53 = .ok (.aload_n 0, 1) := by decide +kernel
theorem dX7_challenge_54 : decode cX7_challenge 54 = .ok (.iconst 2, 1) := by decide +kernel
theorem dX7_challenge_55 : decode cX7_challenge 55 = .ok (.invokevirtual 165, 3) := by decide +kernel
theorem dX7_challenge_58 : decode cX7_challenge 58 = .ok (.ireturn, 1) := by decide +kernel
theorem dX7_challenge_59 : decode cX7_challenge 59 = .ok (.aload_n 0, 1) := by decide +kernel
theorem dX7_challenge_60 : decode cX7_challenge 60 = .ok (.invokevirtual 281, 3) := by decide +kernel
theorem dX7_challenge_63 : decode cX7_challenge 63 = .ok (.bipush 8, 2) := by decide +kernel
theorem dX7_challenge_65 : decode cX7_challenge 65 = .ok (.if_icmp .ne 9, 3) := by decide +kernel
theorem dX7_challenge_68 : decode cX7_challenge 68 = .ok (.aload_n 0, 1) := by decide +kernel
theorem dX7_challenge_69 : decode cX7_challenge 69 = .ok (.iconst 3, 1) := by decide +kernel
theorem dX7_challenge_70 : decode cX7_challenge 70 = .ok (.invokevirtual 165, 3) := by decide +kernel
theorem dX7_challenge_73 : decode cX7_challenge 73 = .ok (.ireturn, 1) := by decide +kernel
theorem dX7_challenge_74 : decode cX7_challenge 74 = .ok (.aload_n 0, 1) := by decide +kernel
theorem dX7_challenge_75 : decode cX7_challenge 75 = .ok (.getfield 116, 3) := by decide +kernel
theorem dX7_challenge_78 : decode cX7_challenge 78 = .ok (.iload_n 1, 1) := by decide +kernel
theorem dX7_challenge_79 : decode cX7_challenge 79 = .ok (.dup2, 1) := by decide +kernel
theorem dX7_challenge_80 : decode cX7_challenge 80 = .ok (.iaload, 1) := by decide +kernel
theorem dX7_challenge_81 : decode cX7_challenge 81 = .ok (.iconst 2, 1) := by decide +kernel
theorem dX7_challenge_82 : decode cX7_challenge 82 = .ok (.isub, 1) := by decide +kernel
theorem dX7_challenge_83 : decode cX7_challenge 83 = .ok (.iastore, 1) := by decide +kernel
theorem dX7_challenge_84 : decode cX7_challenge 84 = .ok (.aload_n 0, 1) := by decide +kernel
theorem dX7_challenge_85 : decode cX7_challenge 85 = .ok (.getfield 88, 3) := by decide +kernel
theorem dX7_challenge_88 : decode cX7_challenge 88 = .ok (.iload_n 2, 1) := by decide +kernel
theorem dX7_challenge_89 : decode cX7_challenge 89 = .ok (.bipush 99, 2) := by decide +kernel
theorem dX7_challenge_91 : decode cX7_challenge 91 = .ok (.castore, 1) := by decide +kernel
theorem dX7_challenge_92 : decode cX7_challenge 92 = .ok (.aload_n 0, 1) := by decide +kernel
theorem dX7_challenge_93 : decode cX7_challenge 93 = .ok (.getfield 107, 3) := by decide +kernel
theorem dX7_challenge_96 : decode cX7_challenge 96 = .ok (.iload_n 2, 1) := by decide +kernel
theorem dX7_challenge_97 : decode cX7_challenge 97 = .ok (.iload_n 1, 1) := by decide +kernel
theorem dX7_challenge_98 : decode cX7_challenge 98 = .ok (.iastore, 1) := by decide +kernel
theorem dX7_challenge_99 : decode cX7_challenge 99 = .ok (.aload_n 0, 1) := by decide +kernel
theorem dX7_challenge_100 : decode cX7_challenge 100 = .ok (.getfield 110, 3) := by decide +kernel
theorem dX7_challenge_103 : decode cX7_challenge 103 = .ok (.iload_n 2, 1) := by decide +kernel
theorem dX7_challenge_104 : decode cX7_challenge 104 = .ok (.bipush 7, 2) := by decide +kernel
theorem dX7_challenge_106 : decode cX7_challenge 106 = .ok (.iastore, 1) := by decide +kernel
theorem dX7_challenge_107 : decode cX7_challenge 107 = .ok (.aload_n 0, 1) := by decide +kernel
theorem dX7_challenge_108 : decode cX7_challenge 108 = .ok (.getfield 113, 3) := by decide +kernel
theorem dX7_challenge_111 : decode cX7_challenge 111 = .ok (.iload_n 2, 1) := by decide +kernel
theorem dX7_challenge_112 : decode cX7_challenge 112 = .ok (.aload_n 0, 1) := by decide +kernel
theorem dX7_challenge_113 : decode cX7_challenge 113 = .ok (.getfield 34, 3) := by decide +kernel
theorem dX7_challenge_116 : decode cX7_challenge 116 = .ok (.iastore, 1) := by decide +kernel
theorem dX7_challenge_117 : decode cX7_challenge 117 = .ok (.aload_n 0, 1) := by decide +kernel
theorem dX7_challenge_118 : decode cX7_challenge 118 = .ok (.dup, 1) := by decide +kernel
theorem dX7_challenge_119 : decode cX7_challenge 119 = .ok (.getfield 34, 3) := by decide +kernel
theorem dX7_challenge_122 : decode cX7_challenge 122 = .ok (.iconst 1, 1) := by decide +kernel
theorem dX7_challenge_123 : decode cX7_challenge 123 = .ok (.iadd, 1) := by decide +kernel
theorem dX7_challenge_124 : decode cX7_challenge 124 = .ok (.putfield 34, 3) := by decide +kernel
theorem dX7_challenge_127 : decode cX7_challenge 127 = .ok (.aload_n 0, 1) := by decide +kernel
theorem dX7_challenge_128 : decode cX7_challenge 128 = .ok (.aload_n 0, 1) := by decide +kernel
theorem dX7_challenge_129 : decode cX7_challenge 129 = .ok (.invokevirtual 281, 3) := by decide +kernel
theorem dX7_challenge_132 : decode cX7_challenge 132 = .ok (.invokevirtual 169, 3) := by decide +kernel
theorem dX7_challenge_135 : decode cX7_challenge 135 = .ok (.ireturn, 1) := by decide +kernel
theorem dX7_closes_0 : decode cX7_closes 0 = .ok (.aload_n 0, 1) := by decide +kernel
theorem dX7_closes_1 : decode cX7_closes 1 = .ok (.getfield 91, 3) := by decide +kernel
theorem dX7_closes_4 : decode cX7_closes 4 = .ok (.iload_n 2, 1) := by decide +kernel
theorem dX7_closes_5 : decode cX7_closes 5 = .ok (.iconst 1, 1) := by decide +kernel
theorem dX7_closes_6 : decode cX7_closes 6 = .ok (.bastore, 1) := by decide +kernel
theorem dX7_closes_7 : decode cX7_closes 7 = .ok (.aload_n 0, 1) := by decide +kernel
theorem dX7_closes_8 : decode cX7_closes 8 = .ok (.iload_n 2, 1) := by decide +kernel
theorem dX7_closes_9 : decode cX7_closes 9 = .ok (.aload_n 0, 1) := by decide +kernel
theorem dX7_closes_10 : decode cX7_closes 10 = .ok (.getfield 81, 3) := by decide +kernel
theorem dX7_closes_13 : decode cX7_closes 13 = .ok (.iload_n 2, 1) := by decide +kernel
theorem dX7_closes_14 : decode cX7_closes 14 = .ok (.iaload, 1) := by decide +kernel
theorem dX7_closes_15 : decode cX7_closes 15 = .ok (.invokevirtual 196, 3) := by decide +kernel
theorem dX7_closes_18 : decode cX7_closes 18 = .ok (.ifCond .eq 37, 3) := by decide +kernel
theorem dX7_closes_21 : decode cX7_closes 21 = .ok (.aload_n 0, 1) := by decide +kernel
theorem dX7_closes_22 : decode cX7_closes 22 = .ok (.getfield 88, 3) := by decide +kernel
theorem dX7_closes_25 : decode cX7_closes 25 = .ok (.iload_n 2, 1) := by decide +kernel
theorem dX7_closes_26 : decode cX7_closes 26 = .ok (.bipush 115, 2) := by decide +kernel
theorem dX7_closes_28 : decode cX7_closes 28 = .ok (.castore, 1) := by decide +kernel
theorem dX7_closes_29 : decode cX7_closes 29 = .ok (.aload_n 0, 1) := by decide +kernel
theorem dX7_closes_30 : decode cX7_closes 30 = .ok (.getfield 116, 3) := by decide +kernel
theorem dX7_closes_33 : decode cX7_closes 33 = .ok (.iload_n 1, 1) := by decide +kernel
theorem dX7_closes_34 : decode cX7_closes 34 = .ok (.dup2, 1) := by decide +kernel
theorem dX7_closes_35 : decode cX7_closes 35 = .ok (.iaload, 1) := by decide +kernel
theorem dX7_closes_36 : decode cX7_closes 36 = .ok (.iconst 3, 1) := by decide +kernel
theorem dX7_closes_37 : decode cX7_closes 37 = .ok (.iadd, 1) := by decide +kernel
theorem dX7_closes_38 : decode cX7_closes 38 = .ok (.iastore, 1) := by decide +kernel
theorem dX7_closes_39 : decode cX7_closes 39 = .ok (.aload_n 0, 1) := by decide +kernel
theorem dX7_closes_40 : decode cX7_closes 40 = .ok (.invokevirtual 224, 3) := by decide +kernel
theorem dX7_closes_43 : decode cX7_closes 43 = .ok (.istore_n 3, 1) := by decide +kernel
theorem dX7_closes_44 : decode cX7_closes 44 = .ok (.iload_n 3, 1) := by decide +kernel
theorem dX7_closes_45 : decode cX7_closes 45 = .ok (.ifCond .lt 8, 3) := by decide +kernel
theorem dX7_closes_48 : decode cX7_closes 48 = .ok (.bipush 115, 2) := by decide +kernel
theorem dX7_closes_50 : decode cX7_closes 50 = .ok (.goto 4, 3) := by decide +kernel
theorem dX7_closes_53 : decode cX7_closes 53 = .ok (.iconst 0, 1) := by decide +kernel
theorem dX7_closes_54 : decode cX7_closes 54 = .ok (.ireturn, 1) := by decide +kernel
theorem dX7_closes_55 : decode cX7_closes 55 = .ok (.aload_n 0, 1) := by decide +kernel
theorem dX7_closes_56 : decode cX7_closes 56 = .ok (.iload_n 2, 1) := by decide +kernel
theorem dX7_closes_57 : decode cX7_closes 57 = .ok (.bipush 98, 2) := by decide +kernel
theorem dX7_closes_59 : decode cX7_closes 59 = .ok (.invokevirtual 239, 3) := by decide +kernel
theorem dX7_closes_62 : decode cX7_closes 62 = .ok (.aload_n 0, 1) := by decide +kernel
theorem dX7_closes_63 : decode cX7_closes 63 = .ok (.getfield 116, 3) := by decide +kernel
theorem dX7_closes_66 : decode cX7_closes 66 = .ok (.aload_n 0, 1) := by decide +kernel
theorem dX7_closes_67 : decode cX7_closes 67 = .ok (.getfield 107, 3) := by decide +kernel
theorem dX7_closes_70 : decode cX7_closes 70 = .ok (.iload_n 2, 1) := by decide +kernel
theorem dX7_closes_71 : decode cX7_closes 71 = .ok (.iaload, 1) := by decide +kernel
theorem dX7_closes_72 : decode cX7_closes 72 = .ok (.dup2, 1) := by decide +kernel
theorem dX7_closes_73 : decode cX7_closes 73 = .ok (.iaload, 1) := by decide +kernel
theorem dX7_closes_74 : decode cX7_closes 74 = .ok (.iconst 5, 1) := by decide +kernel
theorem dX7_closes_75 : decode cX7_closes 75 = .ok (.iadd, 1) := by decide +kernel
theorem dX7_closes_76 : decode cX7_closes 76 = .ok (.iastore, 1) := by decide +kernel
theorem dX7_closes_77 : decode cX7_closes 77 = .ok (.bipush 98, 2) := by decide +kernel
theorem dX7_closes_79 : decode cX7_closes 79 = .ok (.ireturn, 1) := by decide +kernel
theorem dX7_give_0 : decode cX7_give 0 = .ok (.aload_n 0, 1) := by decide +kernel
theorem dX7_give_1 : decode cX7_give 1 = .ok (.aload_n 0, 1) := by decide +kernel
theorem dX7_give_2 : decode cX7_give 2 = .ok (.iload_n 1, 1) := by decide +kernel
theorem dX7_give_3 : decode cX7_give 3 = .ok (.invokevirtual 214, 3) := by decide +kernel
theorem dX7_give_6 : decode cX7_give 6 = .ok (.ifCond .eq 11, 3) := by decide +kernel
theorem dX7_give_9 : decode cX7_give 9 = .ok (.aload_n 0, 1) := by decide +kernel
theorem dX7_give_10 : decode cX7_give 10 = .ok (.iload_n 2, 1) := by decide +kernel
theorem dX7_give_11 : decode cX7_give 11 = .ok (.invokevirtual 227, 3) := by decide +kernel
theorem dX7_give_14 : decode cX7_give 14 = .ok (.ifCond .ne 7, 3) := by decide +kernel
theorem dX7_give_17 : decode cX7_give 17 = .ok (.iconst 1, 1) := by decide +kernel
theorem dX7_give_18 : decode cX7_give 18 = .ok (.goto 32, 3) := by decide +kernel
theorem dX7_give_21 : decode cX7_give 21 = .ok (.aload_n 0, 1) := by decide +kernel
theorem dX7_give_22 : decode cX7_give 22 = .ok (.getfield 88, 3) := by decide +kernel
theorem dX7_give_25 : decode cX7_give 25 = .ok (.iload_n 2, 1) := by decide +kernel
theorem dX7_give_26 : decode cX7_give 26 = .ok (.caload, 1) := by decide +kernel
theorem dX7_give_27 : decode cX7_give 27 = .ok (.bipush 99, 2) := by decide +kernel
theorem dX7_give_29 : decode cX7_give 29 = .ok (.if_icmp .eq 7, 3) := by decide +kernel
theorem dX7_give_32 : decode cX7_give 32 = .ok (.iconst 2, 1) := by decide +kernel
theorem dX7_give_33 : decode cX7_give 33 = .ok (.goto 17, 3) := by decide +kernel
theorem dX7_give_36 : decode cX7_give 36 = .ok (.aload_n 0, 1) := by decide +kernel
theorem dX7_give_37 : decode cX7_give 37 = .ok (.iload_n 1, 1) := by decide +kernel
theorem dX7_give_38 : decode cX7_give 38 = .ok (.iload_n 2, 1) := by decide +kernel
theorem dX7_give_39 : decode cX7_give 39 = .ok (.invokevirtual 284, 3) := by decide +kernel
theorem dX7_give_42 : decode cX7_give 42 = .ok (.ifCond .ne 7, 3) := by decide +kernel
theorem dX7_give_45 : decode cX7_give 45 = .ok (.iconst 3, 1) := by decide +kernel
theorem dX7_give_46 : decode cX7_give 46 = .ok (.goto 4, 3) := by decide +kernel
theorem dX7_give_49 : decode cX7_give 49 = .ok (.iconst 0, 1) := by decide +kernel
theorem dX7_give_50 : decode cX7_give 50 = .ok (.putfield 37, 3) := by decide +kernel
theorem dX7_give_53 : decode cX7_give 53 = .ok (.aload_n 0, 1) := by decide +kernel
theorem dX7_give_54 : decode cX7_give 54 = .ok (.getfield 37, 3) := by decide +kernel
theorem dX7_give_57 : decode cX7_give 57 = .ok (.ifCond .le 7, 3) := by decide +kernel
theorem dX7_give_60 : decode cX7_give 60 = .ok (.iconst 0, 1) := by decide +kernel
theorem dX7_give_61 : decode cX7_give 61 = .ok (.goto 9, 3) := by decide +kernel
theorem dX7_give_64 : decode cX7_give 64 = .ok (.aload_n 0, 1) := by decide +kernel
theorem dX7_give_65 : decode cX7_give 65 = .ok (.iload_n 1, 1) := by decide +kernel
theorem dX7_give_66 : decode cX7_give 66 = .ok (.iload_n 2, 1) := by decide +kernel
theorem dX7_give_67 : decode cX7_give 67 = .ok (.invokevirtual 287, 3) := by decide +kernel
theorem dX7_give_70 : decode cX7_give 70 = .ok (.ireturn, 1) := by decide +kernel
theorem dX7_isBody_0 : decode cX7_isBody 0 = .ok (.aload_n 0, 1) := by decide +kernel
theorem dX7_isBody_1 : decode cX7_isBody 1 = .ok (.bipush 40, 2) := by decide +kernel
theorem dX7_isBody_3 : decode cX7_isBody 3 = .ok (.invokevirtual 220, 3) := by decide +kernel
theorem dX7_isBody_6 : decode cX7_isBody 6 = .ok (.aload_n 0, 1) := by decide +kernel
theorem dX7_isBody_7 : decode cX7_isBody 7 = .ok (.getfield 84, 3) := by decide +kernel
theorem dX7_isBody_10 : decode cX7_isBody 10 = .ok (.iload_n 1, 1) := by decide +kernel
theorem dX7_isBody_11 : decode cX7_isBody 11 = .ok (.laload, 1) := by decide +kernel
theorem dX7_isBody_12 : decode cX7_isBody 12 = .ok (.lcmp, 1) := by decide +kernel
theorem dX7_isBody_13 : decode cX7_isBody 13 = .ok (.ifCond .ne 23, 3) := by decide +kernel
theorem dX7_isBody_16 : decode cX7_isBody 16 = .ok (.aload_n 0, 1) := by decide +kernel
theorem dX7_isBody_17 : decode cX7_isBody 17 = .ok (.getfield 48, 3) := by decide +kernel
theorem dX7_isBody_20 : decode cX7_isBody 20 = .ok (.bipush 40, 2) := by decide +kernel
theorem dX7_isBody_22 : decode cX7_isBody 22 = .ok (.iaload, 1) := by decide +kernel
theorem dX7_isBody_23 : decode cX7_isBody 23 = .ok (.aload_n 0, 1) := by decide +kernel
theorem dX7_isBody_24 : decode cX7_isBody 24 = .ok (.getfield 48, 3) := by decide +kernel
theorem dX7_isBody_27 : decode cX7_isBody 27 = .ok (.iload_n 1, 1) := by decide +kernel
theorem dX7_isBody_28 : decode cX7_isBody 28 = .ok (.iaload, 1) := by decide +kernel
theorem dX7_isBody_29 : decode cX7_isBody 29 = .ok (.if_icmp .ne 7, 3) := by decide +kernel
theorem dX7_isBody_32 : decode cX7_isBody 32 = .ok (.iconst 1, 1) := by decide +kernel
theorem dX7_isBody_33 : decode cX7_isBody 33 = .ok (.goto 4, 3) := by decide +kernel
theorem dX7_isBody_36 : decode cX7_isBody 36 = .ok (.iconst 0, 1) := by decide +kernel
theorem dX7_isBody_37 : decode cX7_isBody 37 = .ok (.istore_n 2, 1) := by decide +kernel
theorem dX7_isBody_38 : decode cX7_isBody 38 = .ok (.iconst 0, 1) := by decide +kernel
theorem dX7_isBody_39 : decode cX7_isBody 39 = .ok (.istore_n 3, 1) := by decide +kernel
theorem dX7_isBody_40 : decode cX7_isBody 40 = .ok (.iload_n 3, 1) := by decide +kernel
theorem dX7_isBody_41 : decode cX7_isBody 41 = .ok (.aload_n 0, 1) := by decide +kernel
theorem dX7_isBody_42 : decode cX7_isBody 42 = .ok (.getfield 60, 3) := by decide +kernel
theorem dX7_isBody_45 : decode cX7_isBody 45 = .ok (.aload_n 0, 1) := by decide +kernel
theorem dX7_isBody_46 : decode cX7_isBody 46 = .ok (.getfield 81, 3) := by decide +kernel
theorem dX7_isBody_49 : decode cX7_isBody 49 = .ok (.iload_n 1, 1) := by decide +kernel
theorem dX7_isBody_50 : decode cX7_isBody 50 = .ok (.iaload, 1) := by decide +kernel
theorem dX7_isBody_51 : decode cX7_isBody 51 = .ok (.iaload, 1) := by decide +kernel
theorem dX7_isBody_52 : decode cX7_isBody 52 = .ok (.if_icmp .ge 107, 3) := by decide +kernel
theorem dX7_isBody_55 : decode cX7_isBody 55 = .ok (.iload_n 2, 1) := by decide +kernel
theorem dX7_isBody_56 : decode cX7_isBody 56 = .ok (.ifCond .eq 103, 3) := by decide +kernel
theorem dX7_isBody_59 : decode cX7_isBody 59 = .ok (.iconst 5, 1) := by decide +kernel
theorem dX7_isBody_60 : decode cX7_isBody 60 = .ok (.iload_n 1, 1) := by decide +kernel
theorem dX7_isBody_61 : decode cX7_isBody 61 = .ok (.imul, 1) := by decide +kernel
theorem dX7_isBody_62 : decode cX7_isBody 62 = .ok (.iload_n 3, 1) := by decide +kernel
theorem dX7_isBody_63 : decode cX7_isBody 63 = .ok (.iadd, 1) := by decide +kernel
theorem dX7_isBody_64 : decode cX7_isBody 64 = .ok (.istore 4, 2) := by decide +kernel
theorem dX7_isBody_66 : decode cX7_isBody 66 = .ok (.iconst 5, 1) := by decide +kernel
theorem dX7_isBody_67 : decode cX7_isBody 67 = .ok (.aload_n 0, 1) := by decide +kernel
theorem dX7_isBody_68 : decode cX7_isBody 68 = .ok (.getfield 81, 3) := by decide +kernel
theorem dX7_isBody_71 : decode cX7_isBody 71 = .ok (.iload_n 1, 1) := by decide +kernel
theorem dX7_isBody_72 : decode cX7_isBody 72 = .ok (.iaload, 1) := by decide +kernel
theorem dX7_isBody_73 : decode cX7_isBody 73 = .ok (.imul, 1) := by decide +kernel
theorem dX7_isBody_74 : decode cX7_isBody 74 = .ok (.iload_n 3, 1) := by decide +kernel
theorem dX7_isBody_75 : decode cX7_isBody 75 = .ok (.iadd, 1) := by decide +kernel
theorem dX7_isBody_76 : decode cX7_isBody 76 = .ok (.istore 5, 2) := by decide +kernel
theorem dX7_isBody_78 : decode cX7_isBody 78 = .ok (.aload_n 0, 1) := by decide +kernel
theorem dX7_isBody_79 : decode cX7_isBody 79 = .ok (.getfield 95, 3) := by decide +kernel
theorem dX7_isBody_82 : decode cX7_isBody 82 = .ok (.iload 4, 2) := by decide +kernel
theorem dX7_isBody_84 : decode cX7_isBody 84 = .ok (.iaload, 1) := by decide +kernel
theorem dX7_isBody_85 : decode cX7_isBody 85 = .ok (.iconst (-1), 1) := by decide +kernel
theorem dX7_isBody_86 : decode cX7_isBody 86 = .ok (.if_icmp .eq 24, 3) := by decide +kernel
theorem dX7_isBody_89 : decode cX7_isBody 89 = .ok (.aload_n 0, 1) := by decide +kernel
theorem dX7_isBody_90 : decode cX7_isBody 90 = .ok (.getfield 98, 3) := by decide +kernel
theorem dX7_isBody_93 : decode cX7_isBody 93 = .ok (.iload 4, 2) := by decide +kernel
theorem dX7_isBody_95 : decode cX7_isBody 95 = .ok (.iaload, 1) := by decide +kernel
theorem dX7_isBody_96 : decode cX7_isBody 96 = .ok (.aload_n 0, 1) := by decide +kernel
theorem dX7_isBody_97 : decode cX7_isBody 97 = .ok (.getfield 75, 3) := by decide +kernel
theorem dX7_isBody_100 : decode cX7_isBody 100 = .ok (.iload 5, 2) := by decide +kernel
theorem dX7_isBody_102 : decode cX7_isBody 102 = .ok (.iaload, 1) := by decide +kernel
theorem dX7_isBody_103 : decode cX7_isBody 103 = .ok (.if_icmp .ne 7, 3) := by decide +kernel
theorem dX7_isBody_106 : decode cX7_isBody 106 = .ok (.iconst 1, 1) := by decide +kernel
theorem dX7_isBody_107 : decode cX7_isBody 107 = .ok (.goto 4, 3) := by decide +kernel
theorem dX7_isBody_110 : decode cX7_isBody 110 = .ok (.iconst 0, 1) := by decide +kernel
theorem dX7_isBody_111 : decode cX7_isBody 111 = .ok (.istore 6, 2) := by decide +kernel
theorem dX7_isBody_113 : decode cX7_isBody 113 = .ok (.aload_n 0, 1) := by decide +kernel
theorem dX7_isBody_114 : decode cX7_isBody 114 = .ok (.bipush 40, 2) := by decide +kernel
theorem dX7_isBody_116 : decode cX7_isBody 116 = .ok (.iload 5, 2) := by decide +kernel
theorem dX7_isBody_118 : decode cX7_isBody 118 = .ok (.invokevirtual 200, 3) := by decide +kernel
theorem dX7_isBody_121 : decode cX7_isBody 121 = .ok (.istore 7, 2) := by decide +kernel
theorem dX7_isBody_123 : decode cX7_isBody 123 = .ok (.iload 6, 2) := by decide +kernel
theorem dX7_isBody_125 : decode cX7_isBody 125 = .ok (.ifCond .eq 22, 3) := by decide +kernel
theorem dX7_isBody_128 : decode cX7_isBody 128 = .ok (.iload 7, 2) := by decide +kernel
theorem dX7_isBody_130 : decode cX7_isBody 130 = .ok (.ifCond .le 21, 3) := by decide +kernel
theorem dX7_isBody_133 : decode cX7_isBody 133 = .ok (.aload_n 0, 1) := by decide +kernel
theorem dX7_isBody_134 : decode cX7_isBody 134 = .ok (.getfield 134, 3) := by decide +kernel
theorem dX7_isBody_137 : decode cX7_isBody 137 = .ok (.aload_n 0, 1) := by decide +kernel
theorem dX7_isBody_138 : decode cX7_isBody 138 = .ok (.getfield 95, 3) := by decide +kernel
theorem dX7_isBody_141 : decode cX7_isBody 141 = .ok (.iload 4, 2) := by decide +kernel
theorem dX7_isBody_143 : decode cX7_isBody 143 = .ok (.iaload, 1) := by decide +kernel
theorem dX7_isBody_144 : decode cX7_isBody 144 = .ok (.if_icmp .ne 7, 3) := by decide +kernel
theorem dX7_isBody_147 : decode cX7_isBody 147 = .ok (.iconst 1, 1) := by decide +kernel
theorem dX7_isBody_148 : decode cX7_isBody 148 = .ok (.goto 4, 3) := by decide +kernel
theorem dX7_isBody_151 : decode cX7_isBody 151 = .ok (.iconst 0, 1) := by decide +kernel
theorem dX7_isBody_152 : decode cX7_isBody 152 = .ok (.istore_n 2, 1) := by decide +kernel
theorem dX7_isBody_153 : decode cX7_isBody 153 = .ok (.iinc 3 1, 3) := by decide +kernel
theorem dX7_isBody_156 : decode cX7_isBody 156 = .ok (.goto (-116), 3) := by decide +kernel
theorem dX7_isBody_159 : decode cX7_isBody 159 = .ok (.iload_n 2, 1) := by decide +kernel
theorem dX7_isBody_160 : decode cX7_isBody 160 = .ok (.ireturn, 1) := by decide +kernel
theorem dX7_answer_0 : decode cX7_answer 0 = .ok (.aload_n 0, 1) := by decide +kernel
theorem dX7_answer_1 : decode cX7_answer 1 = .ok (.aload_n 0, 1) := by decide +kernel
theorem dX7_answer_2 : decode cX7_answer 2 = .ok (.iload_n 1, 1) := by decide +kernel
theorem dX7_answer_3 : decode cX7_answer 3 = .ok (.invokevirtual 214, 3) := by decide +kernel
theorem dX7_answer_6 : decode cX7_answer 6 = .ok (.ifCond .eq 11, 3) := by decide +kernel
theorem dX7_answer_9 : decode cX7_answer 9 = .ok (.aload_n 0, 1) := by decide +kernel
theorem dX7_answer_10 : decode cX7_answer 10 = .ok (.iload_n 2, 1) := by decide +kernel
theorem dX7_answer_11 : decode cX7_answer 11 = .ok (.invokevirtual 227, 3) := by decide +kernel
theorem dX7_answer_14 : decode cX7_answer 14 = .ok (.ifCond .ne 7, 3) := by decide +kernel
theorem dX7_answer_17 : decode cX7_answer 17 = .ok (.iconst 1, 1) := by decide +kernel
theorem dX7_answer_18 : decode cX7_answer 18 = .ok (.goto 28, 3) := by decide +kernel
theorem dX7_answer_21 : decode cX7_answer 21 = .ok (.aload_n 0, 1) := by decide +kernel
theorem dX7_answer_22 : decode cX7_answer 22 = .ok (.getfield 88, 3) := by decide +kernel
theorem dX7_answer_25 : decode cX7_answer 25 = .ok (.iload_n 2, 1) := by decide +kernel
theorem dX7_answer_26 : decode cX7_answer 26 = .ok (.caload, 1) := by decide +kernel
theorem dX7_answer_27 : decode cX7_answer 27 = .ok (.bipush 99, 2) := by decide +kernel
theorem dX7_answer_29 : decode cX7_answer 29 = .ok (.if_icmp .ne 12, 3) := by decide +kernel
theorem dX7_answer_32 : decode cX7_answer 32 = .ok (.aload_n 0, 1) := by decide +kernel
theorem dX7_answer_33 : decode cX7_answer 33 = .ok (.bipush 40, 2) := by decide +kernel
theorem dX7_answer_35 : decode cX7_answer 35 = .ok (.invokevirtual 211, 3) := by decide +kernel
theorem dX7_answer_38 : decode cX7_answer 38 = .ok (.ifCond .ne 7, 3) := by decide +kernel
theorem dX7_answer_41 : decode cX7_answer 41 = .ok (.iconst 2, 1) := by decide +kernel
theorem dX7_answer_42 : decode cX7_answer 42 = .ok (.goto 4, 3) := by decide +kernel
theorem dX7_answer_45 : decode cX7_answer 45 = .ok (.iconst 0, 1) := by decide +kernel
theorem dX7_answer_46 : decode cX7_answer 46 = .ok (.putfield 37, 3) := by decide +kernel
theorem dX7_answer_49 : decode cX7_answer 49 = .ok (.aload_n 0, 1) := by decide +kernel
theorem dX7_answer_50 : decode cX7_answer 50 = .ok (.getfield 37, 3) := by decide +kernel
theorem dX7_answer_53 : decode cX7_answer 53 = .ok (.ifCond .le 5, 3) := by decide +kernel
theorem dX7_answer_56 : decode cX7_answer 56 = .ok (.iconst 0, 1) := by decide +kernel
theorem dX7_answer_57 : decode cX7_answer 57 = .ok (.ireturn, 1) := by decide +kernel
theorem dX7_answer_58 : decode cX7_answer 58 = .ok (.aload_n 0, 1) := by decide +kernel
theorem dX7_answer_59 : decode cX7_answer 59 = .ok (.iload_n 2, 1) := by decide +kernel
theorem dX7_answer_60 : decode cX7_answer 60 = .ok (.invokevirtual 290, 3) := by decide +kernel
theorem dX7_answer_63 : decode cX7_answer 63 = .ok (.ifCond .ne 6, 3) := by decide +kernel
theorem dX7_answer_66 : decode cX7_answer 66 = .ok (.bipush 45, 2) := by decide +kernel
theorem dX7_answer_68 : decode cX7_answer 68 = .ok (.ireturn, 1) := by decide +kernel
theorem dX7_answer_69 : decode cX7_answer 69 = .ok (.aload_n 0, 1) := by decide +kernel
theorem dX7_answer_70 : decode cX7_answer 70 = .ok (.bipush 40, 2) := by decide +kernel
theorem dX7_answer_72 : decode cX7_answer 72 = .ok (.iload_n 2, 1) := by decide +kernel
theorem dX7_answer_73 : decode cX7_answer 73 = .ok (.invokevirtual 217, 3) := by decide +kernel
theorem dX7_answer_76 : decode cX7_answer 76 = .ok (.aload_n 0, 1) := by decide +kernel
theorem dX7_answer_77 : decode cX7_answer 77 = .ok (.iload_n 1, 1) := by decide +kernel
theorem dX7_answer_78 : decode cX7_answer 78 = .ok (.iload_n 2, 1) := by decide +kernel
theorem dX7_answer_79 : decode cX7_answer 79 = .ok (.invokevirtual 287, 3) := by decide +kernel
theorem dX7_answer_82 : decode cX7_answer 82 = .ok (.ireturn, 1) := by decide +kernel
theorem dX7_open_0 : decode cX7_open 0 = .ok (.iconst 0, 1) := by decide +kernel
theorem dX7_open_1 : decode cX7_open 1 = .ok (.istore_n 2, 1) := by decide +kernel
theorem dX7_open_2 : decode cX7_open 2 = .ok (.iload_n 2, 1) := by decide +kernel
theorem dX7_open_3 : decode cX7_open 3 = .ok (.aload_n 0, 1) := by decide +kernel
theorem dX7_open_4 : decode cX7_open 4 = .ok (.getfield 25, 3) := by decide +kernel
theorem dX7_open_7 : decode cX7_open 7 = .ok (.if_icmp .ge 131, 3) := by decide +kernel
theorem dX7_open_10 : decode cX7_open 10 = .ok (.iconst 0, 1) := by decide +kernel
theorem dX7_open_11 : decode cX7_open 11 = .ok (.istore_n 3, 1) := by decide +kernel
theorem dX7_open_12 : decode cX7_open 12 = .ok (.iconst 0, 1) := by decide +kernel
theorem dX7_open_13 : decode cX7_open 13 = .ok (.istore 4, 2) := by decide +kernel
theorem dX7_open_15 : decode cX7_open 15 = .ok (.iload 4, 2) := by decide +kernel
theorem dX7_open_17 : decode cX7_open 17 = .ok (.aload_n 0, 1) := by decide +kernel
theorem dX7_open_18 : decode cX7_open 18 = .ok (.getfield 25, 3) := by decide +kernel
theorem dX7_open_21 : decode cX7_open 21 = .ok (.if_icmp .ge 89, 3) := by decide +kernel
theorem dX7_open_24 : decode cX7_open 24 = .ok (.aload_n 0, 1) := by decide +kernel
theorem dX7_open_25 : decode cX7_open 25 = .ok (.getfield 110, 3) := by decide +kernel
theorem dX7_open_28 : decode cX7_open 28 = .ok (.iload 4, 2) := by decide +kernel
theorem dX7_open_30 : decode cX7_open 30 = .ok (.iaload, 1) := by decide +kernel
theorem dX7_open_31 : decode cX7_open 31 = .ok (.aload_n 0, 1) := by decide +kernel
theorem dX7_open_32 : decode cX7_open 32 = .ok (.getfield 110, 3) := by decide +kernel
theorem dX7_open_35 : decode cX7_open 35 = .ok (.iload_n 2, 1) := by decide +kernel
theorem dX7_open_36 : decode cX7_open 36 = .ok (.iaload, 1) := by decide +kernel
theorem dX7_open_37 : decode cX7_open 37 = .ok (.if_icmp .lt 35, 3) := by decide +kernel
theorem dX7_open_40 : decode cX7_open 40 = .ok (.aload_n 0, 1) := by decide +kernel
theorem dX7_open_41 : decode cX7_open 41 = .ok (.getfield 110, 3) := by decide +kernel
theorem dX7_open_44 : decode cX7_open 44 = .ok (.iload 4, 2) := by decide +kernel
theorem dX7_open_46 : decode cX7_open 46 = .ok (.iaload, 1) := by decide +kernel
theorem dX7_open_47 : decode cX7_open 47 = .ok (.aload_n 0, 1) := by decide +kernel
theorem dX7_open_48 : decode cX7_open 48 = .ok (.getfield 110, 3) := by decide +kernel
theorem dX7_open_51 : decode cX7_open 51 = .ok (.iload_n 2, 1) := by decide +kernel
theorem dX7_open_52 : decode cX7_open 52 = .ok (.iaload, 1) := by decide +kernel
theorem dX7_open_53 : decode cX7_open 53 = .ok (.if_icmp .ne 23, 3) := by decide +kernel
theorem dX7_open_56 : decode cX7_open 56 = .ok (.aload_n 0, 1) := by decide +kernel
theorem dX7_open_57 : decode cX7_open 57 = .ok (.getfield 113, 3) := by decide +kernel
theorem dX7_open_60 : decode cX7_open 60 = .ok (.iload 4, 2) := by decide +kernel
theorem dX7_open_62 : decode cX7_open 62 = .ok (.iaload, 1) := by decide +kernel
theorem dX7_open_63 : decode cX7_open 63 = .ok (.aload_n 0, 1) := by decide +kernel
theorem dX7_open_64 : decode cX7_open 64 = .ok (.getfield 113, 3) := by decide +kernel
theorem dX7_open_67 : decode cX7_open 67 = .ok (.iload_n 2, 1) := by decide +kernel
theorem dX7_open_68 : decode cX7_open 68 = .ok (.iaload, 1) := by decide +kernel
theorem dX7_open_69 : decode cX7_open 69 = .ok (.if_icmp .ge 7, 3) := by decide +kernel
theorem dX7_open_72 : decode cX7_open 72 = .ok (.iconst 1, 1) := by decide +kernel
theorem dX7_open_73 : decode cX7_open 73 = .ok (.goto 4, 3) := by decide +kernel
theorem dX7_open_76 : decode cX7_open 76 = .ok (.iconst 0, 1) := by decide +kernel
theorem dX7_open_77 : decode cX7_open 77 = .ok (.istore 5, 2) := by decide +kernel
theorem dX7_open_79 : decode cX7_open 79 = .ok (.iload_n 3, 1) := by decide +kernel
theorem dX7_open_80 : decode cX7_open 80 = .ok (.aload_n 0, 1) := by decide +kernel
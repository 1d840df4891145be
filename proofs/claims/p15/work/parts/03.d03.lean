theorem dX6_review_15 : decode cX6_review 15 = .ok (.if_icmp .ge 70, 3) := by decide +kernel
theorem dX6_review_18 : decode cX6_review 18 = .ok (.aload_n 0, 1) := by decide +kernel
theorem dX6_review_19 : decode cX6_review 19 = .ok (.getfield 37, 3) := by decide +kernel
theorem dX6_review_22 : decode cX6_review 22 = .ok (.iload_n 3, 1) := by decide +kernel
theorem dX6_review_23 : decode cX6_review 23 = .ok (.aaload, 1) := by decide +kernel
theorem dX6_review_24 : decode cX6_review 24 = .ok (.astore 4, 2) := by decide +kernel
theorem dX6_review_26 : decode cX6_review 26 = .ok (.iload_n 1, 1) := by decide +kernel
theorem dX6_review_27 : decode cX6_review 27 = .ok (.aload 4, 2) := by decide +kernel
theorem dX6_review_29 : decode cX6_review 29 = .ok (.invokestatic 289, 3) := by decide +kernel
theorem dX6_review_32 : decode cX6_review 32 = .ok (.ifCond .eq 17, 3) := by decide +kernel
theorem dX6_review_35 : decode cX6_review 35 = .ok (.aload 4, 2) := by decide +kernel
theorem dX6_review_37 : decode cX6_review 37 = .ok (.getfield 312, 3) := by decide +kernel
theorem dX6_review_40 : decode cX6_review 40 = .ok (.iload_n 1, 1) := by decide +kernel
theorem dX6_review_41 : decode cX6_review 41 = .ok (.iaload, 1) := by decide +kernel
theorem dX6_review_42 : decode cX6_review 42 = .ok (.ifCond .ne 7, 3) := by decide +kernel
theorem dX6_review_45 : decode cX6_review 45 = .ok (.iconst 1, 1) := by decide +kernel
theorem dX6_review_46 : decode cX6_review 46 = .ok (.goto 4, 3) := by decide +kernel
theorem dX6_review_49 : decode cX6_review 49 = .ok (.iconst 0, 1) := by decide +kernel
theorem dX6_review_50 : decode cX6_review 50 = .ok (.istore 5, 2) := by decide +kernel
theorem dX6_review_52 : decode cX6_review 52 = .ok (.iload 5, 2) := by decide +kernel
theorem dX6_review_54 : decode cX6_review 54 = .ok (.ifCond .eq 25, 3) := by decide +kernel
theorem dX6_review_57 : decode cX6_review 57 = .ok (.iload_n 2, 1) := by decide +kernel
theorem dX6_review_58 : decode cX6_review 58 = .ok (.iconst (-1), 1) := by decide +kernel
theorem dX6_review_59 : decode cX6_review 59 = .ok (.if_icmp .eq 18, 3) := by decide +kernel
theorem dX6_review_62 : decode cX6_review 62 = .ok (.aload_n 0, 1) := by decide +kernel
theorem dX6_review_63 : decode cX6_review 63 = .ok (.aload 4, 2) := by decide +kernel
theorem dX6_review_65 : decode cX6_review 65 = .ok (.aload_n 0, 1) := by decide +kernel
theorem dX6_review_66 : decode cX6_review 66 = .ok (.getfield 37, 3) := by decide +kernel
theorem dX6_review_69 : decode cX6_review 69 = .ok (.iload_n 2, 1) := by decide +kernel
theorem dX6_review_70 : decode cX6_review 70 = .ok (.aaload, 1) := by decide +kernel
theorem dX6_review_71 : decode cX6_review 71 = .ok (.invokevirtual 315, 3) := by decide +kernel
theorem dX6_review_74 : decode cX6_review 74 = .ok (.ifCond .eq 5, 3) := by decide +kernel
theorem dX6_review_77 : decode cX6_review 77 = .ok (.iload_n 3, 1) := by decide +kernel
theorem dX6_review_78 : decode cX6_review 78 = .ok (.istore_n 2, 1) := by decide +kernel
theorem dX6_review_79 : decode cX6_review 79 = .ok (.iinc 3 1, 3) := by decide +kernel
theorem dX6_review_82 : decode cX6_review 82 = .ok (.goto (-72), 3) := by decide +kernel
theorem dX6_review_85 : decode cX6_review 85 = .ok (.iload_n 2, 1) := by decide +kernel
theorem dX6_review_86 : decode cX6_review 86 = .ok (.iconst (-1), 1) := by decide +kernel
theorem dX6_review_87 : decode cX6_review 87 = .ok (.if_icmp .ne 14, 3) := by decide +kernel
theorem dX6_review_90 : decode cX6_review 90 = .ok (.new 186, 3) := by decide +kernel
theorem dX6_review_93 : decode cX6_review 93 = .ok (.dup, 1) := by decide +kernel
theorem dX6_review_94 : decode cX6_review 94 = .ok (.ldc_w 319, 3) := by decide +kernel
theorem dX6_review_97 : decode cX6_review 97 = .ok (.invokespecial 190, 3) := by decide +kernel
theorem dX6_review_100 : decode cX6_review 100 = .ok (.athrow, 1) := by decide +kernel
theorem dX6_review_101 : decode cX6_review 101 = .ok (.iload_n 2, 1) := by decide +kernel
theorem dX6_review_102 : decode cX6_review 102 = .ok (.ireturn, 1) := by decide +kernel
theorem dX6_best_0 : decode cX6_best 0 = .ok (.aload_n 0, 1) := by decide +kernel
theorem dX6_best_1 : decode cX6_best 1 = .ok (.iload_n 1, 1) := by decide +kernel
theorem dX6_best_2 : decode cX6_best 2 = .ok (.invokevirtual 199, 3) := by decide +kernel
theorem dX6_best_5 : decode cX6_best 5 = .ok (.pop, 1) := by decide +kernel
theorem dX6_best_6 : decode cX6_best 6 = .ok (.aload_n 0, 1) := by decide +kernel
theorem dX6_best_7 : decode cX6_best 7 = .ok (.iload_n 2, 1) := by decide +kernel
theorem dX6_best_8 : decode cX6_best 8 = .ok (.invokevirtual 142, 3) := by decide +kernel
theorem dX6_best_11 : decode cX6_best 11 = .ok (.pop, 1) := by decide +kernel
theorem dX6_best_12 : decode cX6_best 12 = .ok (.aload_n 0, 1) := by decide +kernel
theorem dX6_best_13 : decode cX6_best 13 = .ok (.iload_n 1, 1) := by decide +kernel
theorem dX6_best_14 : decode cX6_best 14 = .ok (.invokevirtual 321, 3) := by decide +kernel
theorem dX6_best_17 : decode cX6_best 17 = .ok (.aload_n 0, 1) := by decide +kernel
theorem dX6_best_18 : decode cX6_best 18 = .ok (.getfield 45, 3) := by decide +kernel
theorem dX6_best_21 : decode cX6_best 21 = .ok (.iload_n 2, 1) := by decide +kernel
theorem dX6_best_22 : decode cX6_best 22 = .ok (.iaload, 1) := by decide +kernel
theorem dX6_best_23 : decode cX6_best 23 = .ok (.iconst (-1), 1) := by decide +kernel
theorem dX6_best_24 : decode cX6_best 24 = .ok (.if_icmp .ne 14, 3) := by decide +kernel
theorem dX6_best_27 : decode cX6_best 27 = .ok (.new 186, 3) := by decide +kernel
theorem dX6_best_30 : decode cX6_best 30 = .ok (.dup, 1) := by decide +kernel
theorem dX6_best_31 : decode cX6_best 31 = .ok (.ldc_w 325, 3) := by decide +kernel
theorem dX6_best_34 : decode cX6_best 34 = .ok (.invokespecial 190, 3) := by decide +kernel
theorem dX6_best_37 : decode cX6_best 37 = .ok (.athrow, 1) := by decide +kernel
theorem dX6_best_38 : decode cX6_best 38 = .ok (.aload_n 0, 1) := by decide +kernel
theorem dX6_best_39 : decode cX6_best 39 = .ok (.getfield 45, 3) := by decide +kernel
theorem dX6_best_42 : decode cX6_best 42 = .ok (.iload_n 2, 1) := by decide +kernel
theorem dX6_best_43 : decode cX6_best 43 = .ok (.iaload, 1) := by decide +kernel
theorem dX6_best_44 : decode cX6_best 44 = .ok (.ireturn, 1) := by decide +kernel
theorem dX6_points_0 : decode cX6_points 0 = .ok (.aload_n 0, 1) := by decide +kernel
theorem dX6_points_1 : decode cX6_points 1 = .ok (.iload_n 1, 1) := by decide +kernel
theorem dX6_points_2 : decode cX6_points 2 = .ok (.invokevirtual 199, 3) := by decide +kernel
theorem dX6_points_5 : decode cX6_points 5 = .ok (.pop, 1) := by decide +kernel
theorem dX6_points_6 : decode cX6_points 6 = .ok (.aload_n 0, 1) := by decide +kernel
theorem dX6_points_7 : decode cX6_points 7 = .ok (.iload_n 1, 1) := by decide +kernel
theorem dX6_points_8 : decode cX6_points 8 = .ok (.invokevirtual 327, 3) := by decide +kernel
theorem dX6_points_11 : decode cX6_points 11 = .ok (.freturn, 1) := by decide +kernel
theorem dX6_belt_0 : decode cX6_belt 0 = .ok (.aload_n 0, 1) := by decide +kernel
theorem dX6_belt_1 : decode cX6_belt 1 = .ok (.iload_n 1, 1) := by decide +kernel
theorem dX6_belt_2 : decode cX6_belt 2 = .ok (.invokevirtual 199, 3) := by decide +kernel
theorem dX6_belt_5 : decode cX6_belt 5 = .ok (.pop, 1) := by decide +kernel
theorem dX6_belt_6 : decode cX6_belt 6 = .ok (.aload_n 0, 1) := by decide +kernel
theorem dX6_belt_7 : decode cX6_belt 7 = .ok (.iload_n 1, 1) := by decide +kernel
theorem dX6_belt_8 : decode cX6_belt 8 = .ok (.invokevirtual 295, 3) := by decide +kernel
theorem dX6_belt_11 : decode cX6_belt 11 = .ok (.ireturn, 1) := by decide +kernel
theorem dX6_honour_0 : decode cX6_honour 0 = .ok (.aload_n 0, 1) := by decide +kernel
theorem dX6_honour_1 : decode cX6_honour 1 = .ok (.iload_n 1, 1) := by decide +kernel
theorem dX6_honour_2 : decode cX6_honour 2 = .ok (.invokevirtual 199, 3) := by decide +kernel
theorem dX6_honour_5 : decode cX6_honour 5 = .ok (.getfield 331, 3) := by decide +kernel
theorem dX6_honour_8 : decode cX6_honour 8 = .ok (.ireturn, 1) := by decide +kernel
theorem dX6_ranked_0 : decode cX6_ranked 0 = .ok (.iconst 0, 1) := by decide +kernel
theorem dX6_ranked_1 : decode cX6_ranked 1 = .ok (.istore_n 2, 1) := by decide +kernel
theorem dX6_ranked_2 : decode cX6_ranked 2 = .ok (.iload_n 2, 1) := by decide +kernel
theorem dX6_ranked_3 : decode cX6_ranked 3 = .ok (.aload_n 0, 1) := by decide +kernel
theorem dX6_ranked_4 : decode cX6_ranked 4 = .ok (.getfield 62, 3) := by decide +kernel
theorem dX6_ranked_7 : decode cX6_ranked 7 = .ok (.if_icmp .ge 54, 3) := by decide +kernel
theorem dX6_ranked_10 : decode cX6_ranked 10 = .ok (.iconst 0, 1) := by decide +kernel
theorem dX6_ranked_11 : decode cX6_ranked 11 = .ok (.istore_n 3, 1) := by decide +kernel
theorem dX6_ranked_12 : decode cX6_ranked 12 = .ok (.iconst 0, 1) := by decide +kernel
theorem dX6_ranked_13 : decode cX6_ranked 13 = .ok (.istore 4, 2) := by decide +kernel
theorem dX6_ranked_15 : decode cX6_ranked 15 = .ok (.iload 4, 2) := by decide +kernel
theorem dX6_ranked_17 : decode cX6_ranked 17 = .ok (.aload_n 0, 1) := by decide +kernel
theorem dX6_ranked_18 : decode cX6_ranked 18 = .ok (.getfield 62, 3) := by decide +kernel
theorem dX6_ranked_21 : decode cX6_ranked 21 = .ok (.if_icmp .ge 27, 3) := by decide +kernel
theorem dX6_ranked_24 : decode cX6_ranked 24 = .ok (.iload_n 3, 1) := by decide +kernel
theorem dX6_ranked_25 : decode cX6_ranked 25 = .ok (.aload_n 0, 1) := by decide +kernel
theorem dX6_ranked_26 : decode cX6_ranked 26 = .ok (.iload 4, 2) := by decide +kernel
theorem dX6_ranked_28 : decode cX6_ranked 28 = .ok (.iload_n 2, 1) := by decide +kernel
theorem dX6_ranked_29 : decode cX6_ranked 29 = .ok (.invokevirtual 334, 3) := by decide +kernel
theorem dX6_ranked_32 : decode cX6_ranked 32 = .ok (.ifCond .eq 7, 3) := by decide +kernel
theorem dX6_ranked_35 : decode cX6_ranked 35 = .ok (.iconst 1, 1) := by decide +kernel
theorem dX6_ranked_36 : decode cX6_ranked 36 = .ok (.goto 4, 3) := by decide +kernel
theorem dX6_ranked_39 : decode cX6_ranked 39 = .ok (.iconst 0, 1) := by decide +kernel
theorem dX6_ranked_40 : decode cX6_ranked 40 = .ok (.iadd, 1) := by decide +kernel
theorem dX6_ranked_41 : decode cX6_ranked 41 = .ok (.istore_n 3, 1) := by decide +kernel
theorem dX6_ranked_42 : decode cX6_ranked 42 = .ok (.iinc 4 1, 3) := by decide +kernel
theorem dX6_ranked_45 : decode cX6_ranked 45 = .ok (.goto (-30), 3) := by decide +kernel
theorem dX6_ranked_48 : decode cX6_ranked 48 = .ok (.iload_n 3, 1) := by decide +kernel
theorem dX6_ranked_49 : decode cX6_ranked 49 = .ok (.iload_n 1, 1) := by decide +kernel
theorem dX6_ranked_50 : decode cX6_ranked 50 = .ok (.if_icmp .ne 5, 3) := by decide +kernel
theorem dX6_ranked_53 : decode cX6_ranked 53 = .ok (.iload_n 2, 1) := by decide +kernel
theorem dX6_ranked_54 : decode cX6_ranked 54 = .ok (.ireturn, 1) := by decide +kernel
theorem dX6_ranked_55 : decode cX6_ranked 55 = .ok (.iinc 2 1, 3) := by decide +kernel
theorem dX6_ranked_58 : decode cX6_ranked 58 = .ok (.goto (-56), 3) := by decide +kernel
theorem dX6_ranked_61 : decode cX6_ranked 61 = .ok (.new 186, 3) := by decide +kernel
theorem dX6_ranked_64 : decode cX6_ranked 64 = .ok (.dup, 1) := by decide +kernel
theorem dX6_ranked_65 : decode cX6_ranked 65 = .ok (.ldc_w 338, 3) := by decide +kernel
theorem dX6_ranked_68 : decode cX6_ranked 68 = .ok (.invokespecial 190, 3) := by decide +kernel
theorem dX6_ranked_71 : decode cX6_ranked 71 = .ok (.athrow, 1) := by decide +kernel
theorem dX6_challenge_0 : decode cX6_challenge 0 = .ok (.aload_n 0, 1) := by decide +kernel
theorem dX6_challenge_1 : decode cX6_challenge 1 = .ok (.iload_n 1, 1) := by decide +kernel
theorem dX6_challenge_2 : decode cX6_challenge 2 = .ok (.invokevirtual 199, 3) := by decide +kernel
theorem dX6_challenge_5 : decode cX6_challenge 5 = .ok (.astore_n 3, 1) := by decide +kernel
theorem dX6_challenge_6 : decode cX6_challenge 6 = .ok (.aload_n 0, 1) := by decide +kernel
theorem dX6_challenge_7 : decode cX6_challenge 7 = .ok (.iload_n 2, 1) := by decide +kernel
theorem dX6_challenge_8 : decode cX6_challenge 8 = .ok (.invokevirtual 219, 3) := by decide +kernel
theorem dX6_challenge_11 : decode cX6_challenge 11 = .ok (.astore 4, 2) := by decide +kernel
theorem dX6_challenge_13 : decode cX6_challenge 13 = .ok (.aload 4, 2) := by decide +kernel
theorem dX6_challenge_15 : decode cX6_challenge 15 = .ok (.getfield 223, 3) := by decide +kernel
theorem dX6_challenge_18 : decode cX6_challenge 18 = .ok (.iload_n 1, 1) := by decide +kernel
theorem dX6_challenge_19 : decode cX6_challenge 19 = .ok (.if_icmp .eq 21, 3) := by decide +kernel
theorem dX6_challenge_22 : decode cX6_challenge 22 = .ok (.aload 4, 2) := by decide +kernel
theorem dX6_challenge_24 : decode cX6_challenge 24 = .ok (.getfield 238, 3) := by decide +kernel
theorem dX6_challenge_27 : decode cX6_challenge 27 = .ok (.bipush 112, 2) := by decide +kernel
theorem dX6_challenge_29 : decode cX6_challenge 29 = .ok (.if_icmp .ne 11, 3) := by decide +kernel
theorem dX6_challenge_32 : decode cX6_challenge 32 = .ok (.aload_n 3, 1) := by decide +kernel
theorem dX6_challenge_33 : decode cX6_challenge 33 = .ok (.getfield 331, 3) := by decide +kernel
theorem dX6_challenge_36 : decode cX6_challenge 36 = .ok (.iconst 2, 1) := by decide +kernel
theorem dX6_challenge_37 : decode cX6_challenge 37 = .ok (.if_icmp .ge 14, 3) := by decide +kernel
theorem dX6_challenge_40 : decode cX6_challenge 40 = .ok (.new 167, 3) := by decide +kernel
theorem dX6_challenge_43 : decode cX6_challenge 43 = .ok (.dup, 1) := by decide +kernel
theorem dX6_challenge_44 : decode cX6_challenge 44 = .ok (.ldc_w 340, 3) := by decide +kernel
theorem dX6_challenge_47 : decode cX6_challenge 47 = .ok (.invokespecial 171, 3) := by decide +kernel
theorem dX6_challenge_50 : decode cX6_challenge 50 = .ok (.athrow, 1) := by decide +kernel
theorem dX6_challenge_51 : decode cX6_challenge 51 = .ok (.aload_n 0, 1) := by decide +kernel
theorem dX6_challenge_52 : decode cX6_challenge 52 = .ok (.getfield 68, 3) := by decide +kernel
theorem dX6_challenge_55 : decode cX6_challenge 55 = .ok (.bipush 8, 2) := by decide +kernel
theorem dX6_challenge_57 : decode cX6_challenge 57 = .ok (.if_icmp .lt 14, 3) := by decide +kernel
theorem dX6_challenge_60 : decode cX6_challenge 60 = .ok (.new 108, 3) := by decide +kernel
theorem dX6_challenge_63 : decode cX6_challenge 63 = .ok (.dup, 1) := by decide +kernel
theorem dX6_challenge_64 : decode cX6_challenge 64 = .ok (.ldc_w 342, 3) := by decide +kernel
theorem dX6_challenge_67 : decode cX6_challenge 67 = .ok (.invokespecial 112, 3) := by decide +kernel
theorem dX6_challenge_70 : decode cX6_challenge 70 = .ok (.athrow, 1) := by decide +kernel
theorem dX6_challenge_71 : decode cX6_challenge 71 = .ok (.aload_n 3, 1) := by decide +kernel
theorem dX6_challenge_72 : decode cX6_challenge 72 = .ok (.dup, 1) := by decide +kernel
theorem dX6_challenge_73 : decode cX6_challenge 73 = .ok (.getfield 331, 3) := by decide +kernel
theorem dX6_challenge_76 : decode cX6_challenge 76 = .ok (.iconst 2, 1) := by decide +kernel
theorem dX6_challenge_77 : decode cX6_challenge 77 = .ok (.isub, 1) := by decide +kernel
theorem dX6_challenge_78 : decode cX6_challenge 78 = .ok (.putfield 331, 3) := by decide +kernel
theorem dX6_challenge_81 : decode cX6_challenge 81 = .ok (.aload 4, 2) := by decide +kernel
theorem dX6_challenge_83 : decode cX6_challenge 83 = .ok (.bipush 99, 2) := by decide +kernel
theorem dX6_challenge_85 : decode cX6_challenge 85 = .ok (.putfield 238, 3) := by decide +kernel
theorem dX6_challenge_88 : decode cX6_challenge 88 = .ok (.aload 4, 2) := by decide +kernel
theorem dX6_challenge_90 : decode cX6_challenge 90 = .ok (.iload_n 1, 1) := by decide +kernel
theorem dX6_challenge_91 : decode cX6_challenge 91 = .ok (.putfield 344, 3) := by decide +kernel
theorem dX6_challenge_94 : decode cX6_challenge 94 = .ok (.aload 4, 2) := by decide +kernel
theorem dX6_challenge_96 : decode cX6_challenge 96 = .ok (.bipush 7, 2) := by decide +kernel
theorem dX6_challenge_98 : decode cX6_challenge 98 = .ok (.putfield 347, 3) := by decide +kernel
theorem dX6_challenge_101 : decode cX6_challenge 101 = .ok (.aload_n 0, 1) := by decide +kernel
theorem dX6_challenge_102 : decode cX6_challenge 102 = .ok (.getfield 41, 3) := by decide +kernel
theorem dX6_challenge_105 : decode cX6_challenge 105 = .ok (.aload_n 0, 1) := by decide +kernel
theorem dX6_challenge_106 : decode cX6_challenge 106 = .ok (.getfield 68, 3) := by decide +kernel
theorem dX6_challenge_109 : decode cX6_challenge 109 = .ok (.iload_n 2, 1) := by decide +kernel
theorem dX6_challenge_110 : decode cX6_challenge 110 = .ok (.iastore, 1) := by decide +kernel
theorem dX6_challenge_111 : decode cX6_challenge 111 = .ok (.aload_n 0, 1) := by decide +kernel
theorem dX6_challenge_112 : decode cX6_challenge 112 = .ok (.dup, 1) := by decide +kernel
theorem dX6_challenge_113 : decode cX6_challenge 113 = .ok (.getfield 68, 3) := by decide +kernel
theorem dX6_challenge_116 : decode cX6_challenge 116 = .ok (.iconst 1, 1) := by decide +kernel
theorem dX6_challenge_117 : decode cX6_challenge 117 = .ok (.iadd, 1) := by decide +kernel
theorem dX6_challenge_118 : decode cX6_challenge 118 = .ok (.putfield 68, 3) := by decide +kernel
theorem dX6_challenge_121 : decode cX6_challenge 121 = .ok (.aload_n 0, 1) := by decide +kernel
theorem dX6_challenge_122 : decode cX6_challenge 122 = .ok (.getfield 68, 3) := by decide +kernel
theorem dX6_challenge_125 : decode cX6_challenge 125 = .ok (.ireturn, 1) := by decide +kernel
theorem dX6_give_0 : decode cX6_give 0 = .ok (.aload_n 0, 1) := by decide +kernel
theorem dX6_give_1 : decode cX6_give 1 = .ok (.iload_n 1, 1) := by decide +kernel
theorem dX6_give_2 : decode cX6_give 2 = .ok (.invokevirtual 199, 3) := by decide +kernel
theorem dX6_give_5 : decode cX6_give 5 = .ok (.astore_n 3, 1) := by decide +kernel
theorem dX6_give_6 : decode cX6_give 6 = .ok (.aload_n 0, 1) := by decide +kernel
theorem dX6_give_7 : decode cX6_give 7 = .ok (.iload_n 2, 1) := by decide +kernel
theorem dX6_give_8 : decode cX6_give 8 = .ok (.invokevirtual 219, 3) := by decide +kernel
theorem dX6_give_11 : decode cX6_give 11 = .ok (.getfield 238, 3) := by decide +kernel
theorem dX6_give_14 : decode cX6_give 14 = .ok (.bipush 99, 2) := by decide +kernel
theorem dX6_give_16 : decode cX6_give 16 = .ok (.if_icmp .eq 14, 3) := by decide +kernel
theorem dX6_give_19 : decode cX6_give 19 = .ok (.new 167, 3) := by decide +kernel
theorem dX6_give_22 : decode cX6_give 22 = .ok (.dup, 1) := by decide +kernel
theorem dX6_give_23 : decode cX6_give 23 = .ok (.ldc_w 350, 3) := by decide +kernel
theorem dX6_give_26 : decode cX6_give 26 = .ok (.invokespecial 171, 3) := by decide +kernel
theorem dX6_give_29 : decode cX6_give 29 = .ok (.athrow, 1) := by decide +kernel
theorem dX6_give_30 : decode cX6_give 30 = .ok (.aload_n 3, 1) := by decide +kernel
theorem dX6_give_31 : decode cX6_give 31 = .ok (.iload_n 2, 1) := by decide +kernel
theorem dX6_give_32 : decode cX6_give 32 = .ok (.invokevirtual 352, 3) := by decide +kernel
theorem dX6_give_35 : decode cX6_give 35 = .ok (.istore 4, 2) := by decide +kernel
theorem dX6_give_37 : decode cX6_give 37 = .ok (.iload 4, 2) := by decide +kernel
theorem dX6_give_39 : decode cX6_give 39 = .ok (.iconst (-1), 1) := by decide +kernel
theorem dX6_give_40 : decode cX6_give 40 = .ok (.if_icmp .ne 14, 3) := by decide +kernel
theorem dX6_give_43 : decode cX6_give 43 = .ok (.new 186, 3) := by decide +kernel
theorem dX6_give_46 : decode cX6_give 46 = .ok (.dup, 1) := by decide +kernel
theorem dX6_give_47 : decode cX6_give 47 = .ok (.ldc_w 355, 3) := by decide +kernel
theorem dX6_give_50 : decode cX6_give 50 = .ok (.invokespecial 190, 3) := by decide +kernel
theorem dX6_give_53 : decode cX6_give 53 = .ok (.athrow, 1) := by decide +kernel
theorem dX6_give_54 : decode cX6_give 54 = .ok (.aload_n 0, 1) := by decide +kernel
theorem dX6_give_55 : decode cX6_give 55 = .ok (.iload_n 2, 1) := by decide +kernel
theorem dX6_give_56 : decode cX6_give 56 = .ok (.aload_n 3, 1) := by decide +kernel
theorem dX6_give_57 : decode cX6_give 57 = .ok (.getfield 357, 3) := by decide +kernel
theorem dX6_give_60 : decode cX6_give 60 = .ok (.iload 4, 2) := by decide +kernel
theorem dX6_give_62 : decode cX6_give 62 = .ok (.aaload, 1) := by decide +kernel
theorem dX6_give_63 : decode cX6_give 63 = .ok (.aload_n 3, 1) := by decide +kernel
theorem dX6_give_64 : decode cX6_give 64 = .ok (.invokevirtual 361, 3) := by decide +kernel
theorem dX6_give_67 : decode cX6_give 67 = .ok (.ireturn, 1) := by decide +kernel
theorem dX6_answer_0 : decode cX6_answer 0 = .ok (.aload_n 0, 1) := by decide +kernel
theorem dX6_answer_1 : decode cX6_answer 1 = .ok (.iload_n 1, 1) := by decide +kernel
theorem dX6_answer_2 : decode cX6_answer 2 = .ok (.invokevirtual 199, 3) := by decide +kernel
theorem dX6_answer_5 : decode cX6_answer 5 = .ok (.astore_n 3, 1) := by decide +kernel
theorem dX6_answer_6 : decode cX6_answer 6 = .ok (.aload_n 0, 1) := by decide +kernel
theorem dX6_answer_7 : decode cX6_answer 7 = .ok (.iload_n 2, 1) := by decide +kernel
theorem dX6_answer_8 : decode cX6_answer 8 = .ok (.invokevirtual 219, 3) := by decide +kernel
theorem dX6_answer_11 : decode cX6_answer 11 = .ok (.astore 4, 2) := by decide +kernel
theorem dX6_answer_13 : decode cX6_answer 13 = .ok (.aload 4, 2) := by decide +kernel
theorem dX6_answer_15 : decode cX6_answer 15 = .ok (.getfield 238, 3) := by decide +kernel
theorem dX6_answer_18 : decode cX6_answer 18 = .ok (.bipush 99, 2) := by decide +kernel
theorem dX6_answer_20 : decode cX6_answer 20 = .ok (.if_icmp .ne 13, 3) := by decide +kernel
theorem dX6_answer_23 : decode cX6_answer 23 = .ok (.aload_n 0, 1) := by decide +kernel
theorem dX6_answer_24 : decode cX6_answer 24 = .ok (.getfield 10, 3) := by decide +kernel
theorem dX6_answer_27 : decode cX6_answer 27 = .ok (.invokevirtual 163, 3) := by decide +kernel
theorem dX6_answer_30 : decode cX6_answer 30 = .ok (.ifCond .ne 14, 3) := by decide +kernel
theorem dX6_answer_33 : decode cX6_answer 33 = .ok (.new 167, 3) := by decide +kernel
theorem dX6_answer_36 : decode cX6_answer 36 = .ok (.dup, 1) := by decide +kernel
theorem dX6_answer_37 : decode cX6_answer 37 = .ok (.ldc_w 365, 3) := by decide +kernel
theorem dX6_answer_40 : decode cX6_answer 40 = .ok (.invokespecial 171, 3) := by decide +kernel
theorem dX6_answer_43 : decode cX6_answer 43 = .ok (.athrow, 1) := by decide +kernel
theorem dX6_answer_44 : decode cX6_answer 44 = .ok (.aload_n 0, 1) := by decide +kernel
theorem dX6_answer_45 : decode cX6_answer 45 = .ok (.aload_n 0, 1) := by decide +kernel
theorem dX6_answer_46 : decode cX6_answer 46 = .ok (.getfield 10, 3) := by decide +kernel
theorem dX6_answer_49 : decode cX6_answer 49 = .ok (.aload 4, 2) := by decide +kernel
theorem dX6_answer_51 : decode cX6_answer 51 = .ok (.invokevirtual 367, 3) := by decide +kernel
theorem dX6_answer_54 : decode cX6_answer 54 = .ok (.ifCond .ne 6, 3) := by decide +kernel
theorem dX6_answer_57 : decode cX6_answer 57 = .ok (.bipush 45, 2) := by decide +kernel
theorem dX6_answer_59 : decode cX6_answer 59 = .ok (.ireturn, 1) := by decide +kernel
theorem dX6_answer_60 : decode cX6_answer 60 = .ok (.aload_n 0, 1) := by decide +kernel
theorem dX6_answer_61 : decode cX6_answer 61 = .ok (.iload_n 2, 1) := by decide +kernel
theorem dX6_answer_62 : decode cX6_answer 62 = .ok (.aload_n 0, 1) := by decide +kernel
theorem dX6_answer_63 : decode cX6_answer 63 = .ok (.getfield 10, 3) := by decide +kernel
theorem dX6_answer_66 : decode cX6_answer 66 = .ok (.aload_n 3, 1) := by decide +kernel
theorem dX6_answer_67 : decode cX6_answer 67 = .ok (.invokevirtual 361, 3) := by decide +kernel
theorem dX6_answer_70 : decode cX6_answer 70 = .ok (.ireturn, 1) := by decide +kernel
theorem dX6_open_0 : decode cX6_open 0 = .ok (.iload_n 1, 1) := by decide +kernel
theorem dX6_open_1 : decode cX6_open 1 = .ok (.ifCond .lt 11, 3) := by decide +kernel
theorem dX6_open_4 : decode cX6_open 4 = .ok (.iload_n 1, 1) := by decide +kernel
theorem dX6_open_5 : decode cX6_open 5 = .ok (.aload_n 0, 1) := by decide +kernel
theorem dX6_open_6 : decode cX6_open 6 = .ok (.getfield 68, 3) := by decide +kernel
theorem dX6_open_9 : decode cX6_open 9 = .ok (.if_icmp .lt 14, 3) := by decide +kernel
theorem dX6_open_12 : decode cX6_open 12 = .ok (.new 186, 3) := by decide +kernel
theorem dX6_open_15 : decode cX6_open 15 = .ok (.dup, 1) := by decide +kernel
theorem dX6_open_16 : decode cX6_open 16 = .ok (.ldc_w 371, 3) := by decide +kernel
theorem dX6_open_19 : decode cX6_open 19 = .ok (.invokespecial 190, 3) := by decide +kernel
theorem dX6_open_22 : decode cX6_open 22 = .ok (.athrow, 1) := by decide +kernel
theorem dX6_open_23 : decode cX6_open 23 = .ok (.aload_n 0, 1) := by decide +kernel
theorem dX6_open_24 : decode cX6_open 24 = .ok (.getfield 41, 3) := by decide +kernel
theorem dX6_open_27 : decode cX6_open 27 = .ok (.iload_n 1, 1) := by decide +kernel
theorem dX6_open_28 : decode cX6_open 28 = .ok (.iaload, 1) := by decide +kernel
theorem dX6_open_29 : decode cX6_open 29 = .ok (.ireturn, 1) := by decide +kernel
theorem dX6_left_0 : decode cX6_left 0 = .ok (.aload_n 0, 1) := by decide +kernel
theorem dX6_left_1 : decode cX6_left 1 = .ok (.iload_n 1, 1) := by decide +kernel
theorem dX6_left_2 : decode cX6_left 2 = .ok (.invokevirtual 219, 3) := by decide +kernel
theorem dX6_left_5 : decode cX6_left 5 = .ok (.astore_n 2, 1) := by decide +kernel
theorem dX6_left_6 : decode cX6_left 6 = .ok (.aload_n 2, 1) := by decide +kernel
theorem dX6_left_7 : decode cX6_left 7 = .ok (.getfield 238, 3) := by decide +kernel
theorem dX6_left_10 : decode cX6_left 10 = .ok (.bipush 99, 2) := by decide +kernel
theorem dX6_left_12 : decode cX6_left 12 = .ok (.if_icmp .eq 14, 3) := by decide +kernel
theorem dX6_left_15 : decode cX6_left 15 = .ok (.new 167, 3) := by decide +kernel
theorem dX6_left_18 : decode cX6_left 18 = .ok (.dup, 1) := by decide +kernel
theorem dX6_left_19 : decode cX6_left 19 = .ok (.ldc_w 350, 3) := by decide +kernel
theorem dX6_left_22 : decode cX6_left 22 = .ok (.invokespecial 171, 3) := by decide +kernel
theorem dX6_left_25 : decode cX6_left 25 = .ok (.athrow, 1) := by decide +kernel
theorem dX6_left_26 : decode cX6_left 26 = .ok (.aload_n 2, 1) := by decide +kernel
theorem dX6_left_27 : decode cX6_left 27 = .ok (.getfield 347, 3) := by decide +kernel
theorem dX6_left_30 : decode cX6_left 30 = .ok (.ireturn, 1) := by decide +kernel
theorem dX6_days_0 : decode cX6_days 0 = .ok (.iload_n 1, 1) := by decide +kernel
theorem dX6_days_1 : decode cX6_days 1 = .ok (.iconst 1, 1) := by decide +kernel
theorem dX6_days_2 : decode cX6_days 2 = .ok (.if_icmp .lt 9, 3) := by decide +kernel
theorem dX6_days_5 : decode cX6_days 5 = .ok (.iload_n 1, 1) := by decide +kernel
theorem dX6_days_6 : decode cX6_days 6 = .ok (.bipush 30, 2) := by decide +kernel
theorem dX6_days_8 : decode cX6_days 8 = .ok (.if_icmp .le 14, 3) := by decide +kernel
theorem dX6_days_11 : decode cX6_days 11 = .ok (.new 92, 3) := by decide +kernel
theorem dX6_days_14 : decode cX6_days 14 = .ok (.dup, 1) := by decide +kernel
theorem dX6_days_15 : decode cX6_days 15 = .ok (.ldc_w 373, 3) := by decide +kernel
theorem dX6_days_18 : decode cX6_days 18 = .ok (.invokespecial 96, 3) := by decide +kernel
theorem dX6_days_21 : decode cX6_days 21 = .ok (.athrow, 1) := by decide +kernel
theorem dX6_days_22 : decode cX6_days 22 = .ok (.iconst 0, 1) := by decide +kernel
theorem dX6_days_23 : decode cX6_days 23 = .ok (.istore_n 2, 1) := by decide +kernel
theorem dX6_days_24 : decode cX6_days 24 = .ok (.aload_n 0, 1) := by decide +kernel
theorem dX6_days_25 : decode cX6_days 25 = .ok (.getfield 68, 3) := by decide +kernel
theorem dX6_days_28 : decode cX6_days 28 = .ok (.iconst 1, 1) := by decide +kernel
theorem dX6_days_29 : decode cX6_days 29 = .ok (.isub, 1) := by decide +kernel
theorem dX6_days_30 : decode cX6_days 30 = .ok (.istore_n 3, 1) := by decide +kernel
theorem dX6_days_31 : decode cX6_days 31 = .ok (.iload_n 3, 1) := by decide +kernel
theorem dX6_days_32 : decode cX6_days 32 = .ok (.ifCond .lt 91, 3) := by decide +kernel
theorem dX6_days_35 : decode cX6_days 35 = .ok (.aload_n 0, 1) := by decide +kernel
theorem dX6_days_36 : decode cX6_days 36 = .ok (.getfield 41, 3) := by decide +kernel
theorem dX6_days_39 : decode cX6_days 39 = .ok (.iload_n 3, 1) := by decide +kernel
theorem dX6_days_40 : decode cX6_days 40 = .ok (.iaload, 1) := by decide +kernel
theorem dX6_days_41 : decode cX6_days 41 = .ok (.istore 4, 2) := by decide +kernel
theorem dX6_days_43 : decode cX6_days 43 = .ok (.aload_n 0, 1) := by decide +kernel
theorem dX6_days_44 : decode cX6_days 44 = .ok (.getfield 37, 3) := by decide +kernel
theorem dX6_days_47 : decode cX6_days 47 = .ok (.iload 4, 2) := by decide +kernel
theorem dX6_days_49 : decode cX6_days 49 = .ok (.aaload, 1) := by decide +kernel
theorem dX6_days_50 : decode cX6_days 50 = .ok (.dup, 1) := by decide +kernel
theorem dX6_days_51 : decode cX6_days 51 = .ok (.getfield 347, 3) := by decide +kernel
theorem dX6_days_54 : decode cX6_days 54 = .ok (.iload_n 1, 1) := by decide +kernel
theorem dX6_days_55 : decode cX6_days 55 = .ok (.isub, 1) := by decide +kernel
theorem dX6_days_56 : decode cX6_days 56 = .ok (.putfield 347, 3) := by decide +kernel
theorem dX6_days_59 : decode cX6_days 59 = .ok (.aload_n 0, 1) := by decide +kernel
theorem dX6_days_60 : decode cX6_days 60 = .ok (.getfield 37, 3) := by decide +kernel
theorem dX6_days_63 : decode cX6_days 63 = .ok (.iload 4, 2) := by decide +kernel
theorem dX6_days_65 : decode cX6_days 65 = .ok (.aaload, 1) := by decide +kernel
theorem dX6_days_66 : decode cX6_days 66 = .ok (.getfield 347, 3) := by decide +kernel
theorem dX6_days_69 : decode cX6_days 69 = .ok (.ifCond .gt 48, 3) := by decide +kernel
theorem dX6_days_72 : decode cX6_days 72 = .ok (.aload_n 0, 1) := by decide +kernel
theorem dX6_days_73 : decode cX6_days 73 = .ok (.iload 4, 2) := by decide +kernel
theorem dX6_days_75 : decode cX6_days 75 = .ok (.invokevirtual 375, 3) := by decide +kernel
theorem dX6_days_78 : decode cX6_days 78 = .ok (.aload_n 0, 1) := by decide +kernel
theorem dX6_days_79 : decode cX6_days 79 = .ok (.getfield 37, 3) := by decide +kernel
theorem dX6_days_82 : decode cX6_days 82 = .ok (.iload 4, 2) := by decide +kernel
theorem dX6_days_84 : decode cX6_days 84 = .ok (.aaload, 1) := by decide +kernel
theorem dX6_days_85 : decode cX6_days 85 = .ok (.bipush 98, 2) := by decide +kernel
theorem dX6_days_87 : decode cX6_days 87 = .ok (.putfield 238, 3) := by decide +kernel
theorem dX6_days_90 : decode cX6_days 90 = .ok (.aload_n 0, 1) := by decide +kernel
theorem dX6_days_91 : decode cX6_days 91 = .ok (.getfield 31, 3) := by decide +kernel
theorem dX6_days_94 : decode cX6_days 94 = .ok (.aload_n 0, 1) := by decide +kernel
theorem dX6_days_95 : decode cX6_days 95 = .ok (.getfield 37, 3) := by decide +kernel
theorem dX6_days_98 : decode cX6_days 98 = .ok (.iload 4, 2) := by decide +kernel
theorem dX6_days_100 : decode cX6_days 100 = .ok (.aaload, 1) := by decide +kernel
theorem dX6_days_101 : decode cX6_days 101 = .ok (.getfield 344, 3) := by decide +kernel
theorem dX6_days_104 : decode cX6_days 104 = .ok (.aaload, 1) := by decide +kernel
theorem dX6_days_105 : decode cX6_days 105 = .ok (.dup, 1) := by decide +kernel
theorem dX6_days_106 : decode cX6_days 106 = .ok (.getfield 331, 3) := by decide +kernel
theorem dX6_days_109 : decode cX6_days 109 = .ok (.iconst 5, 1) := by decide +kernel
theorem dX6_days_110 : decode cX6_days 110 = .ok (.iadd, 1) := by decide +kernel
theorem dX6_days_111 : decode cX6_days 111 = .ok (.putfield 331, 3) := by decide +kernel
theorem dX6_days_114 : decode cX6_days 114 = .ok (.iinc 2 1, 3) := by decide +kernel
theorem dX6_days_117 : decode cX6_days 117 = .ok (.iinc 3 (-1), 3) := by decide +kernel
theorem dX6_days_120 : decode cX6_days 120 = .ok (.goto (-89), 3) := by decide +kernel
theorem dX6_days_123 : decode cX6_days 123 = .ok (.iload_n 2, 1) := by decide +kernel
theorem dX6_days_124 : decode cX6_days 124 = .ok (.ireturn, 1) := by decide +kernel
theorem dX6_checksum_0 : decode cX6_checksum 0 = .ok (.ldc2_w 378, 3) := by decide +kernel
theorem dX6_checksum_3 : decode cX6_checksum 3 = .ok (.lstore_n 1, 1) := by decide +kernel
theorem dX6_checksum_4 : decode cX6_checksum 4 = .ok (.iconst 0, 1) := by decide +kernel
theorem dX6_checksum_5 : decode cX6_checksum 5 = .ok (.istore_n 3, 1) := by decide +kernel
theorem dX6_checksum_6 : decode cX6_checksum 6 = .ok (.iload_n 3, 1) := by decide +kernel
theorem dX6_checksum_7 : decode cX6_checksum 7 = .ok (.aload_n 0, 1) := by decide +kernel
theorem dX6_checksum_8 : decode cX6_checksum 8 = .ok (.getfield 65, 3) := by decide +kernel
theorem dX6_checksum_11 : decode cX6_checksum 11 = .ok (.if_icmp .ge 43, 3) := by decide +kernel
theorem dX6_checksum_14 : decode cX6_checksum 14 = .ok (.lload_n 1, 1) := by decide +kernel
theorem dX6_checksum_15 : decode cX6_checksum 15 = .ok (.ldc2_w 380, 3) := by decide +kernel
theorem dX6_checksum_18 : decode cX6_checksum 18 = .ok (.lmul, 1) := by decide +kernel
theorem dX6_checksum_19 : decode cX6_checksum 19 = .ok (.aload_n 0, 1) := by decide +kernel
theorem dX6_checksum_20 : decode cX6_checksum 20 = .ok (.getfield 37, 3) := by decide +kernel
theorem dX6_checksum_23 : decode cX6_checksum 23 = .ok (.iload_n 3, 1) := by decide +kernel
theorem dX6_checksum_24 : decode cX6_checksum 24 = .ok (.aaload, 1) := by decide +kernel
theorem dX6_checksum_25 : decode cX6_checksum 25 = .ok (.getfield 238, 3) := by decide +kernel
theorem dX6_checksum_28 : decode cX6_checksum 28 = .ok (.i2l, 1) := by decide +kernel
theorem dX6_checksum_29 : decode cX6_checksum 29 = .ok (.ladd, 1) := by decide +kernel
theorem dX6_checksum_30 : decode cX6_checksum 30 = .ok (.lstore_n 1, 1) := by decide +kernel
theorem dX6_checksum_31 : decode cX6_checksum 31 = .ok (.lload_n 1, 1) := by decide +kernel
theorem dX6_checksum_32 : decode cX6_checksum 32 = .ok (.ldc2_w 380, 3) := by decide +kernel
theorem dX6_checksum_35 : decode cX6_checksum 35 = .ok (.lmul, 1) := by decide +kernel
theorem dX6_checksum_36 : decode cX6_checksum 36 = .ok (.aload_n 0, 1) := by decide +kernel
theorem dX6_checksum_37 : decode cX6_checksum 37 = .ok (.getfield 37, 3) := by decide +kernel
theorem dX6_checksum_40 : decode cX6_checksum 40 = .ok (.iload_n 3, 1) := by decide +kernel
theorem dX6_checksum_41 : decode cX6_checksum 41 = .ok (.aaload, 1) := by decide +kernel
theorem dX6_checksum_42 : decode cX6_checksum 42 = .ok (.getfield 382, 3) := by decide +kernel
theorem dX6_checksum_45 : decode cX6_checksum 45 = .ok (.i2l, 1) := by decide +kernel
theorem dX6_checksum_46 : decode cX6_checksum 46 = .ok (.ladd, 1) := by decide +kernel
theorem dX6_checksum_47 : decode cX6_checksum 47 = .ok (.lstore_n 1, 1) := by decide +kernel
theorem dX6_checksum_48 : decode cX6_checksum 48 = .ok (.iinc 3 1, 3) := by decide +kernel
theorem dX6_checksum_51 : decode cX6_checksum 51 = .ok (.goto (-45), 3) := by decide +kernel
theorem dX6_checksum_54 : decode cX6_checksum 54 = .ok (.iconst 0, 1) := by decide +kernel
theorem dX6_checksum_55 : decode cX6_checksum 55 = .ok (.istore_n 3, 1) := by decide +kernel
theorem dX6_checksum_56 : decode cX6_checksum 56 = .ok (.iload_n 3, 1) := by decide +kernel
theorem dX6_checksum_57 : decode cX6_checksum 57 = .ok (.aload_n 0, 1) := by decide +kernel
theorem dX6_checksum_58 : decode cX6_checksum 58 = .ok (.getfield 62, 3) := by decide +kernel
theorem dX6_checksum_61 : decode cX6_checksum 61 = .ok (.if_icmp .ge 26, 3) := by decide +kernel
theorem dX6_checksum_64 : decode cX6_checksum 64 = .ok (.lload_n 1, 1) := by decide +kernel
theorem dX6_checksum_65 : decode cX6_checksum 65 = .ok (.ldc2_w 380, 3) := by decide +kernel
theorem dX6_checksum_68 : decode cX6_checksum 68 = .ok (.lmul, 1) := by decide +kernel
theorem dX6_checksum_69 : decode cX6_checksum 69 = .ok (.aload_n 0, 1) := by decide +kernel
theorem dX6_checksum_70 : decode cX6_checksum 70 = .ok (.getfield 31, 3) := by decide +kernel
theorem dX6_checksum_73 : decode cX6_checksum 73 = .ok (.iload_n 3, 1) := by decide +kernel
theorem dX6_checksum_74 : decode cX6_checksum 74 = .ok (.aaload, 1) := by decide +kernel
theorem dX6_checksum_75 : decode cX6_checksum 75 = .ok (.getfield 331, 3) := by decide +kernel
theorem dX6_checksum_78 : decode cX6_checksum 78 = .ok (.i2l, 1) := by decide +kernel
theorem dX6_checksum_79 : decode cX6_checksum 79 = .ok (.ladd, 1) := by decide +kernel
theorem dX6_checksum_80 : decode cX6_checksum 80 = .ok (.lstore_n 1, 1) := by decide +kernel
theorem dX6_checksum_81 : decode cX6_checksum 81 = .ok (.iinc 3 1, 3) := by decide +kernel
theorem dX6_checksum_84 : decode cX6_checksum 84 = .ok (.goto (-28), 3) := by decide +kernel
theorem dX6_checksum_87 : decode cX6_checksum 87 = .ok (.lload_n 1, 1) := by decide +kernel
theorem dX6_checksum_88 : decode cX6_checksum 88 = .ok (.lreturn, 1) := by decide +kernel
theorem dX6_standingShare_0 : decode cX6_standingShare 0 = .ok (.aload_n 0, 1) := by decide +kernel
theorem dX6_standingShare_1 : decode cX6_standingShare 1 = .ok (.getfield 65, 3) := by decide +kernel
theorem dX6_standingShare_4 : decode cX6_standingShare 4 = .ok (.ifCond .ne 14, 3) := by decide +kernel
theorem dX6_standingShare_7 : decode cX6_standingShare 7 = .ok (.new 385, 3) := by decide +kernel
theorem dX6_standingShare_10 : decode cX6_standingShare 10 = .ok (.dup, 1) := by decide +kernel
theorem dX6_standingShare_11 : decode cX6_standingShare 11 = .ok (.ldc_w 387, 3) := by decide +kernel
theorem dX6_standingShare_14 : decode cX6_standingShare 14 = .ok (.invokespecial 389, 3) := by decide +kernel
theorem dX6_standingShare_17 : decode cX6_standingShare 17 = .ok (.athrow, 1) := by decide +kernel
theorem dX6_standingShare_18 : decode cX6_standingShare 18 = .ok (.iconst 0, 1) := by decide +kernel
theorem dX6_standingShare_19 : decode cX6_standingShare 19 = .ok (.istore_n 1, 1) := by decide +kernel
theorem dX6_standingShare_20 : decode cX6_standingShare 20 = .ok (.iconst 0, 1) := by decide +kernel
theorem dX6_standingShare_21 : decode cX6_standingShare 21 = .ok (.istore_n 2, 1) := by decide +kernel
theorem dX6_standingShare_22 : decode cX6_standingShare 22 = .ok (.iload_n 2, 1) := by decide +kernel
theorem dX6_standingShare_23 : decode cX6_standingShare 23 = .ok (.aload_n 0, 1) := by decide +kernel
theorem dX6_standingShare_24 : decode cX6_standingShare 24 = .ok (.getfield 65, 3) := by decide +kernel
theorem dX6_standingShare_27 : decode cX6_standingShare 27 = .ok (.if_icmp .ge 24, 3) := by decide +kernel
theorem dX6_standingShare_30 : decode cX6_standingShare 30 = .ok (.aload_n 0, 1) := by decide +kernel
theorem dX6_standingShare_31 : decode cX6_standingShare 31 = .ok (.getfield 37, 3) := by decide +kernel
theorem dX6_standingShare_34 : decode cX6_standingShare 34 = .ok (.iload_n 2, 1) := by decide +kernel
theorem dX6_standingShare_35 : decode cX6_standingShare 35 = .ok (.aaload, 1) := by decide +kernel
theorem dX6_standingShare_36 : decode cX6_standingShare 36 = .ok (.invokevirtual 390, 3) := by decide +kernel
theorem dX6_standingShare_39 : decode cX6_standingShare 39 = .ok (.ifCond .eq 6, 3) := by decide +kernel
theorem dX6_standingShare_42 : decode cX6_standingShare 42 = .ok (.iinc 1 1, 3) := by decide +kernel
theorem dX6_standingShare_45 : decode cX6_standingShare 45 = .ok (.iinc 2 1, 3) := by decide +kernel
theorem dX6_standingShare_48 : decode cX6_standingShare 48 = .ok (.goto (-26), 3) := by decide +kernel
theorem dX6_standingShare_51 : decode cX6_standingShare 51 = .ok (.iload_n 1, 1) := by decide +kernel
theorem dX6_standingShare_52 : decode cX6_standingShare 52 = .ok (.i2f, 1) := by decide +kernel
theorem dX6_standingShare_53 : decode cX6_standingShare 53 = .ok (.aload_n 0, 1) := by decide +kernel
theorem dX6_standingShare_54 : decode cX6_standingShare 54 = .ok (.getfield 65, 3) := by decide +kernel
theorem dX6_standingShare_57 : decode cX6_standingShare 57 = .ok (.i2f, 1) := by decide +kernel
theorem dX6_standingShare_58 : decode cX6_standingShare 58 = .ok (.fdiv, 1) := by decide +kernel
theorem dX6_standingShare_59 : decode cX6_standingShare 59 = .ok (.freturn, 1) := by decide +kernel
theorem dX6_meanSteps_0 : decode cX6_meanSteps 0 = .ok (.aload_n 0, 1) := by decide +kernel
theorem dX6_meanSteps_1 : decode cX6_meanSteps 1 = .ok (.iload_n 1, 1) := by decide +kernel
theorem dX6_meanSteps_2 : decode cX6_meanSteps 2 = .ok (.invokevirtual 219, 3) := by decide +kernel
theorem dX6_meanSteps_5 : decode cX6_meanSteps 5 = .ok (.astore_n 2, 1) := by decide +kernel
theorem dX6_meanSteps_6 : decode cX6_meanSteps 6 = .ok (.iconst 0, 1) := by decide +kernel
theorem dX6_meanSteps_7 : decode cX6_meanSteps 7 = .ok (.istore_n 3, 1) := by decide +kernel
theorem dX6_meanSteps_8 : decode cX6_meanSteps 8 = .ok (.iconst 0, 1) := by decide +kernel
theorem dX6_meanSteps_9 : decode cX6_meanSteps 9 = .ok (.istore 4, 2) := by decide +kernel
theorem dX6_meanSteps_11 : decode cX6_meanSteps 11 = .ok (.iconst 0, 1) := by decide +kernel
theorem dX6_meanSteps_12 : decode cX6_meanSteps 12 = .ok (.istore 5, 2) := by decide +kernel
theorem dX6_meanSteps_14 : decode cX6_meanSteps 14 = .ok (.iload 5, 2) := by decide +kernel
theorem dX6_meanSteps_16 : decode cX6_meanSteps 16 = .ok (.aload_n 0, 1) := by decide +kernel
theorem dX6_meanSteps_17 : decode cX6_meanSteps 17 = .ok (.getfield 25, 3) := by decide +kernel
theorem dX6_meanSteps_20 : decode cX6_meanSteps 20 = .ok (.aload_n 2, 1) := by decide +kernel
theorem dX6_meanSteps_21 : decode cX6_meanSteps 21 = .ok (.getfield 226, 3) := by decide +kernel
theorem dX6_meanSteps_24 : decode cX6_meanSteps 24 = .ok (.aaload, 1) := by decide +kernel
theorem dX6_meanSteps_25 : decode cX6_meanSteps 25 = .ok (.getfield 146, 3) := by decide +kernel
theorem dX6_meanSteps_28 : decode cX6_meanSteps 28 = .ok (.if_icmp .ge 32, 3) := by decide +kernel
theorem dX6_meanSteps_31 : decode cX6_meanSteps 31 = .ok (.aload_n 0, 1) := by decide +kernel
theorem dX6_meanSteps_32 : decode cX6_meanSteps 32 = .ok (.aload_n 2, 1) := by decide +kernel
theorem dX6_meanSteps_33 : decode cX6_meanSteps 33 = .ok (.iload 5, 2) := by decide +kernel
theorem dX6_meanSteps_35 : decode cX6_meanSteps 35 = .ok (.invokevirtual 246, 3) := by decide +kernel
theorem dX6_meanSteps_38 : decode cX6_meanSteps 38 = .ok (.istore 6, 2) := by decide +kernel
theorem dX6_meanSteps_40 : decode cX6_meanSteps 40 = .ok (.iload 6, 2) := by decide +kernel
theorem dX6_meanSteps_42 : decode cX6_meanSteps 42 = .ok (.iconst (-1), 1) := by decide +kernel
theorem dX6_meanSteps_43 : decode cX6_meanSteps 43 = .ok (.if_icmp .eq 11, 3) := by decide +kernel
theorem dX6_meanSteps_46 : decode cX6_meanSteps 46 = .ok (.iload_n 3, 1) := by decide +kernel
theorem dX6_meanSteps_47 : decode cX6_meanSteps 47 = .ok (.iload 6, 2) := by decide +kernel
theorem dX6_meanSteps_49 : decode cX6_meanSteps 49 = .ok (.iadd, 1) := by decide +kernel
theorem dX6_meanSteps_50 : decode cX6_meanSteps 50 = .ok (.istore_n 3, 1) := by decide +kernel
theorem dX6_meanSteps_51 : decode cX6_meanSteps 51 = .ok (.iinc 4 1, 3) := by decide +kernel
theorem dX6_meanSteps_54 : decode cX6_meanSteps 54 = .ok (.iinc 5 1, 3) := by decide +kernel
theorem dX6_meanSteps_57 : decode cX6_meanSteps 57 = .ok (.goto (-43), 3) := by decide +kernel
theorem dX6_meanSteps_60 : decode cX6_meanSteps 60 = .ok (.iload 4, 2) := by decide +kernel
theorem dX6_meanSteps_62 : decode cX6_meanSteps 62 = .ok (.ifCond .ne 14, 3) := by decide +kernel
theorem dX6_meanSteps_65 : decode cX6_meanSteps 65 = .ok (.new 385, 3) := by decide +kernel
theorem dX6_meanSteps_68 : decode cX6_meanSteps 68 = .ok (.dup, 1) := by decide +kernel
theorem dX6_meanSteps_69 : decode cX6_meanSteps 69 = .ok (.ldc_w 393, 3) := by decide +kernel
theorem dX6_meanSteps_72 : decode cX6_meanSteps 72 = .ok (.invokespecial 389, 3) := by decide +kernel
theorem dX6_meanSteps_75 : decode cX6_meanSteps 75 = .ok (.athrow, 1) := by decide +kernel
theorem dX6_meanSteps_76 : decode cX6_meanSteps 76 = .ok (.iload_n 3, 1) := by decide +kernel
theorem dX6_meanSteps_77 : decode cX6_meanSteps 77 = .ok (.i2d, 1) := by decide +kernel
theorem dX6_meanSteps_78 : decode cX6_meanSteps 78 = .ok (.iload 4, 2) := by decide +kernel
theorem dX6_meanSteps_80 : decode cX6_meanSteps 80 = .ok (.i2d, 1) := by decide +kernel
theorem dX6_meanSteps_81 : decode cX6_meanSteps 81 = .ok (.ddiv, 1) := by decide +kernel
theorem dX6_meanSteps_82 : decode cX6_meanSteps 82 = .ok (.dreturn, 1) := by decide +kernel
theorem dX6_isSound_0 : decode cX6_isSound 0 = .ok (.aload_n 0, 1) := by decide +kernel
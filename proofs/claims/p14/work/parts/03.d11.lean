theorem dX7_copy_37 : decode cX7_copy 37 = .ok (.iload_n 2, 1) := by decide +kernel
theorem dX7_copy_38 : decode cX7_copy 38 = .ok (.iadd, 1) := by decide +kernel
theorem dX7_copy_39 : decode cX7_copy 39 = .ok (.iaload, 1) := by decide +kernel
theorem dX7_copy_40 : decode cX7_copy 40 = .ok (.iconst 1, 1) := by decide +kernel
theorem dX7_copy_41 : decode cX7_copy 41 = .ok (.isub, 1) := by decide +kernel
theorem dX7_copy_42 : decode cX7_copy 42 = .ok (.invokevirtual 169, 3) := by decide +kernel
theorem dX7_copy_45 : decode cX7_copy 45 = .ok (.goto 8, 3) := by decide +kernel
theorem dX7_copy_48 : decode cX7_copy 48 = .ok (.aload_n 0, 1) := by decide +kernel
theorem dX7_copy_49 : decode cX7_copy 49 = .ok (.iconst 2, 1) := by decide +kernel
theorem dX7_copy_50 : decode cX7_copy 50 = .ok (.invokevirtual 165, 3) := by decide +kernel
theorem dX7_copy_53 : decode cX7_copy 53 = .ok (.ireturn, 1) := by decide +kernel
theorem dX7_vote_0 : decode cX7_vote 0 = .ok (.aload_n 0, 1) := by decide +kernel
theorem dX7_vote_1 : decode cX7_vote 1 = .ok (.iload_n 1, 1) := by decide +kernel
theorem dX7_vote_2 : decode cX7_vote 2 = .ok (.invokevirtual 214, 3) := by decide +kernel
theorem dX7_vote_5 : decode cX7_vote 5 = .ok (.ifCond .eq 11, 3) := by decide +kernel
theorem dX7_vote_8 : decode cX7_vote 8 = .ok (.aload_n 0, 1) := by decide +kernel
theorem dX7_vote_9 : decode cX7_vote 9 = .ok (.iload_n 2, 1) := by decide +kernel
theorem dX7_vote_10 : decode cX7_vote 10 = .ok (.invokevirtual 227, 3) := by decide +kernel
theorem dX7_vote_13 : decode cX7_vote 13 = .ok (.ifCond .ne 9, 3) := by decide +kernel
theorem dX7_vote_16 : decode cX7_vote 16 = .ok (.aload_n 0, 1) := by decide +kernel
theorem dX7_vote_17 : decode cX7_vote 17 = .ok (.iconst 1, 1) := by decide +kernel
theorem dX7_vote_18 : decode cX7_vote 18 = .ok (.invokevirtual 165, 3) := by decide +kernel
theorem dX7_vote_21 : decode cX7_vote 21 = .ok (.ireturn, 1) := by decide +kernel
theorem dX7_vote_22 : decode cX7_vote 22 = .ok (.iload_n 3, 1) := by decide +kernel
theorem dX7_vote_23 : decode cX7_vote 23 = .ok (.iconst 1, 1) := by decide +kernel
theorem dX7_vote_24 : decode cX7_vote 24 = .ok (.iconst 5, 1) := by decide +kernel
theorem dX7_vote_25 : decode cX7_vote 25 = .ok (.invokestatic 161, 3) := by decide +kernel
theorem dX7_vote_28 : decode cX7_vote 28 = .ok (.ifCond .ne 9, 3) := by decide +kernel
theorem dX7_vote_31 : decode cX7_vote 31 = .ok (.aload_n 0, 1) := by decide +kernel
theorem dX7_vote_32 : decode cX7_vote 32 = .ok (.iconst 2, 1) := by decide +kernel
theorem dX7_vote_33 : decode cX7_vote 33 = .ok (.invokevirtual 165, 3) := by decide +kernel
theorem dX7_vote_36 : decode cX7_vote 36 = .ok (.ireturn, 1) := by decide +kernel
theorem dX7_vote_37 : decode cX7_vote 37 = .ok (.aload_n 0, 1) := by decide +kernel
theorem dX7_vote_38 : decode cX7_vote 38 = .ok (.getfield 78, 3) := by decide +kernel
theorem dX7_vote_41 : decode cX7_vote 41 = .ok (.iload_n 2, 1) := by decide +kernel
theorem dX7_vote_42 : decode cX7_vote 42 = .ok (.iaload, 1) := by decide +kernel
theorem dX7_vote_43 : decode cX7_vote 43 = .ok (.iload_n 1, 1) := by decide +kernel
theorem dX7_vote_44 : decode cX7_vote 44 = .ok (.if_icmp .eq 23, 3) := by decide +kernel
theorem dX7_vote_47 : decode cX7_vote 47 = .ok (.aload_n 0, 1) := by decide +kernel
theorem dX7_vote_48 : decode cX7_vote 48 = .ok (.getfield 91, 3) := by decide +kernel
theorem dX7_vote_51 : decode cX7_vote 51 = .ok (.iload_n 2, 1) := by decide +kernel
theorem dX7_vote_52 : decode cX7_vote 52 = .ok (.baload, 1) := by decide +kernel
theorem dX7_vote_53 : decode cX7_vote 53 = .ok (.ifCond .eq 14, 3) := by decide +kernel
theorem dX7_vote_56 : decode cX7_vote 56 = .ok (.aload_n 0, 1) := by decide +kernel
theorem dX7_vote_57 : decode cX7_vote 57 = .ok (.getfield 88, 3) := by decide +kernel
theorem dX7_vote_60 : decode cX7_vote 60 = .ok (.iload_n 2, 1) := by decide +kernel
theorem dX7_vote_61 : decode cX7_vote 61 = .ok (.caload, 1) := by decide +kernel
theorem dX7_vote_62 : decode cX7_vote 62 = .ok (.bipush 102, 2) := by decide +kernel
theorem dX7_vote_64 : decode cX7_vote 64 = .ok (.if_icmp .ne 9, 3) := by decide +kernel
theorem dX7_vote_67 : decode cX7_vote 67 = .ok (.aload_n 0, 1) := by decide +kernel
theorem dX7_vote_68 : decode cX7_vote 68 = .ok (.iconst 3, 1) := by decide +kernel
theorem dX7_vote_69 : decode cX7_vote 69 = .ok (.invokevirtual 165, 3) := by decide +kernel
theorem dX7_vote_72 : decode cX7_vote 72 = .ok (.ireturn, 1) := by decide +kernel
theorem dX7_vote_73 : decode cX7_vote 73 = .ok (.aload_n 0, 1) := by decide +kernel
theorem dX7_vote_74 : decode cX7_vote 74 = .ok (.iload_n 1, 1) := by decide +kernel
theorem dX7_vote_75 : decode cX7_vote 75 = .ok (.invokevirtual 256, 3) := by decide +kernel
theorem dX7_vote_78 : decode cX7_vote 78 = .ok (.iconst 1, 1) := by decide +kernel
theorem dX7_vote_79 : decode cX7_vote 79 = .ok (.iadd, 1) := by decide +kernel
theorem dX7_vote_80 : decode cX7_vote 80 = .ok (.istore 4, 2) := by decide +kernel
theorem dX7_vote_82 : decode cX7_vote 82 = .ok (.aload_n 0, 1) := by decide +kernel
theorem dX7_vote_83 : decode cX7_vote 83 = .ok (.getfield 101, 3) := by decide +kernel
theorem dX7_vote_86 : decode cX7_vote 86 = .ok (.bipush 10, 2) := by decide +kernel
theorem dX7_vote_88 : decode cX7_vote 88 = .ok (.iload_n 2, 1) := by decide +kernel
theorem dX7_vote_89 : decode cX7_vote 89 = .ok (.imul, 1) := by decide +kernel
theorem dX7_vote_90 : decode cX7_vote 90 = .ok (.iload_n 1, 1) := by decide +kernel
theorem dX7_vote_91 : decode cX7_vote 91 = .ok (.iadd, 1) := by decide +kernel
theorem dX7_vote_92 : decode cX7_vote 92 = .ok (.iload_n 3, 1) := by decide +kernel
theorem dX7_vote_93 : decode cX7_vote 93 = .ok (.iastore, 1) := by decide +kernel
theorem dX7_vote_94 : decode cX7_vote 94 = .ok (.aload_n 0, 1) := by decide +kernel
theorem dX7_vote_95 : decode cX7_vote 95 = .ok (.getfield 104, 3) := by decide +kernel
theorem dX7_vote_98 : decode cX7_vote 98 = .ok (.bipush 10, 2) := by decide +kernel
theorem dX7_vote_100 : decode cX7_vote 100 = .ok (.iload_n 2, 1) := by decide +kernel
theorem dX7_vote_101 : decode cX7_vote 101 = .ok (.imul, 1) := by decide +kernel
theorem dX7_vote_102 : decode cX7_vote 102 = .ok (.iload_n 1, 1) := by decide +kernel
theorem dX7_vote_103 : decode cX7_vote 103 = .ok (.iadd, 1) := by decide +kernel
theorem dX7_vote_104 : decode cX7_vote 104 = .ok (.iload 4, 2) := by decide +kernel
theorem dX7_vote_106 : decode cX7_vote 106 = .ok (.iastore, 1) := by decide +kernel
theorem dX7_vote_107 : decode cX7_vote 107 = .ok (.aload_n 0, 1) := by decide +kernel
theorem dX7_vote_108 : decode cX7_vote 108 = .ok (.iload 4, 2) := by decide +kernel
theorem dX7_vote_110 : decode cX7_vote 110 = .ok (.invokevirtual 169, 3) := by decide +kernel
theorem dX7_vote_113 : decode cX7_vote 113 = .ok (.ireturn, 1) := by decide +kernel
theorem dX7_style_0 : decode cX7_style 0 = .ok (.aload_n 0, 1) := by decide +kernel
theorem dX7_style_1 : decode cX7_style 1 = .ok (.aload_n 0, 1) := by decide +kernel
theorem dX7_style_2 : decode cX7_style 2 = .ok (.iload_n 1, 1) := by decide +kernel
theorem dX7_style_3 : decode cX7_style 3 = .ok (.invokevirtual 227, 3) := by decide +kernel
theorem dX7_style_6 : decode cX7_style 6 = .ok (.ifCond .eq 7, 3) := by decide +kernel
theorem dX7_style_9 : decode cX7_style 9 = .ok (.iconst 0, 1) := by decide +kernel
theorem dX7_style_10 : decode cX7_style 10 = .ok (.goto 4, 3) := by decide +kernel
theorem dX7_style_13 : decode cX7_style 13 = .ok (.iconst 1, 1) := by decide +kernel
theorem dX7_style_14 : decode cX7_style 14 = .ok (.putfield 37, 3) := by decide +kernel
theorem dX7_style_17 : decode cX7_style 17 = .ok (.aload_n 0, 1) := by decide +kernel
theorem dX7_style_18 : decode cX7_style 18 = .ok (.getfield 37, 3) := by decide +kernel
theorem dX7_style_21 : decode cX7_style 21 = .ok (.ifCond .le 5, 3) := by decide +kernel
theorem dX7_style_24 : decode cX7_style 24 = .ok (.lconst 0, 1) := by decide +kernel
theorem dX7_style_25 : decode cX7_style 25 = .ok (.lreturn, 1) := by decide +kernel
theorem dX7_style_26 : decode cX7_style 26 = .ok (.aload_n 0, 1) := by decide +kernel
theorem dX7_style_27 : decode cX7_style 27 = .ok (.iload_n 1, 1) := by decide +kernel
theorem dX7_style_28 : decode cX7_style 28 = .ok (.invokevirtual 259, 3) := by decide +kernel
theorem dX7_style_31 : decode cX7_style 31 = .ok (.istore_n 3, 1) := by decide +kernel
theorem dX7_style_32 : decode cX7_style 32 = .ok (.aload_n 0, 1) := by decide +kernel
theorem dX7_style_33 : decode cX7_style 33 = .ok (.iload_n 1, 1) := by decide +kernel
theorem dX7_style_34 : decode cX7_style 34 = .ok (.invokevirtual 233, 3) := by decide +kernel
theorem dX7_style_37 : decode cX7_style 37 = .ok (.istore 4, 2) := by decide +kernel
theorem dX7_style_39 : decode cX7_style 39 = .ok (.iload_n 3, 1) := by decide +kernel
theorem dX7_style_40 : decode cX7_style 40 = .ok (.istore 5, 2) := by decide +kernel
theorem dX7_style_42 : decode cX7_style 42 = .ok (.iload 4, 2) := by decide +kernel
theorem dX7_style_44 : decode cX7_style 44 = .ok (.istore 6, 2) := by decide +kernel
theorem dX7_style_46 : decode cX7_style 46 = .ok (.iload 6, 2) := by decide +kernel
theorem dX7_style_48 : decode cX7_style 48 = .ok (.ifCond .le 21, 3) := by decide +kernel
theorem dX7_style_51 : decode cX7_style 51 = .ok (.iload 5, 2) := by decide +kernel
theorem dX7_style_53 : decode cX7_style 53 = .ok (.iload 6, 2) := by decide +kernel
theorem dX7_style_55 : decode cX7_style 55 = .ok (.irem, 1) := by decide +kernel
theorem dX7_style_56 : decode cX7_style 56 = .ok (.istore 7, 2) := by decide +kernel
theorem dX7_style_58 : decode cX7_style 58 = .ok (.iload 6, 2) := by decide +kernel
theorem dX7_style_60 : decode cX7_style 60 = .ok (.istore 5, 2) := by decide +kernel
theorem dX7_style_62 : decode cX7_style 62 = .ok (.iload 7, 2) := by decide +kernel
theorem dX7_style_64 : decode cX7_style 64 = .ok (.istore 6, 2) := by decide +kernel
theorem dX7_style_66 : decode cX7_style 66 = .ok (.goto (-20), 3) := by decide +kernel
theorem dX7_style_69 : decode cX7_style 69 = .ok (.iload 4, 2) := by decide +kernel
theorem dX7_style_71 : decode cX7_style 71 = .ok (.ifCond .ne 7, 3) := by decide +kernel
theorem dX7_style_74 : decode cX7_style 74 = .ok (.lconst 1, 1) := by decide +kernel
theorem dX7_style_75 : decode cX7_style 75 = .ok (.goto 21, 3) := by decide +kernel
theorem dX7_style_78 : decode cX7_style 78 = .ok (.iload_n 2, 1) := by decide +kernel
theorem dX7_style_79 : decode cX7_style 79 = .ok (.ifCond .eq 12, 3) := by decide +kernel
theorem dX7_style_82 : decode cX7_style 82 = .ok (.iload 4, 2) := by decide +kernel
theorem dX7_style_84 : decode cX7_style 84 = .ok (.iload 5, 2) := by decide +kernel
theorem dX7_style_86 : decode cX7_style 86 = .ok (.idiv, 1) := by decide +kernel
theorem dX7_style_87 : decode cX7_style 87 = .ok (.i2l, 1) := by decide +kernel
theorem dX7_style_88 : decode cX7_style 88 = .ok (.goto 8, 3) := by decide +kernel
theorem dX7_style_91 : decode cX7_style 91 = .ok (.iload_n 3, 1) := by decide +kernel
theorem dX7_style_92 : decode cX7_style 92 = .ok (.iload 5, 2) := by decide +kernel
theorem dX7_style_94 : decode cX7_style 94 = .ok (.idiv, 1) := by decide +kernel
theorem dX7_style_95 : decode cX7_style 95 = .ok (.i2l, 1) := by decide +kernel
theorem dX7_style_96 : decode cX7_style 96 = .ok (.lreturn, 1) := by decide +kernel
theorem dX7_review_0 : decode cX7_review 0 = .ok (.aload_n 0, 1) := by decide +kernel
theorem dX7_review_1 : decode cX7_review 1 = .ok (.iload_n 1, 1) := by decide +kernel
theorem dX7_review_2 : decode cX7_review 2 = .ok (.invokevirtual 214, 3) := by decide +kernel
theorem dX7_review_5 : decode cX7_review 5 = .ok (.ifCond .ne 9, 3) := by decide +kernel
theorem dX7_review_8 : decode cX7_review 8 = .ok (.aload_n 0, 1) := by decide +kernel
theorem dX7_review_9 : decode cX7_review 9 = .ok (.iconst 1, 1) := by decide +kernel
theorem dX7_review_10 : decode cX7_review 10 = .ok (.invokevirtual 165, 3) := by decide +kernel
theorem dX7_review_13 : decode cX7_review 13 = .ok (.ireturn, 1) := by decide +kernel
theorem dX7_review_14 : decode cX7_review 14 = .ok (.iconst (-1), 1) := by decide +kernel
theorem dX7_review_15 : decode cX7_review 15 = .ok (.istore_n 2, 1) := by decide +kernel
theorem dX7_review_16 : decode cX7_review 16 = .ok (.iconst 0, 1) := by decide +kernel
theorem dX7_review_17 : decode cX7_review 17 = .ok (.istore_n 3, 1) := by decide +kernel
theorem dX7_review_18 : decode cX7_review 18 = .ok (.iload_n 3, 1) := by decide +kernel
theorem dX7_review_19 : decode cX7_review 19 = .ok (.aload_n 0, 1) := by decide +kernel
theorem dX7_review_20 : decode cX7_review 20 = .ok (.getfield 25, 3) := by decide +kernel
theorem dX7_review_23 : decode cX7_review 23 = .ok (.if_icmp .ge 85, 3) := by decide +kernel
theorem dX7_review_26 : decode cX7_review 26 = .ok (.aload_n 0, 1) := by decide +kernel
theorem dX7_review_27 : decode cX7_review 27 = .ok (.getfield 91, 3) := by decide +kernel
theorem dX7_review_30 : decode cX7_review 30 = .ok (.iload_n 3, 1) := by decide +kernel
theorem dX7_review_31 : decode cX7_review 31 = .ok (.baload, 1) := by decide +kernel
theorem dX7_review_32 : decode cX7_review 32 = .ok (.ifCond .eq 42, 3) := by decide +kernel
theorem dX7_review_35 : decode cX7_review 35 = .ok (.aload_n 0, 1) := by decide +kernel
theorem dX7_review_36 : decode cX7_review 36 = .ok (.getfield 88, 3) := by decide +kernel
theorem dX7_review_39 : decode cX7_review 39 = .ok (.iload_n 3, 1) := by decide +kernel
theorem dX7_review_40 : decode cX7_review 40 = .ok (.caload, 1) := by decide +kernel
theorem dX7_review_41 : decode cX7_review 41 = .ok (.bipush 115, 2) := by decide +kernel
theorem dX7_review_43 : decode cX7_review 43 = .ok (.if_icmp .ne 31, 3) := by decide +kernel
theorem dX7_review_46 : decode cX7_review 46 = .ok (.aload_n 0, 1) := by decide +kernel
theorem dX7_review_47 : decode cX7_review 47 = .ok (.getfield 78, 3) := by decide +kernel
theorem dX7_review_50 : decode cX7_review 50 = .ok (.iload_n 3, 1) := by decide +kernel
theorem dX7_review_51 : decode cX7_review 51 = .ok (.iaload, 1) := by decide +kernel
theorem dX7_review_52 : decode cX7_review 52 = .ok (.iload_n 1, 1) := by decide +kernel
theorem dX7_review_53 : decode cX7_review 53 = .ok (.if_icmp .eq 21, 3) := by decide +kernel
theorem dX7_review_56 : decode cX7_review 56 = .ok (.aload_n 0, 1) := by decide +kernel
theorem dX7_review_57 : decode cX7_review 57 = .ok (.getfield 101, 3) := by decide +kernel
theorem dX7_review_60 : decode cX7_review 60 = .ok (.bipush 10, 2) := by decide +kernel
theorem dX7_review_62 : decode cX7_review 62 = .ok (.iload_n 3, 1) := by decide +kernel
theorem dX7_review_63 : decode cX7_review 63 = .ok (.imul, 1) := by decide +kernel
theorem dX7_review_64 : decode cX7_review 64 = .ok (.iload_n 1, 1) := by decide +kernel
theorem dX7_review_65 : decode cX7_review 65 = .ok (.iadd, 1) := by decide +kernel
theorem dX7_review_66 : decode cX7_review 66 = .ok (.iaload, 1) := by decide +kernel
theorem dX7_review_67 : decode cX7_review 67 = .ok (.ifCond .ne 7, 3) := by decide +kernel
theorem dX7_review_70 : decode cX7_review 70 = .ok (.iconst 1, 1) := by decide +kernel
theorem dX7_review_71 : decode cX7_review 71 = .ok (.goto 4, 3) := by decide +kernel
theorem dX7_review_74 : decode cX7_review 74 = .ok (.iconst 0, 1) := by decide +kernel
theorem dX7_review_75 : decode cX7_review 75 = .ok (.istore 4, 2) := by decide +kernel
theorem dX7_review_77 : decode cX7_review 77 = .ok (.iload 4, 2) := by decide +kernel
theorem dX7_review_79 : decode cX7_review 79 = .ok (.ifCond .eq 21, 3) := by decide +kernel
theorem dX7_review_82 : decode cX7_review 82 = .ok (.iload_n 2, 1) := by decide +kernel
theorem dX7_review_83 : decode cX7_review 83 = .ok (.iconst (-1), 1) := by decide +kernel
theorem dX7_review_84 : decode cX7_review 84 = .ok (.if_icmp .eq 12, 3) := by decide +kernel
theorem dX7_review_87 : decode cX7_review 87 = .ok (.aload_n 0, 1) := by decide +kernel
theorem dX7_review_88 : decode cX7_review 88 = .ok (.iload_n 3, 1) := by decide +kernel
theorem dX7_review_89 : decode cX7_review 89 = .ok (.iload_n 2, 1) := by decide +kernel
theorem dX7_review_90 : decode cX7_review 90 = .ok (.invokevirtual 262, 3) := by decide +kernel
theorem dX7_review_93 : decode cX7_review 93 = .ok (.ifCond .eq 7, 3) := by decide +kernel
theorem dX7_review_96 : decode cX7_review 96 = .ok (.iload_n 3, 1) := by decide +kernel
theorem dX7_review_97 : decode cX7_review 97 = .ok (.goto 4, 3) := by decide +kernel
theorem dX7_review_100 : decode cX7_review 100 = .ok (.iload_n 2, 1) := by decide +kernel
theorem dX7_review_101 : decode cX7_review 101 = .ok (.istore_n 2, 1) := by decide +kernel
theorem dX7_review_102 : decode cX7_review 102 = .ok (.iinc 3 1, 3) := by decide +kernel
theorem dX7_review_105 : decode cX7_review 105 = .ok (.goto (-87), 3) := by decide +kernel
theorem dX7_review_108 : decode cX7_review 108 = .ok (.iload_n 2, 1) := by decide +kernel
theorem dX7_review_109 : decode cX7_review 109 = .ok (.iconst (-1), 1) := by decide +kernel
theorem dX7_review_110 : decode cX7_review 110 = .ok (.if_icmp .ne 11, 3) := by decide +kernel
theorem dX7_review_113 : decode cX7_review 113 = .ok (.aload_n 0, 1) := by decide +kernel
theorem dX7_review_114 : decode cX7_review 114 = .ok (.iconst 2, 1) := by decide +kernel
theorem dX7_review_115 : decode cX7_review 115 = .ok (.invokevirtual 165, 3) := by decide +kernel
theorem dX7_review_118 : decode cX7_review 118 = .ok (.goto 8, 3) := by decide +kernel
theorem dX7_review_121 : decode cX7_review 121 = .ok (.aload_n 0, 1) := by decide +kernel
theorem dX7_review_122 : decode cX7_review 122 = .ok (.iload_n 2, 1) := by decide +kernel
theorem dX7_review_123 : decode cX7_review 123 = .ok (.invokevirtual 169, 3) := by decide +kernel
theorem dX7_review_126 : decode cX7_review 126 = .ok (.ireturn, 1) := by decide +kernel
theorem dX7_isAhead_0 : decode cX7_isAhead 0 = .ok (.aload_n 0, 1) := by decide +kernel
theorem dX7_isAhead_1 : decode cX7_isAhead 1 = .ok (.iload_n 2, 1) := by decide +kernel
theorem dX7_isAhead_2 : decode cX7_isAhead 2 = .ok (.invokevirtual 230, 3) := by decide +kernel
theorem dX7_isAhead_5 : decode cX7_isAhead 5 = .ok (.aload_n 0, 1) := by decide +kernel
theorem dX7_isAhead_6 : decode cX7_isAhead 6 = .ok (.iload_n 1, 1) := by decide +kernel
theorem dX7_isAhead_7 : decode cX7_isAhead 7 = .ok (.invokevirtual 230, 3) := by decide +kernel
theorem dX7_isAhead_10 : decode cX7_isAhead 10 = .ok (.isub, 1) := by decide +kernel
theorem dX7_isAhead_11 : decode cX7_isAhead 11 = .ok (.istore_n 3, 1) := by decide +kernel
theorem dX7_isAhead_12 : decode cX7_isAhead 12 = .ok (.iload_n 3, 1) := by decide +kernel
theorem dX7_isAhead_13 : decode cX7_isAhead 13 = .ok (.ifCond .gt 32, 3) := by decide +kernel
theorem dX7_isAhead_16 : decode cX7_isAhead 16 = .ok (.iload_n 3, 1) := by decide +kernel
theorem dX7_isAhead_17 : decode cX7_isAhead 17 = .ok (.ifCond .ne 32, 3) := by decide +kernel
theorem dX7_isAhead_20 : decode cX7_isAhead 20 = .ok (.aload_n 0, 1) := by decide +kernel
theorem dX7_isAhead_21 : decode cX7_isAhead 21 = .ok (.getfield 57, 3) := by decide +kernel
theorem dX7_isAhead_24 : decode cX7_isAhead 24 = .ok (.aload_n 0, 1) := by decide +kernel
theorem dX7_isAhead_25 : decode cX7_isAhead 25 = .ok (.getfield 81, 3) := by decide +kernel
theorem dX7_isAhead_28 : decode cX7_isAhead 28 = .ok (.iload_n 1, 1) := by decide +kernel
theorem dX7_isAhead_29 : decode cX7_isAhead 29 = .ok (.iaload, 1) := by decide +kernel
theorem dX7_isAhead_30 : decode cX7_isAhead 30 = .ok (.iaload, 1) := by decide +kernel
theorem dX7_isAhead_31 : decode cX7_isAhead 31 = .ok (.aload_n 0, 1) := by decide +kernel
theorem dX7_isAhead_32 : decode cX7_isAhead 32 = .ok (.getfield 57, 3) := by decide +kernel
theorem dX7_isAhead_35 : decode cX7_isAhead 35 = .ok (.aload_n 0, 1) := by decide +kernel
theorem dX7_isAhead_36 : decode cX7_isAhead 36 = .ok (.getfield 81, 3) := by decide +kernel
theorem dX7_isAhead_39 : decode cX7_isAhead 39 = .ok (.iload_n 2, 1) := by decide +kernel
theorem dX7_isAhead_40 : decode cX7_isAhead 40 = .ok (.iaload, 1) := by decide +kernel
theorem dX7_isAhead_41 : decode cX7_isAhead 41 = .ok (.iaload, 1) := by decide +kernel
theorem dX7_isAhead_42 : decode cX7_isAhead 42 = .ok (.if_icmp .ge 7, 3) := by decide +kernel
theorem dX7_isAhead_45 : decode cX7_isAhead 45 = .ok (.iconst 1, 1) := by decide +kernel
theorem dX7_isAhead_46 : decode cX7_isAhead 46 = .ok (.goto 4, 3) := by decide +kernel
theorem dX7_isAhead_49 : decode cX7_isAhead 49 = .ok (.iconst 0, 1) := by decide +kernel
theorem dX7_isAhead_50 : decode cX7_isAhead 50 = .ok (.ireturn, 1) := by decide +kernel
theorem dX7_counts_0 : decode cX7_counts 0 = .ok (.aload_n 0, 1) := by decide +kernel
theorem dX7_counts_1 : decode cX7_counts 1 = .ok (.getfield 88, 3) := by decide +kernel
theorem dX7_counts_4 : decode cX7_counts 4 = .ok (.iload_n 1, 1) := by decide +kernel
theorem dX7_counts_5 : decode cX7_counts 5 = .ok (.caload, 1) := by decide +kernel
theorem dX7_counts_6 : decode cX7_counts 6 = .ok (.bipush 115, 2) := by decide +kernel
theorem dX7_counts_8 : decode cX7_counts 8 = .ok (.if_icmp .eq 25, 3) := by decide +kernel
theorem dX7_counts_11 : decode cX7_counts 11 = .ok (.aload_n 0, 1) := by decide +kernel
theorem dX7_counts_12 : decode cX7_counts 12 = .ok (.getfield 88, 3) := by decide +kernel
theorem dX7_counts_15 : decode cX7_counts 15 = .ok (.iload_n 1, 1) := by decide +kernel
theorem dX7_counts_16 : decode cX7_counts 16 = .ok (.caload, 1) := by decide +kernel
theorem dX7_counts_17 : decode cX7_counts 17 = .ok (.bipush 112, 2) := by decide +kernel
theorem dX7_counts_19 : decode cX7_counts 19 = .ok (.if_icmp .eq 14, 3) := by decide +kernel
theorem dX7_counts_22 : decode cX7_counts 22 = .ok (.aload_n 0, 1) := by decide +kernel
theorem dX7_counts_23 : decode cX7_counts 23 = .ok (.getfield 88, 3) := by decide +kernel
theorem dX7_counts_26 : decode cX7_counts 26 = .ok (.iload_n 1, 1) := by decide +kernel
theorem dX7_counts_27 : decode cX7_counts 27 = .ok (.caload, 1) := by decide +kernel
theorem dX7_counts_28 : decode cX7_counts 28 = .ok (.bipush 99, 2) := by decide +kernel
theorem dX7_counts_30 : decode cX7_counts 30 = .ok (.if_icmp .ne 7, 3) := by decide +kernel
theorem dX7_counts_33 : decode cX7_counts 33 = .ok (.iconst 1, 1) := by decide +kernel
theorem dX7_counts_34 : decode cX7_counts 34 = .ok (.goto 4, 3) := by decide +kernel
theorem dX7_counts_37 : decode cX7_counts 37 = .ok (.iconst 0, 1) := by decide +kernel
theorem dX7_counts_38 : decode cX7_counts 38 = .ok (.ireturn, 1) := by decide +kernel
theorem dX7_isGreater_0 : decode cX7_isGreater 0 = .ok (.aload_n 0, 1) := by decide +kernel
theorem dX7_isGreater_1 : decode cX7_isGreater 1 = .ok (.iload_n 1, 1) := by decide +kernel
theorem dX7_isGreater_2 : decode cX7_isGreater 2 = .ok (.invokevirtual 233, 3) := by decide +kernel
theorem dX7_isGreater_5 : decode cX7_isGreater 5 = .ok (.ifCond .ne 7, 3) := by decide +kernel
theorem dX7_isGreater_8 : decode cX7_isGreater 8 = .ok (.iconst 1, 1) := by decide +kernel
theorem dX7_isGreater_9 : decode cX7_isGreater 9 = .ok (.goto 8, 3) := by decide +kernel
theorem dX7_isGreater_12 : decode cX7_isGreater 12 = .ok (.aload_n 0, 1) := by decide +kernel
theorem dX7_isGreater_13 : decode cX7_isGreater 13 = .ok (.iload_n 1, 1) := by decide +kernel
theorem dX7_isGreater_14 : decode cX7_isGreater 14 = .ok (.invokevirtual 233, 3) := by decide +kernel
theorem dX7_isGreater_17 : decode cX7_isGreater 17 = .ok (.istore_n 3, 1) := by decide +kernel
theorem dX7_isGreater_18 : decode cX7_isGreater 18 = .ok (.aload_n 0, 1) := by decide +kernel
theorem dX7_isGreater_19 : decode cX7_isGreater 19 = .ok (.iload_n 2, 1) := by decide +kernel
theorem dX7_isGreater_20 : decode cX7_isGreater 20 = .ok (.invokevirtual 233, 3) := by decide +kernel
theorem dX7_isGreater_23 : decode cX7_isGreater 23 = .ok (.ifCond .ne 7, 3) := by decide +kernel
theorem dX7_isGreater_26 : decode cX7_isGreater 26 = .ok (.iconst 1, 1) := by decide +kernel
theorem dX7_isGreater_27 : decode cX7_isGreater 27 = .ok (.goto 8, 3) := by decide +kernel
theorem dX7_isGreater_30 : decode cX7_isGreater 30 = .ok (.aload_n 0, 1) := by decide +kernel
theorem dX7_isGreater_31 : decode cX7_isGreater 31 = .ok (.iload_n 2, 1) := by decide +kernel
theorem dX7_isGreater_32 : decode cX7_isGreater 32 = .ok (.invokevirtual 233, 3) := by decide +kernel
theorem dX7_isGreater_35 : decode cX7_isGreater 35 = .ok (.istore 4, 2) := by decide +kernel
theorem dX7_isGreater_37 : decode cX7_isGreater 37 = .ok (.aload_n 0, 1) := by decide +kernel
theorem dX7_isGreater_38 : decode cX7_isGreater 38 = .ok (.iload_n 1, 1) := by decide +kernel
theorem dX7_isGreater_39 : decode cX7_isGreater 39 = .ok (.invokevirtual 233, 3) := by decide +kernel
theorem dX7_isGreater_42 : decode cX7_isGreater 42 = .ok (.ifCond .ne 7, 3) := by decide +kernel
theorem dX7_isGreater_45 : decode cX7_isGreater 45 = .ok (.iconst 1, 1) := by decide +kernel
theorem dX7_isGreater_46 : decode cX7_isGreater 46 = .ok (.goto 8, 3) := by decide +kernel
theorem dX7_isGreater_49 : decode cX7_isGreater 49 = .ok (.aload_n 0, 1) := by decide +kernel
theorem dX7_isGreater_50 : decode cX7_isGreater 50 = .ok (.iload_n 1, 1) := by decide +kernel
theorem dX7_isGreater_51 : decode cX7_isGreater 51 = .ok (.invokevirtual 259, 3) := by decide +kernel
theorem dX7_isGreater_54 : decode cX7_isGreater 54 = .ok (.istore 5, 2) := by decide +kernel
theorem dX7_isGreater_56 : decode cX7_isGreater 56 = .ok (.aload_n 0, 1) := by decide +kernel
theorem dX7_isGreater_57 : decode cX7_isGreater 57 = .ok (.iload_n 2, 1) := by decide +kernel
theorem dX7_isGreater_58 : decode cX7_isGreater 58 = .ok (.invokevirtual 233, 3) := by decide +kernel
theorem dX7_isGreater_61 : decode cX7_isGreater 61 = .ok (.ifCond .ne 7, 3) := by decide +kernel
theorem dX7_isGreater_64 : decode cX7_isGreater 64 = .ok (.iconst 1, 1) := by decide +kernel
theorem dX7_isGreater_65 : decode cX7_isGreater 65 = .ok (.goto 8, 3) := by decide +kernel
theorem dX7_isGreater_68 : decode cX7_isGreater 68 = .ok (.aload_n 0, 1) := by decide +kernel
theorem dX7_isGreater_69 : decode cX7_isGreater 69 = .ok (.iload_n 2, 1) := by decide +kernel
theorem dX7_isGreater_70 : decode cX7_isGreater 70 = .ok (.invokevirtual 259, 3) := by decide +kernel
theorem dX7_isGreater_73 : decode cX7_isGreater 73 = .ok (.istore 6, 2) := by decide +kernel
theorem dX7_isGreater_75 : decode cX7_isGreater 75 = .ok (.iload 5, 2) := by decide +kernel
theorem dX7_isGreater_77 : decode cX7_isGreater 77 = .ok (.iload 4, 2) := by decide +kernel
theorem dX7_isGreater_79 : decode cX7_isGreater 79 = .ok (.imul, 1) := by decide +kernel
theorem dX7_isGreater_80 : decode cX7_isGreater 80 = .ok (.iload 6, 2) := by decide +kernel
theorem dX7_isGreater_82 : decode cX7_isGreater 82 = .ok (.iload_n 3, 1) := by decide +kernel
theorem dX7_isGreater_83 : decode cX7_isGreater 83 = .ok (.imul, 1) := by decide +kernel
theorem dX7_isGreater_84 : decode cX7_isGreater 84 = .ok (.if_icmp .le 7, 3) := by decide +kernel
theorem dX7_isGreater_87 : decode cX7_isGreater 87 = .ok (.iconst 1, 1) := by decide +kernel
theorem dX7_isGreater_88 : decode cX7_isGreater 88 = .ok (.goto 4, 3) := by decide +kernel
theorem dX7_isGreater_91 : decode cX7_isGreater 91 = .ok (.iconst 0, 1) := by decide +kernel
theorem dX7_isGreater_92 : decode cX7_isGreater 92 = .ok (.ireturn, 1) := by decide +kernel
theorem dX7_bestOf_0 : decode cX7_bestOf 0 = .ok (.iconst (-1), 1) := by decide +kernel
theorem dX7_bestOf_1 : decode cX7_bestOf 1 = .ok (.istore_n 3, 1) := by decide +kernel
theorem dX7_bestOf_2 : decode cX7_bestOf 2 = .ok (.iconst 0, 1) := by decide +kernel
theorem dX7_bestOf_3 : decode cX7_bestOf 3 = .ok (.istore 4, 2) := by decide +kernel
theorem dX7_bestOf_5 : decode cX7_bestOf 5 = .ok (.iload 4, 2) := by decide +kernel
theorem dX7_bestOf_7 : decode cX7_bestOf 7 = .ok (.aload_n 0, 1) := by decide +kernel
theorem dX7_bestOf_8 : decode cX7_bestOf 8 = .ok (.getfield 25, 3) := by decide +kernel
theorem dX7_bestOf_11 : decode cX7_bestOf 11 = .ok (.if_icmp .ge 74, 3) := by decide +kernel
theorem dX7_bestOf_14 : decode cX7_bestOf 14 = .ok (.aload_n 0, 1) := by decide +kernel
theorem dX7_bestOf_15 : decode cX7_bestOf 15 = .ok (.getfield 78, 3) := by decide +kernel
theorem dX7_bestOf_18 : decode cX7_bestOf 18 = .ok (.iload 4, 2) := by decide +kernel
theorem dX7_bestOf_20 : decode cX7_bestOf 20 = .ok (.iaload, 1) := by decide +kernel
theorem dX7_bestOf_21 : decode cX7_bestOf 21 = .ok (.iload_n 1, 1) := by decide +kernel
theorem dX7_bestOf_22 : decode cX7_bestOf 22 = .ok (.if_icmp .ne 27, 3) := by decide +kernel
theorem dX7_bestOf_25 : decode cX7_bestOf 25 = .ok (.aload_n 0, 1) := by decide +kernel
theorem dX7_bestOf_26 : decode cX7_bestOf 26 = .ok (.getfield 81, 3) := by decide +kernel
theorem dX7_bestOf_29 : decode cX7_bestOf 29 = .ok (.iload 4, 2) := by decide +kernel
theorem dX7_bestOf_31 : decode cX7_bestOf 31 = .ok (.iaload, 1) := by decide +kernel
theorem dX7_bestOf_32 : decode cX7_bestOf 32 = .ok (.iload_n 2, 1) := by decide +kernel
theorem dX7_bestOf_33 : decode cX7_bestOf 33 = .ok (.if_icmp .ne 16, 3) := by decide +kernel
theorem dX7_bestOf_36 : decode cX7_bestOf 36 = .ok (.aload_n 0, 1) := by decide +kernel
theorem dX7_bestOf_37 : decode cX7_bestOf 37 = .ok (.iload 4, 2) := by decide +kernel
theorem dX7_bestOf_39 : decode cX7_bestOf 39 = .ok (.invokevirtual 265, 3) := by decide +kernel
theorem dX7_bestOf_42 : decode cX7_bestOf 42 = .ok (.ifCond .eq 7, 3) := by decide +kernel
theorem dX7_bestOf_45 : decode cX7_bestOf 45 = .ok (.iconst 1, 1) := by decide +kernel
theorem dX7_bestOf_46 : decode cX7_bestOf 46 = .ok (.goto 4, 3) := by decide +kernel
theorem dX7_bestOf_49 : decode cX7_bestOf 49 = .ok (.iconst 0, 1) := by decide +kernel
theorem dX7_bestOf_50 : decode cX7_bestOf 50 = .ok (.istore 5, 2) := by decide +kernel
theorem dX7_bestOf_52 : decode cX7_bestOf 52 = .ok (.iload 5, 2) := by decide +kernel
theorem dX7_bestOf_54 : decode cX7_bestOf 54 = .ok (.ifCond .eq 23, 3) := by decide +kernel
theorem dX7_bestOf_57 : decode cX7_bestOf 57 = .ok (.iload_n 3, 1) := by decide +kernel
theorem dX7_bestOf_58 : decode cX7_bestOf 58 = .ok (.iconst (-1), 1) := by decide +kernel
theorem dX7_bestOf_59 : decode cX7_bestOf 59 = .ok (.if_icmp .eq 13, 3) := by decide +kernel
theorem dX7_bestOf_62 : decode cX7_bestOf 62 = .ok (.aload_n 0, 1) := by decide +kernel
theorem dX7_bestOf_63 : decode cX7_bestOf 63 = .ok (.iload 4, 2) := by decide +kernel
theorem dX7_bestOf_65 : decode cX7_bestOf 65 = .ok (.iload_n 3, 1) := by decide +kernel
theorem dX7_bestOf_66 : decode cX7_bestOf 66 = .ok (.invokevirtual 268, 3) := by decide +kernel
theorem dX7_bestOf_69 : decode cX7_bestOf 69 = .ok (.ifCond .eq 8, 3) := by decide +kernel
theorem dX7_bestOf_72 : decode cX7_bestOf 72 = .ok (.iload 4, 2) := by decide +kernel
theorem dX7_bestOf_74 : decode cX7_bestOf 74 = .ok (.goto 4, 3) := by decide +kernel
theorem dX7_bestOf_77 : decode cX7_bestOf 77 = .ok (.iload_n 3, 1) := by decide +kernel
theorem dX7_bestOf_78 : decode cX7_bestOf 78 = .ok (.istore_n 3, 1) := by decide +kernel
theorem dX7_bestOf_79 : decode cX7_bestOf 79 = .ok (.iinc 4 1, 3) := by decide +kernel
theorem dX7_bestOf_82 : decode cX7_bestOf 82 = .ok (.goto (-77), 3) := by decide +kernel
theorem dX7_bestOf_85 : decode cX7_bestOf 85 = .ok (.iload_n 3, 1) := by decide +kernel
theorem dX7_bestOf_86 : decode cX7_bestOf 86 = .ok (.ireturn, 1) := by decide +kernel
theorem dX7_best_0 : decode cX7_best 0 = .ok (.aload_n 0, 1) := by decide +kernel
theorem dX7_best_1 : decode cX7_best 1 = .ok (.iload_n 1, 1) := by decide +kernel
theorem dX7_best_2 : decode cX7_best 2 = .ok (.invokevirtual 214, 3) := by decide +kernel
theorem dX7_best_5 : decode cX7_best 5 = .ok (.ifCond .eq 11, 3) := by decide +kernel
theorem dX7_best_8 : decode cX7_best 8 = .ok (.aload_n 0, 1) := by decide +kernel
theorem dX7_best_9 : decode cX7_best 9 = .ok (.iload_n 2, 1) := by decide +kernel
theorem dX7_best_10 : decode cX7_best 10 = .ok (.invokevirtual 192, 3) := by decide +kernel
theorem dX7_best_13 : decode cX7_best 13 = .ok (.ifCond .ne 9, 3) := by decide +kernel
theorem dX7_best_16 : decode cX7_best 16 = .ok (.aload_n 0, 1) := by decide +kernel
theorem dX7_best_17 : decode cX7_best 17 = .ok (.iconst 1, 1) := by decide +kernel
theorem dX7_best_18 : decode cX7_best 18 = .ok (.invokevirtual 165, 3) := by decide +kernel
theorem dX7_best_21 : decode cX7_best 21 = .ok (.ireturn, 1) := by decide +kernel
theorem dX7_best_22 : decode cX7_best 22 = .ok (.aload_n 0, 1) := by decide +kernel
theorem dX7_best_23 : decode cX7_best 23 = .ok (.iload_n 1, 1) := by decide +kernel
theorem dX7_best_24 : decode cX7_best 24 = .ok (.iload_n 2, 1) := by decide +kernel
theorem dX7_best_25 : decode cX7_best 25 = .ok (.invokevirtual 271, 3) := by decide +kernel
theorem dX7_best_28 : decode cX7_best 28 = .ok (.istore_n 3, 1) := by decide +kernel
theorem dX7_best_29 : decode cX7_best 29 = .ok (.iload_n 3, 1) := by decide +kernel
theorem dX7_best_30 : decode cX7_best 30 = .ok (.iconst (-1), 1) := by decide +kernel
theorem dX7_best_31 : decode cX7_best 31 = .ok (.if_icmp .ne 11, 3) := by decide +kernel
theorem dX7_best_34 : decode cX7_best 34 = .ok (.aload_n 0, 1) := by decide +kernel
theorem dX7_best_35 : decode cX7_best 35 = .ok (.iconst 2, 1) := by decide +kernel
theorem dX7_best_36 : decode cX7_best 36 = .ok (.invokevirtual 165, 3) := by decide +kernel
theorem dX7_best_39 : decode cX7_best 39 = .ok (.goto 8, 3) := by decide +kernel
theorem dX7_best_42 : decode cX7_best 42 = .ok (.aload_n 0, 1) := by decide +kernel
theorem dX7_best_43 : decode cX7_best 43 = .ok (.iload_n 3, 1) := by decide +kernel
theorem dX7_best_44 : decode cX7_best 44 = .ok (.invokevirtual 169, 3) := by decide +kernel
theorem dX7_best_47 : decode cX7_best 47 = .ok (.ireturn, 1) := by decide +kernel
theorem dX7_pointsOf_0 : decode cX7_pointsOf 0 = .ok (.fconst 0, 1) := by decide +kernel
theorem dX7_pointsOf_1 : decode cX7_pointsOf 1 = .ok (.fstore_n 2, 1) := by decide +kernel
theorem dX7_pointsOf_2 : decode cX7_pointsOf 2 = .ok (.iconst 0, 1) := by decide +kernel
theorem dX7_pointsOf_3 : decode cX7_pointsOf 3 = .ok (.istore_n 3, 1) := by decide +kernel
theorem dX7_pointsOf_4 : decode cX7_pointsOf 4 = .ok (.iload_n 3, 1) := by decide +kernel
theorem dX7_pointsOf_5 : decode cX7_pointsOf 5 = .ok (.aload_n 0, 1) := by decide +kernel
theorem dX7_pointsOf_6 : decode cX7_pointsOf 6 = .ok (.getfield 19, 3) := by decide +kernel
theorem dX7_pointsOf_9 : decode cX7_pointsOf 9 = .ok (.if_icmp .ge 70, 3) := by decide +kernel
theorem dX7_pointsOf_12 : decode cX7_pointsOf 12 = .ok (.aload_n 0, 1) := by decide +kernel
theorem dX7_pointsOf_13 : decode cX7_pointsOf 13 = .ok (.iload_n 1, 1) := by decide +kernel
theorem dX7_pointsOf_14 : decode cX7_pointsOf 14 = .ok (.iload_n 3, 1) := by decide +kernel
theorem dX7_pointsOf_15 : decode cX7_pointsOf 15 = .ok (.invokevirtual 271, 3) := by decide +kernel
theorem dX7_pointsOf_18 : decode cX7_pointsOf 18 = .ok (.istore 4, 2) := by decide +kernel
theorem dX7_pointsOf_20 : decode cX7_pointsOf 20 = .ok (.iload 4, 2) := by decide +kernel
theorem dX7_pointsOf_22 : decode cX7_pointsOf 22 = .ok (.iconst (-1), 1) := by decide +kernel
theorem dX7_pointsOf_23 : decode cX7_pointsOf 23 = .ok (.if_icmp .ne 6, 3) := by decide +kernel
theorem dX7_pointsOf_26 : decode cX7_pointsOf 26 = .ok (.goto 47, 3) := by decide +kernel
theorem dX7_pointsOf_29 : decode cX7_pointsOf 29 = .ok (.aload_n 0, 1) := by decide +kernel
theorem dX7_pointsOf_30 : decode cX7_pointsOf 30 = .ok (.iload 4, 2) := by decide +kernel
theorem dX7_pointsOf_32 : decode cX7_pointsOf 32 = .ok (.invokevirtual 233, 3) := by decide +kernel
theorem dX7_pointsOf_35 : decode cX7_pointsOf 35 = .ok (.istore 5, 2) := by decide +kernel
theorem dX7_pointsOf_37 : decode cX7_pointsOf 37 = .ok (.fload_n 2, 1) := by decide +kernel
theorem dX7_pointsOf_38 : decode cX7_pointsOf 38 = .ok (.iload 5, 2) := by decide +kernel
theorem dX7_pointsOf_40 : decode cX7_pointsOf 40 = .ok (.ifCond .ne 13, 3) := by decide +kernel
theorem dX7_pointsOf_43 : decode cX7_pointsOf 43 = .ok (.aload_n 0, 1) := by decide +kernel
theorem dX7_pointsOf_44 : decode cX7_pointsOf 44 = .ok (.getfield 57, 3) := by decide +kernel
theorem dX7_pointsOf_47 : decode cX7_pointsOf 47 = .ok (.iload_n 3, 1) := by decide +kernel
theorem dX7_pointsOf_48 : decode cX7_pointsOf 48 = .ok (.iaload, 1) := by decide +kernel
theorem dX7_pointsOf_49 : decode cX7_pointsOf 49 = .ok (.i2f, 1) := by decide +kernel
theorem dX7_pointsOf_50 : decode cX7_pointsOf 50 = .ok (.goto 21, 3) := by decide +kernel
theorem dX7_pointsOf_53 : decode cX7_pointsOf 53 = .ok (.aload_n 0, 1) := by decide +kernel
theorem dX7_pointsOf_54 : decode cX7_pointsOf 54 = .ok (.getfield 57, 3) := by decide +kernel
theorem dX7_pointsOf_57 : decode cX7_pointsOf 57 = .ok (.iload_n 3, 1) := by decide +kernel
theorem dX7_pointsOf_58 : decode cX7_pointsOf 58 = .ok (.iaload, 1) := by decide +kernel
theorem dX7_pointsOf_59 : decode cX7_pointsOf 59 = .ok (.aload_n 0, 1) := by decide +kernel
theorem dX7_pointsOf_60 : decode cX7_pointsOf 60 = .ok (.iload 4, 2) := by decide +kernel
theorem dX7_pointsOf_62 : decode cX7_pointsOf 62 = .ok (.invokevirtual 259, 3) := by decide +kernel
theorem dX7_pointsOf_65 : decode cX7_pointsOf 65 = .ok (.imul, 1) := by decide +kernel
theorem dX7_pointsOf_66 : decode cX7_pointsOf 66 = .ok (.i2f, 1) := by decide +kernel
theorem dX7_pointsOf_67 : decode cX7_pointsOf 67 = .ok (.iload 5, 2) := by decide +kernel
theorem dX7_pointsOf_69 : decode cX7_pointsOf 69 = .ok (.i2f, 1) := by decide +kernel
theorem dX7_pointsOf_70 : decode cX7_pointsOf 70 = .ok (.fdiv, 1) := by decide +kernel
theorem dX7_pointsOf_71 : decode cX7_pointsOf 71 = .ok (.fadd, 1) := by decide +kernel
theorem dX7_pointsOf_72 : decode cX7_pointsOf 72 = .ok (.fstore_n 2, 1) := by decide +kernel
theorem dX7_pointsOf_73 : decode cX7_pointsOf 73 = .ok (.iinc 3 1, 3) := by decide +kernel
theorem dX7_pointsOf_76 : decode cX7_pointsOf 76 = .ok (.goto (-72), 3) := by decide +kernel
theorem dX7_pointsOf_79 : decode cX7_pointsOf 79 = .ok (.fload_n 2, 1) := by decide +kernel
theorem dX7_pointsOf_80 : decode cX7_pointsOf 80 = .ok (.freturn, 1) := by decide +kernel
theorem dX7_beltOf_0 : decode cX7_beltOf 0 = .ok (.iconst 0, 1) := by decide +kernel
theorem dX7_beltOf_1 : decode cX7_beltOf 1 = .ok (.istore_n 2, 1) := by decide +kernel
theorem dX7_beltOf_2 : decode cX7_beltOf 2 = .ok (.iconst 0, 1) := by decide +kernel
theorem dX7_beltOf_3 : decode cX7_beltOf 3 = .ok (.istore_n 3, 1) := by decide +kernel
theorem dX7_beltOf_4 : decode cX7_beltOf 4 = .ok (.iload_n 3, 1) := by decide +kernel
theorem dX7_beltOf_5 : decode cX7_beltOf 5 = .ok (.aload_n 0, 1) := by decide +kernel
theorem dX7_beltOf_6 : decode cX7_beltOf 6 = .ok (.getfield 19, 3) := by decide +kernel
theorem dX7_beltOf_9 : decode cX7_beltOf 9 = .ok (.if_icmp .ge 27, 3) := by decide +kernel
theorem dX7_beltOf_12 : decode cX7_beltOf 12 = .ok (.iload_n 2, 1) := by decide +kernel
theorem dX7_beltOf_13 : decode cX7_beltOf 13 = .ok (.aload_n 0, 1) := by decide +kernel
theorem dX7_beltOf_14 : decode cX7_beltOf 14 = .ok (.iload_n 1, 1) := by decide +kernel
theorem dX7_beltOf_15 : decode cX7_beltOf 15 = .ok (.iload_n 3, 1) := by decide +kernel
theorem dX7_beltOf_16 : decode cX7_beltOf 16 = .ok (.invokevirtual 271, 3) := by decide +kernel
theorem dX7_beltOf_19 : decode cX7_beltOf 19 = .ok (.iconst (-1), 1) := by decide +kernel
theorem dX7_beltOf_20 : decode cX7_beltOf 20 = .ok (.if_icmp .ne 7, 3) := by decide +kernel
theorem dX7_beltOf_23 : decode cX7_beltOf 23 = .ok (.iconst 0, 1) := by decide +kernel
theorem dX7_beltOf_24 : decode cX7_beltOf 24 = .ok (.goto 4, 3) := by decide +kernel
theorem dX7_beltOf_27 : decode cX7_beltOf 27 = .ok (.iconst 1, 1) := by decide +kernel
theorem dX7_beltOf_28 : decode cX7_beltOf 28 = .ok (.iadd, 1) := by decide +kernel
theorem dX7_beltOf_29 : decode cX7_beltOf 29 = .ok (.istore_n 2, 1) := by decide +kernel
theorem dX7_beltOf_30 : decode cX7_beltOf 30 = .ok (.iinc 3 1, 3) := by decide +kernel
theorem dX7_beltOf_33 : decode cX7_beltOf 33 = .ok (.goto (-29), 3) := by decide +kernel
theorem dX7_beltOf_36 : decode cX7_beltOf 36 = .ok (.aload_n 0, 1) := by decide +kernel
theorem dX7_beltOf_37 : decode cX7_beltOf 37 = .ok (.iload_n 1, 1) := by decide +kernel
theorem dX7_beltOf_38 : decode cX7_beltOf 38 = .ok (.invokevirtual 274, 3) := by decide +kernel
theorem dX7_beltOf_41 : decode cX7_beltOf 41 = .ok (.fstore_n 3, 1) := by decide +kernel
theorem dX7_beltOf_42 : decode cX7_beltOf 42 = .ok (.iconst 0, 1) := by decide +kernel
theorem dX7_beltOf_43 : decode cX7_beltOf 43 = .ok (.istore 4, 2) := by decide +kernel
theorem dX7_beltOf_45 : decode cX7_beltOf 45 = .ok (.iconst 1, 1) := by decide +kernel
theorem dX7_beltOf_46 : decode cX7_beltOf 46 = .ok (.istore 5, 2) := by decide +kernel
theorem dX7_beltOf_48 : decode cX7_beltOf 48 = .ok (.iload 5, 2) := by decide +kernel
theorem dX7_beltOf_50 : decode cX7_beltOf 50 = .ok (.bipush 6, 2) := by decide +kernel
theorem dX7_beltOf_52 : decode cX7_beltOf 52 = .ok (.if_icmp .ge 39, 3) := by decide +kernel
theorem dX7_beltOf_55 : decode cX7_beltOf 55 = .ok (.iload_n 2, 1) := by decide +kernel
theorem dX7_beltOf_56 : decode cX7_beltOf 56 = .ok (.iload 5, 2) := by decide +kernel
theorem dX7_beltOf_58 : decode cX7_beltOf 58 = .ok (.if_icmp .lt 23, 3) := by decide +kernel
theorem dX7_beltOf_61 : decode cX7_beltOf 61 = .ok (.fload_n 3, 1) := by decide +kernel
theorem dX7_beltOf_62 : decode cX7_beltOf 62 = .ok (.iconst 2, 1) := by decide +kernel
theorem dX7_beltOf_63 : decode cX7_beltOf 63 = .ok (.iload 5, 2) := by decide +kernel
theorem dX7_beltOf_65 : decode cX7_beltOf 65 = .ok (.imul, 1) := by decide +kernel
theorem dX7_beltOf_66 : decode cX7_beltOf 66 = .ok (.iload 5, 2) := by decide +kernel
theorem dX7_beltOf_68 : decode cX7_beltOf 68 = .ok (.iconst 1, 1) := by decide +kernel
theorem dX7_beltOf_69 : decode cX7_beltOf 69 = .ok (.iadd, 1) := by decide +kernel
theorem dX7_beltOf_70 : decode cX7_beltOf 70 = .ok (.imul, 1) := by decide +kernel
theorem dX7_beltOf_71 : decode cX7_beltOf 71 = .ok (.i2f, 1) := by decide +kernel
theorem dX7_beltOf_72 : decode cX7_beltOf 72 = .ok (.fcmp .l, 1) := by decide +kernel
theorem dX7_beltOf_73 : decode cX7_beltOf 73 = .ok (.ifCond .lt 8, 3) := by decide +kernel
theorem dX7_beltOf_76 : decode cX7_beltOf 76 = .ok (.iload 5, 2) := by decide +kernel
theorem dX7_beltOf_78 : decode cX7_beltOf 78 = .ok (.goto 5, 3) := by decide +kernel
theorem dX7_beltOf_81 : decode cX7_beltOf 81 = .ok (.iload 4, 2) := by decide +kernel
theorem dX7_beltOf_83 : decode cX7_beltOf 83 = .ok (.istore 4, 2) := by decide +kernel
theorem dX7_beltOf_85 : decode cX7_beltOf 85 = .ok (.iinc 5 1, 3) := by decide +kernel
theorem dX7_beltOf_88 : decode cX7_beltOf 88 = .ok (.goto (-40), 3) := by decide +kernel
theorem dX7_beltOf_91 : decode cX7_beltOf 91 = .ok (.iload 4, 2) := by decide +kernel
theorem dX7_beltOf_93 : decode cX7_beltOf 93 = .ok (.ireturn, 1) := by decide +kernel
theorem dX7_points_0 : decode cX7_points 0 = .ok (.aload_n 0, 1) := by decide +kernel
theorem dX7_points_1 : decode cX7_points 1 = .ok (.aload_n 0, 1) := by decide +kernel
theorem dX7_points_2 : decode cX7_points 2 = .ok (.iload_n 1, 1) := by decide +kernel
theorem dX7_points_3 : decode cX7_points 3 = .ok (.invokevirtual 214, 3) := by decide +kernel
theorem dX7_points_6 : decode cX7_points 6 = .ok (.ifCond .eq 7, 3) := by decide +kernel
theorem dX7_points_9 : decode cX7_points 9 = .ok (.iconst 0, 1) := by decide +kernel
theorem dX7_points_10 : decode cX7_points 10 = .ok (.goto 4, 3) := by decide +kernel
theorem dX7_points_13 : decode cX7_points 13 = .ok (.iconst 1, 1) := by decide +kernel
theorem dX7_points_14 : decode cX7_points 14 = .ok (.putfield 37, 3) := by decide +kernel
theorem dX7_points_17 : decode cX7_points 17 = .ok (.aload_n 0, 1) := by decide +kernel
theorem dX7_points_18 : decode cX7_points 18 = .ok (.getfield 37, 3) := by decide +kernel
theorem dX7_points_21 : decode cX7_points 21 = .ok (.ifCond .le 7, 3) := by decide +kernel
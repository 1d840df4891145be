theorem dX6_give_23 : decode cX6_give 23 = .ok (.ldc_w 350, 3) := by decide +kernel
theorem dX6_give_26 : decode cX6_give 26 = .ok (.invokespecial 171, 3) := by decide +kernel
theorem dX6_give_29 : decode cX6_give 29 = .ok (.athrow, 1) := by decide +kernel
theorem dX6_give_30 : decode cX6_give 30 = .ok (.aload_n 3, 1) := by decide +kernel
theorem dX6_give_31 : decode cX6_give 31 = .ok (.iload_n 2, 1) := by decide +kernel
theorem dX6_give_32 : decode cX6_give 32 = .ok (.invokevirtual 352, 3) := by decide +kernel
theorem dX6_give_35 : decode cX6_give 35 = .ok (.istore 4, 2) := by decide +kernel
theorem dX6_give_37 : decode cX6_give 37 = .ok (.iload 4, 2) := by decide +kernel
theorem dX6_give_39 : decode cX6_give 39 = .ok (.iconst (-1), 1) := by decide +kernel
theorem dX6_give_40 : decode cX6_give 40 = .ok (.if_icmp .ne 14, 3) := by decide +kernel
theorem dX6_give_43 : decode cX6_give 43 = .ok (.new 186, 3) := by decide +kernel
theorem dX6_give_46 : decode cX6_give 46 = .ok (.dup, 1) := by decide +kernel
theorem dX6_give_47 : decode cX6_give 47 = .ok (.ldc_w 355, 3) := by decide +kernel
theorem dX6_give_50 : decode cX6_give 50 = .ok (.invokespecial 190, 3) := by decide +kernel
theorem dX6_give_53 : decode cX6_give 53 = .ok (.athrow, 1) := by decide +kernel
theorem dX6_give_54 : decode cX6_give 54 = .ok (.aload_n 0, 1) := by decide +kernel
theorem dX6_give_55 : decode cX6_give 55 = .ok (.iload_n 2, 1) := by decide +kernel
theorem dX6_give_56 : decode cX6_give 56 = .ok (.aload_n 3, 1) := by decide +kernel
theorem dX6_give_57 : decode cX6_give 57 = .ok (.getfield 357, 3) := by decide +kernel
theorem dX6_give_60 : decode cX6_give 60 = .ok (.iload 4, 2) := by decide +kernel
theorem dX6_give_62 : decode cX6_give 62 = .ok (.aaload, 1) := by decide +kernel
theorem dX6_give_63 : decode cX6_give 63 = .ok (.aload_n 3, 1) := by decide +kernel
theorem dX6_give_64 : decode cX6_give 64 = .ok (.invokevirtual 361, 3) := by decide +kernel
theorem dX6_give_67 : decode cX6_give 67 = .ok (.ireturn, 1) := by decide +kernel
theorem dX6_answer_0 : decode cX6_answer 0 = .ok (.aload_n 0, 1) := by decide +kernel
theorem dX6_answer_1 : decode cX6_answer 1 = .ok (.iload_n 1, 1) := by decide +kernel
theorem dX6_answer_2 : decode cX6_answer 2 = .ok (.invokevirtual 199, 3) := by decide +kernel
theorem dX6_answer_5 : decode cX6_answer 5 = .ok (.astore_n 3, 1) := by decide +kernel
theorem dX6_answer_6 : decode cX6_answer 6 = .ok (.aload_n 0, 1) := by decide +kernel
theorem dX6_answer_7 : decode cX6_answer 7 = .ok (.iload_n 2, 1) := by decide +kernel
theorem dX6_answer_8 : decode cX6_answer 8 = .ok (.invokevirtual 219, 3) := by decide +kernel
theorem dX6_answer_11 : decode cX6_answer 11 = .ok (.astore 4, 2) := by decide +kernel
theorem dX6_answer_13 : decode cX6_answer 13 = .ok (.aload 4, 2) := by decide +kernel
theorem dX6_answer_15 : decode cX6_answer 15 = .ok (.getfield 238, 3) := by decide +kernel
theorem dX6_answer_18 : decode cX6_answer 18 = .ok (.bipush 99, 2) := by decide +kernel
theorem dX6_answer_20 : decode cX6_answer 20 = .ok (.if_icmp .ne 13, 3) := by decide +kernel
theorem dX6_answer_23 : decode cX6_answer 23 = .ok (.aload_n 0, 1) := by decide +kernel
theorem dX6_answer_24 : decode cX6_answer 24 = .ok (.getfield 10, 3) := by decide +kernel
theorem dX6_answer_27 : decode cX6_answer 27 = .ok (.invokevirtual 163, 3) := by decide +kernel
theorem dX6_answer_30 : decode cX6_answer 30 = .ok (.ifCond .ne 14, 3) := by decide +kernel
theorem dX6_answer_33 : decode cX6_answer 33 = .ok (.new 167, 3) := by decide +kernel
theorem dX6_answer_36 : decode cX6_answer 36 = .ok (.dup, 1) := by decide +kernel
theorem dX6_answer_37 : decode cX6_answer 37 = .ok (.ldc_w 365, 3) := by decide +kernel
theorem dX6_answer_40 : decode cX6_answer 40 = .ok (.invokespecial 171, 3) := by decide +kernel
theorem dX6_answer_43 : decode cX6_answer 43 = .ok (.athrow, 1) := by decide +kernel
theorem dX6_answer_44 : decode cX6_answer 44 = .ok (.aload_n 0, 1) := by decide +kernel
theorem dX6_answer_45 : decode cX6_answer 45 = .ok (.aload_n 0, 1) := by decide +kernel
theorem dX6_answer_46 : decode cX6_answer 46 = .ok (.getfield 10, 3) := by decide +kernel
theorem dX6_answer_49 : decode cX6_answer 49 = .ok (.aload 4, 2) := by decide +kernel
theorem dX6_answer_51 : decode cX6_answer 51 = .ok (.invokevirtual 367, 3) := by decide +kernel
theorem dX6_answer_54 : decode cX6_answer 54 = .ok (.ifCond .ne 6, 3) := by decide +kernel
theorem dX6_answer_57 : decode cX6_answer 57 = .ok (.bipush 45, 2) := by decide +kernel
theorem dX6_answer_59 : decode cX6_answer 59 = .ok (.ireturn, 1) := by decide +kernel
theorem dX6_answer_60 : decode cX6_answer 60 = .ok (.aload_n 0, 1) := by decide +kernel
theorem dX6_answer_61 : decode cX6_answer 61 = .ok (.iload_n 2, 1) := by decide +kernel
theorem dX6_answer_62 : decode cX6_answer 62 = .ok (.aload_n 0, 1) := by decide +kernel
theorem dX6_answer_63 : decode cX6_answer 63 = .ok (.getfield 10, 3) := by decide +kernel
theorem dX6_answer_66 : decode cX6_answer 66 = .ok (.aload_n 3, 1) := by decide +kernel
theorem dX6_answer_67 : decode cX6_answer 67 = .ok (.invokevirtual 361, 3) := by decide +kernel
theorem dX6_answer_70 : decode cX6_answer 70 = .ok (.ireturn, 1) := by decide +kernel
theorem dX6_open_0 : decode cX6_open 0 = .ok (.iload_n 1, 1) := by decide +kernel
theorem dX6_open_1 : decode cX6_open 1 = .ok (.ifCond .lt 11, 3) := by decide +kernel
theorem dX6_open_4 : decode cX6_open 4 = .ok (.iload_n 1, 1) := by decide +kernel
theorem dX6_open_5 : decode cX6_open 5 = .ok (.aload_n 0, 1) := by decide +kernel
theorem dX6_open_6 : decode cX6_open 6 = .ok (.getfield 68, 3) := by decide +kernel
theorem dX6_open_9 : decode cX6_open 9 = .ok (.if_icmp .lt 14, 3) := by decide +kernel
theorem dX6_open_12 : decode cX6_open 12 = .ok (.new 186, 3) := by decide +kernel
theorem dX6_open_15 : decode cX6_open 15 = .ok (.dup, 1) := by decide +kernel
theorem dX6_open_16 : decode cX6_open 16 = .ok (.ldc_w 371, 3) := by decide +kernel
theorem dX6_open_19 : decode cX6_open 19 = .ok (.invokespecial 190, 3) := by decide +kernel
theorem dX6_open_22 : decode cX6_open 22 = .ok (.athrow, 1) := by decide +kernel
theorem dX6_open_23 : decode cX6_open 23 = .ok (.aload_n 0, 1) := by decide +kernel
theorem dX6_open_24 : decode cX6_open 24 = .ok (.getfield 41, 3) := by decide +kernel
theorem dX6_open_27 : decode cX6_open 27 = .ok (.iload_n 1, 1) := by decide +kernel
theorem dX6_open_28 : decode cX6_open 28 = .ok (.iaload, 1) := by decide +kernel
theorem dX6_open_29 : decode cX6_open 29 = .ok (.ireturn, 1) := by decide +kernel
theorem dX6_left_0 : decode cX6_left 0 = .ok (.aload_n 0, 1) := by decide +kernel
theorem dX6_left_1 : decode cX6_left 1 = .ok (.iload_n 1, 1) := by decide +kernel
theorem dX6_left_2 : decode cX6_left 2 = .ok (.invokevirtual 219, 3) := by decide +kernel
theorem dX6_left_5 : decode cX6_left 5 = .ok (.astore_n 2, 1) := by decide +kernel
theorem dX6_left_6 : decode cX6_left 6 = .ok (.aload_n 2, 1) := by decide +kernel
theorem dX6_left_7 : decode cX6_left 7 = .ok (.getfield 238, 3) := by decide +kernel
theorem dX6_left_10 : decode cX6_left 10 = .ok (.bipush 99, 2) := by decide +kernel
theorem dX6_left_12 : decode cX6_left 12 = .ok (.if_icmp .eq 14, 3) := by decide +kernel
theorem dX6_left_15 : decode cX6_left 15 = .ok (.new 167, 3) := by decide +kernel
theorem dX6_left_18 : decode cX6_left 18 = .ok (.dup, 1) := by decide +kernel
theorem dX6_left_19 : decode cX6_left 19 = .ok (.ldc_w 350, 3) := by decide +kernel
theorem dX6_left_22 : decode cX6_left 22 = .ok (.invokespecial 171, 3) := by decide +kernel
theorem dX6_left_25 : decode cX6_left 25 = .ok (.athrow, 1) := by decide +kernel
theorem dX6_left_26 : decode cX6_left 26 = .ok (.aload_n 2, 1) := by decide +kernel
theorem dX6_left_27 : decode cX6_left 27 = .ok (.getfield 347, 3) := by decide +kernel
theorem dX6_left_30 : decode cX6_left 30 = .ok (.ireturn, 1) := by decide +kernel
theorem dX6_days_0 : decode cX6_days 0 = .ok (.iload_n 1, 1) := by decide +kernel
theorem dX6_days_1 : decode cX6_days 1 = .ok (.iconst 1, 1) := by decide +kernel
theorem dX6_days_2 : decode cX6_days 2 = .ok (.if_icmp .lt 9, 3) := by decide +kernel
theorem dX6_days_5 : decode cX6_days 5 = .ok (.iload_n 1, 1) := by decide +kernel
theorem dX6_days_6 : decode cX6_days 6 = .ok (.bipush 30, 2) := by decide +kernel
theorem dX6_days_8 : decode cX6_days 8 = .ok (.if_icmp .le 14, 3) := by decide +kernel
theorem dX6_days_11 : decode cX6_days 11 = .ok (.new 92, 3) := by decide +kernel
theorem dX6_days_14 : decode cX6_days 14 = .ok (.dup, 1) := by decide +kernel
theorem dX6_days_15 : decode cX6_days 15 = .ok (.ldc_w 373, 3) := by decide +kernel
theorem dX6_days_18 : decode cX6_days 18 = .ok (.invokespecial 96, 3) := by decide +kernel
theorem dX6_days_21 : decode cX6_days 21 = .ok (.athrow, 1) := by decide +kernel
theorem dX6_days_22 : decode cX6_days 22 = .ok (.iconst 0, 1) := by decide +kernel
theorem dX6_days_23 : decode cX6_days 23 = .ok (.istore_n 2, 1) := by decide +kernel
theorem dX6_days_24 : decode cX6_days 24 = .ok (.aload_n 0, 1) := by decide +kernel
theorem dX6_days_25 : decode cX6_days 25 = .ok (.getfield 68, 3) := by decide +kernel
theorem dX6_days_28 : decode cX6_days 28 = .ok (.iconst 1, 1) := by decide +kernel
theorem dX6_days_29 : decode cX6_days 29 = .ok (.isub, 1) := by decide +kernel
theorem dX6_days_30 : decode cX6_days 30 = .ok (.istore_n 3, 1) := by decide +kernel
theorem dX6_days_31 : decode cX6_days 31 = .ok (.iload_n 3, 1) := by decide +kernel
theorem dX6_days_32 : decode cX6_days 32 = .ok (.ifCond .lt 91, 3) := by decide +kernel
theorem dX6_days_35 : decode cX6_days 35 = .ok (.aload_n 0, 1) := by decide +kernel
theorem dX6_days_36 : decode cX6_days 36 = .ok (.getfield 41, 3) := by decide +kernel
theorem dX6_days_39 : decode cX6_days 39 = .ok (.iload_n 3, 1) := by decide +kernel
theorem dX6_days_40 : decode cX6_days 40 = .ok (.iaload, 1) := by decide +kernel
theorem dX6_days_41 : decode cX6_days 41 = .ok (.istore 4, 2) := by decide +kernel
theorem dX6_days_43 : decode cX6_days 43 = .ok (.aload_n 0, 1) := by decide +kernel
theorem dX6_days_44 : decode cX6_days 44 = .ok (.getfield 37, 3) := by decide +kernel
theorem dX6_days_47 : decode cX6_days 47 = .ok (.iload 4, 2) := by decide +kernel
theorem dX6_days_49 : decode cX6_days 49 = .ok (.aaload, 1) := by decide +kernel
theorem dX6_days_50 : decode cX6_days 50 = .ok (.dup, 1) := by decide +kernel
theorem dX6_days_51 : decode cX6_days 51 = .ok (.getfield 347, 3) := by decide +kernel
theorem dX6_days_54 : decode cX6_days 54 = .ok (.iload_n 1, 1) := by decide +kernel
theorem dX6_days_55 : decode cX6_days 55 = .ok (.isub, 1) := by decide +kernel
theorem dX6_days_56 : decode cX6_days 56 = .ok (.putfield 347, 3) := by decide +kernel
theorem dX6_days_59 : decode cX6_days 59 = .ok (.aload_n 0, 1) := by decide +kernel
theorem dX6_days_60 : decode cX6_days 60 = .ok (.getfield 37, 3) := by decide +kernel
theorem dX6_days_63 : decode cX6_days 63 = .ok (.iload 4, 2) := by decide +kernel
theorem dX6_days_65 : decode cX6_days 65 = .ok (.aaload, 1) := by decide +kernel
theorem dX6_days_66 : decode cX6_days 66 = .ok (.getfield 347, 3) := by decide +kernel
theorem dX6_days_69 : decode cX6_days 69 = .ok (.ifCond .gt 48, 3) := by decide +kernel
theorem dX6_days_72 : decode cX6_days 72 = .ok (.aload_n 0, 1) := by decide +kernel
theorem dX6_days_73 : decode cX6_days 73 = .ok (.iload 4, 2) := by decide +kernel
theorem dX6_days_75 : decode cX6_days 75 = .ok (.invokevirtual 375, 3) := by decide +kernel
theorem dX6_days_78 : decode cX6_days 78 = .ok (.aload_n 0, 1) := by decide +kernel
theorem dX6_days_79 : decode cX6_days 79 = .ok (.getfield 37, 3) := by decide +kernel
theorem dX6_days_82 : decode cX6_days 82 = .ok (.iload 4, 2) := by decide +kernel
theorem dX6_days_84 : decode cX6_days 84 = .ok (.aaload, 1) := by decide +kernel
theorem dX6_days_85 : decode cX6_days 85 = .ok (.bipush 98, 2) := by decide +kernel
theorem dX6_days_87 : decode cX6_days 87 = .ok (.putfield 238, 3) := by decide +kernel
theorem dX6_days_90 : decode cX6_days 90 = .ok (.aload_n 0, 1) := by decide +kernel
theorem dX6_days_91 : decode cX6_days 91 = .ok (.getfield 31, 3) := by decide +kernel
theorem dX6_days_94 : decode cX6_days 94 = .ok (.aload_n 0, 1) := by decide +kernel
theorem dX6_days_95 : decode cX6_days 95 = .ok (.getfield 37, 3) := by decide +kernel
theorem dX6_days_98 : decode cX6_days 98 = .ok (.iload 4, 2) := by decide +kernel
theorem dX6_days_100 : decode cX6_days 100 = .ok (.aaload, 1) := by decide +kernel
theorem dX6_days_101 : decode cX6_days 101 = .ok (.getfield 344, 3) := by decide +kernel
theorem dX6_days_104 : decode cX6_days 104 = .ok (.aaload, 1) := by decide +kernel
theorem dX6_days_105 : decode cX6_days 105 = .ok (.dup, 1) := by decide +kernel
theorem dX6_days_106 : decode cX6_days 106 = .ok (.getfield 331, 3) := by decide +kernel
theorem dX6_days_109 : decode cX6_days 109 = .ok (.iconst 5, 1) := by decide +kernel
theorem dX6_days_110 : decode cX6_days 110 = .ok (.iadd, 1) := by decide +kernel
theorem dX6_days_111 : decode cX6_days 111 = .ok (.putfield 331, 3) := by decide +kernel
theorem dX6_days_114 : decode cX6_days 114 = .ok (.iinc 2 1, 3) := by decide +kernel
theorem dX6_days_117 : decode cX6_days 117 = .ok (.iinc 3 (-1), 3) := by decide +kernel
theorem dX6_days_120 : decode cX6_days 120 = .ok (.goto (-89), 3) := by decide +kernel
theorem dX6_days_123 : decode cX6_days 123 = .ok (.iload_n 2, 1) := by decide +kernel
theorem dX6_days_124 : decode cX6_days 124 = .ok (.ireturn, 1) := by decide +kernel
theorem dX6_checksum_0 : decode cX6_checksum 0 = .ok (.ldc2_w 378, 3) := by decide +kernel
theorem dX6_checksum_3 : decode cX6_checksum 3 = .ok (.lstore_n 1, 1) := by decide +kernel
theorem dX6_checksum_4 : decode cX6_checksum 4 = .ok (.iconst 0, 1) := by decide +kernel
theorem dX6_checksum_5 : decode cX6_checksum 5 = .ok (.istore_n 3, 1) := by decide +kernel
theorem dX6_checksum_6 : decode cX6_checksum 6 = .ok (.iload_n 3, 1) := by decide +kernel
theorem dX6_checksum_7 : decode cX6_checksum 7 = .ok (.aload_n 0, 1) := by decide +kernel
theorem dX6_checksum_8 : decode cX6_checksum 8 = .ok (.getfield 65, 3) := by decide +kernel
theorem dX6_checksum_11 : decode cX6_checksum 11 = .ok (.if_icmp .ge 43, 3) := by decide +kernel
theorem dX6_checksum_14 : decode cX6_checksum 14 = .ok (.lload_n 1, 1) := by decide +kernel
theorem dX6_checksum_15 : decode cX6_checksum 15 = .ok (.ldc2_w 380, 3) := by decide +kernel
theorem dX6_checksum_18 : decode cX6_checksum 18 = .ok (.lmul, 1) := by decide +kernel
theorem dX6_checksum_19 : decode cX6_checksum 19 = .ok (.aload_n 0, 1) := by decide +kernel
theorem dX6_checksum_20 : decode cX6_checksum 20 = .ok (.getfield 37, 3) := by decide +kernel
theorem dX6_checksum_23 : decode cX6_checksum 23 = .ok (.iload_n 3, 1) := by decide +kernel
theorem dX6_checksum_24 : decode cX6_checksum 24 = .ok (.aaload, 1) := by decide +kernel
theorem dX6_checksum_25 : decode cX6_checksum 25 = .ok (.getfield 238, 3) := by decide +kernel
theorem dX6_checksum_28 : decode cX6_checksum 28 = .ok (.i2l, 1) := by decide +kernel
theorem dX6_checksum_29 : decode cX6_checksum 29 = .ok (.ladd, 1) := by decide +kernel
theorem dX6_checksum_30 : decode cX6_checksum 30 = .ok (.lstore_n 1, 1) := by decide +kernel
theorem dX6_checksum_31 : decode cX6_checksum 31 = .ok (.lload_n 1, 1) := by decide +kernel
theorem dX6_checksum_32 : decode cX6_checksum 32 = .ok (.ldc2_w 380, 3) := by decide +kernel
theorem dX6_checksum_35 : decode cX6_checksum 35 = .ok (.lmul, 1) := by decide +kernel
theorem dX6_checksum_36 : decode cX6_checksum 36 = .ok (.aload_n 0, 1) := by decide +kernel
theorem dX6_checksum_37 : decode cX6_checksum 37 = .ok (.getfield 37, 3) := by decide +kernel
theorem dX6_checksum_40 : decode cX6_checksum 40 = .ok (.iload_n 3, 1) := by decide +kernel
theorem dX6_checksum_41 : decode cX6_checksum 41 = .ok (.aaload, 1) := by decide +kernel
theorem dX6_checksum_42 : decode cX6_checksum 42 = .ok (.getfield 382, 3) := by decide +kernel
theorem dX6_checksum_45 : decode cX6_checksum 45 = .ok (.i2l, 1) := by decide +kernel
theorem dX6_checksum_46 : decode cX6_checksum 46 = .ok (.ladd, 1) := by decide +kernel
theorem dX6_checksum_47 : decode cX6_checksum 47 = .ok (.lstore_n 1, 1) := by decide +kernel
theorem dX6_checksum_48 : decode cX6_checksum 48 = .ok (.iinc 3 1, 3) := by decide +kernel
theorem dX6_checksum_51 : decode cX6_checksum 51 = .ok (.goto (-45), 3) := by decide +kernel
theorem dX6_checksum_54 : decode cX6_checksum 54 = .ok (.iconst 0, 1) := by decide +kernel
theorem dX6_checksum_55 : decode cX6_checksum 55 = .ok (.istore_n 3, 1) := by decide +kernel
theorem dX6_checksum_56 : decode cX6_checksum 56 = .ok (.iload_n 3, 1) := by decide +kernel
theorem dX6_checksum_57 : decode cX6_checksum 57 = .ok (.aload_n 0, 1) := by decide +kernel
theorem dX6_checksum_58 : decode cX6_checksum 58 = .ok (.getfield 62, 3) := by decide +kernel
theorem dX6_checksum_61 : decode cX6_checksum 61 = .ok (.if_icmp .ge 26, 3) := by decide +kernel
theorem dX6_checksum_64 : decode cX6_checksum 64 = .ok (.lload_n 1, 1) := by decide +kernel
theorem dX6_checksum_65 : decode cX6_checksum 65 = .ok (.ldc2_w 380, 3) := by decide +kernel
theorem dX6_checksum_68 : decode cX6_checksum 68 = .ok (.lmul, 1) := by decide +kernel
theorem dX6_checksum_69 : decode cX6_checksum 69 = .ok (.aload_n 0, 1) := by decide +kernel
theorem dX6_checksum_70 : decode cX6_checksum 70 = .ok (.getfield 31, 3) := by decide +kernel
theorem dX6_checksum_73 : decode cX6_checksum 73 = .ok (.iload_n 3, 1) := by decide +kernel
theorem dX6_checksum_74 : decode cX6_checksum 74 = .ok (.aaload, 1) := by decide +kernel
theorem dX6_checksum_75 : decode cX6_checksum 75 = .ok (.getfield 331, 3) := by decide +kernel
theorem dX6_checksum_78 : decode cX6_checksum 78 = .ok (.i2l, 1) := by decide +kernel
theorem dX6_checksum_79 : decode cX6_checksum 79 = .ok (.ladd, 1) := by decide +kernel
theorem dX6_checksum_80 : decode cX6_checksum 80 = .ok (.lstore_n 1, 1) := by decide +kernel
theorem dX6_checksum_81 : decode cX6_checksum 81 = .ok (.iinc 3 1, 3) := by decide +kernel
theorem dX6_checksum_84 : decode cX6_checksum 84 = .ok (.goto (-28), 3) := by decide +kernel
theorem dX6_checksum_87 : decode cX6_checksum 87 = .ok (.lload_n 1, 1) := by decide +kernel
theorem dX6_checksum_88 : decode cX6_checksum 88 = .ok (.lreturn, 1) := by decide +kernel
theorem dX6_standingShare_0 : decode cX6_standingShare 0 = .ok (.aload_n 0, 1) := by decide +kernel
theorem dX6_standingShare_1 : decode cX6_standingShare 1 = .ok (.getfield 65, 3) := by decide +kernel
theorem dX6_standingShare_4 : decode cX6_standingShare 4 = .ok (.ifCond .ne 14, 3) := by decide +kernel
theorem dX6_standingShare_7 : decode cX6_standingShare 7 = .ok (.new 385, 3) := by decide +kernel
theorem dX6_standingShare_10 : decode cX6_standingShare 10 = .ok (.dup, 1) := by decide +kernel
theorem dX6_standingShare_11 : decode cX6_standingShare 11 = .ok (.ldc_w 387, 3) := by decide +kernel
theorem dX6_standingShare_14 : decode cX6_standingShare 14 = .ok (.invokespecial 389, 3) := by decide +kernel
theorem dX6_standingShare_17 : decode cX6_standingShare 17 = .ok (.athrow, 1) := by decide +kernel
theorem dX6_standingShare_18 : decode cX6_standingShare 18 = .ok (.iconst 0, 1) := by decide +kernel
theorem dX6_standingShare_19 : decode cX6_standingShare 19 = .ok (.istore_n 1, 1) := by decide +kernel
theorem dX6_standingShare_20 : decode cX6_standingShare 20 = .ok (.iconst 0, 1) := by decide +kernel
theorem dX6_standingShare_21 : decode cX6_standingShare 21 = .ok (.istore_n 2, 1) := by decide +kernel
theorem dX6_standingShare_22 : decode cX6_standingShare 22 = .ok (.iload_n 2, 1) := by decide +kernel
theorem dX6_standingShare_23 : decode cX6_standingShare 23 = .ok (.aload_n 0, 1) := by decide +kernel
theorem dX6_standingShare_24 : decode cX6_standingShare 24 = .ok (.getfield 65, 3) := by decide +kernel
theorem dX6_standingShare_27 : decode cX6_standingShare 27 = .ok (.if_icmp .ge 24, 3) := by decide +kernel
theorem dX6_standingShare_30 : decode cX6_standingShare 30 = .ok (.aload_n 0, 1) := by decide +kernel
theorem dX6_standingShare_31 : decode cX6_standingShare 31 = .ok (.getfield 37, 3) := by decide +kernel
theorem dX6_standingShare_34 : decode cX6_standingShare 34 = .ok (.iload_n 2, 1) := by decide +kernel
theorem dX6_standingShare_35 : decode cX6_standingShare 35 = .ok (.aaload, 1) := by decide +kernel
theorem dX6_standingShare_36 : decode cX6_standingShare 36 = .ok (.invokevirtual 390, 3) := by decide +kernel
theorem dX6_standingShare_39 : decode cX6_standingShare 39 = .ok (.ifCond .eq 6, 3) := by decide +kernel
theorem dX6_standingShare_42 : decode cX6_standingShare 42 = .ok (.iinc 1 1, 3) := by decide +kernel
theorem dX6_standingShare_45 : decode cX6_standingShare 45 = .ok (.iinc 2 1, 3) := by decide +kernel
theorem dX6_standingShare_48 : decode cX6_standingShare 48 = .ok (.goto (-26), 3) := by decide +kernel
theorem dX6_standingShare_51 : decode cX6_standingShare 51 = .ok (.iload_n 1, 1) := by decide +kernel
theorem dX6_standingShare_52 : decode cX6_standingShare 52 = .ok (.i2f, 1) := by decide +kernel
theorem dX6_standingShare_53 : decode cX6_standingShare 53 = .ok (.aload_n 0, 1) := by decide +kernel
theorem dX6_standingShare_54 : decode cX6_standingShare 54 = .ok (.getfield 65, 3) := by decide +kernel
theorem dX6_standingShare_57 : decode cX6_standingShare 57 = .ok (.i2f, 1) := by decide +kernel
theorem dX6_standingShare_58 : decode cX6_standingShare 58 = .ok (.fdiv, 1) := by decide +kernel
theorem dX6_standingShare_59 : decode cX6_standingShare 59 = .ok (.freturn, 1) := by decide +kernel
theorem dX6_meanSteps_0 : decode cX6_meanSteps 0 = .ok (.aload_n 0, 1) := by decide +kernel
theorem dX6_meanSteps_1 : decode cX6_meanSteps 1 = .ok (.iload_n 1, 1) := by decide +kernel
theorem dX6_meanSteps_2 : decode cX6_meanSteps 2 = .ok (.invokevirtual 219, 3) := by decide +kernel
theorem dX6_meanSteps_5 : decode cX6_meanSteps 5 = .ok (.astore_n 2, 1) := by decide +kernel
theorem dX6_meanSteps_6 : decode cX6_meanSteps 6 = .ok (.iconst 0, 1) := by decide +kernel
theorem dX6_meanSteps_7 : decode cX6_meanSteps 7 = .ok (.istore_n 3, 1) := by decide +kernel
theorem dX6_meanSteps_8 : decode cX6_meanSteps 8 = .ok (.iconst 0, 1) := by decide +kernel
theorem dX6_meanSteps_9 : decode cX6_meanSteps 9 = .ok (.istore 4, 2) := by decide +kernel
theorem dX6_meanSteps_11 : decode cX6_meanSteps 11 = .ok (.iconst 0, 1) := by decide +kernel
theorem dX6_meanSteps_12 : decode cX6_meanSteps 12 = .ok (.istore 5, 2) := by decide +kernel
theorem dX6_meanSteps_14 : decode cX6_meanSteps 14 = .ok (.iload 5, 2) := by decide +kernel
theorem dX6_meanSteps_16 : decode cX6_meanSteps 16 = .ok (.aload_n 0, 1) := by decide +kernel
theorem dX6_meanSteps_17 : decode cX6_meanSteps 17 = .ok (.getfield 25, 3) := by decide +kernel
theorem dX6_meanSteps_20 : decode cX6_meanSteps 20 = .ok (.aload_n 2, 1) := by decide +kernel
theorem dX6_meanSteps_21 : decode cX6_meanSteps 21 = .ok (.getfield 226, 3) := by decide +kernel
theorem dX6_meanSteps_24 : decode cX6_meanSteps 24 = .ok (.aaload, 1) := by decide +kernel
theorem dX6_meanSteps_25 : decode cX6_meanSteps 25 = .ok (.getfield 146, 3) := by decide +kernel
theorem dX6_meanSteps_28 : decode cX6_meanSteps 28 = .ok (.if_icmp .ge 32, 3) := by decide +kernel
theorem dX6_meanSteps_31 : decode cX6_meanSteps 31 = .ok (.aload_n 0, 1) := by decide +kernel
theorem dX6_meanSteps_32 : decode cX6_meanSteps 32 = .ok (.aload_n 2, 1) := by decide +kernel
theorem dX6_meanSteps_33 : decode cX6_meanSteps 33 = .ok (.iload 5, 2) := by decide +kernel
theorem dX6_meanSteps_35 : decode cX6_meanSteps 35 = .ok (.invokevirtual 246, 3) := by decide +kernel
theorem dX6_meanSteps_38 : decode cX6_meanSteps 38 = .ok (.istore 6, 2) := by decide +kernel
theorem dX6_meanSteps_40 : decode cX6_meanSteps 40 = .ok (.iload 6, 2) := by decide +kernel
theorem dX6_meanSteps_42 : decode cX6_meanSteps 42 = .ok (.iconst (-1), 1) := by decide +kernel
theorem dX6_meanSteps_43 : decode cX6_meanSteps 43 = .ok (.if_icmp .eq 11, 3) := by decide +kernel
theorem dX6_meanSteps_46 : decode cX6_meanSteps 46 = .ok (.iload_n 3, 1) := by decide +kernel
theorem dX6_meanSteps_47 : decode cX6_meanSteps 47 = .ok (.iload 6, 2) := by decide +kernel
theorem dX6_meanSteps_49 : decode cX6_meanSteps 49 = .ok (.iadd, 1) := by decide +kernel
theorem dX6_meanSteps_50 : decode cX6_meanSteps 50 = .ok (.istore_n 3, 1) := by decide +kernel
theorem dX6_meanSteps_51 : decode cX6_meanSteps 51 = .ok (.iinc 4 1, 3) := by decide +kernel
theorem dX6_meanSteps_54 : decode cX6_meanSteps 54 = .ok (.iinc 5 1, 3) := by decide +kernel
theorem dX6_meanSteps_57 : decode cX6_meanSteps 57 = .ok (.goto (-43), 3) := by decide +kernel
theorem dX6_meanSteps_60 : decode cX6_meanSteps 60 = .ok (.iload 4, 2) := by decide +kernel
theorem dX6_meanSteps_62 : decode cX6_meanSteps 62 = .ok (.ifCond .ne 14, 3) := by decide +kernel
theorem dX6_meanSteps_65 : decode cX6_meanSteps 65 = .ok (.new 385, 3) := by decide +kernel
theorem dX6_meanSteps_68 : decode cX6_meanSteps 68 = .ok (.dup, 1) := by decide +kernel
theorem dX6_meanSteps_69 : decode cX6_meanSteps 69 = .ok (.ldc_w 393, 3) := by decide +kernel
theorem dX6_meanSteps_72 : decode cX6_meanSteps 72 = .ok (.invokespecial 389, 3) := by decide +kernel
theorem dX6_meanSteps_75 : decode cX6_meanSteps 75 = .ok (.athrow, 1) := by decide +kernel
theorem dX6_meanSteps_76 : decode cX6_meanSteps 76 = .ok (.iload_n 3, 1) := by decide +kernel
theorem dX6_meanSteps_77 : decode cX6_meanSteps 77 = .ok (.i2d, 1) := by decide +kernel
theorem dX6_meanSteps_78 : decode cX6_meanSteps 78 = .ok (.iload 4, 2) := by decide +kernel
theorem dX6_meanSteps_80 : decode cX6_meanSteps 80 = .ok (.i2d, 1) := by decide +kernel
theorem dX6_meanSteps_81 : decode cX6_meanSteps 81 = .ok (.ddiv, 1) := by decide +kernel
theorem dX6_meanSteps_82 : decode cX6_meanSteps 82 = .ok (.dreturn, 1) := by decide +kernel
theorem dX6_isSound_0 : decode cX6_isSound 0 = .ok (.aload_n 0, 1) := by decide +kernel
theorem dX6_isSound_1 : decode cX6_isSound 1 = .ok (.invokevirtual 270, 3) := by decide +kernel
theorem dX6_isSound_4 : decode cX6_isSound 4 = .ok (.aload_n 0, 1) := by decide +kernel
theorem dX6_isSound_5 : decode cX6_isSound 5 = .ok (.getfield 71, 3) := by decide +kernel
theorem dX6_isSound_8 : decode cX6_isSound 8 = .ok (.if_icmp .gt 28, 3) := by decide +kernel
theorem dX6_isSound_11 : decode cX6_isSound 11 = .ok (.aload_n 0, 1) := by decide +kernel
theorem dX6_isSound_12 : decode cX6_isSound 12 = .ok (.invokevirtual 395, 3) := by decide +kernel
theorem dX6_isSound_15 : decode cX6_isSound 15 = .ok (.ifCond .eq 21, 3) := by decide +kernel
theorem dX6_isSound_18 : decode cX6_isSound 18 = .ok (.aload_n 0, 1) := by decide +kernel
theorem dX6_isSound_19 : decode cX6_isSound 19 = .ok (.invokevirtual 398, 3) := by decide +kernel
theorem dX6_isSound_22 : decode cX6_isSound 22 = .ok (.ifCond .eq 14, 3) := by decide +kernel
theorem dX6_isSound_25 : decode cX6_isSound 25 = .ok (.aload_n 0, 1) := by decide +kernel
theorem dX6_isSound_26 : decode cX6_isSound 26 = .ok (.invokevirtual 401, 3) := by decide +kernel
theorem dX6_isSound_29 : decode cX6_isSound 29 = .ok (.ifCond .eq 7, 3) := by decide +kernel
theorem dX6_isSound_32 : decode cX6_isSound 32 = .ok (.iconst 1, 1) := by decide +kernel
theorem dX6_isSound_33 : decode cX6_isSound 33 = .ok (.goto 4, 3) := by decide +kernel
theorem dX6_isSound_36 : decode cX6_isSound 36 = .ok (.iconst 0, 1) := by decide +kernel
theorem dX6_isSound_37 : decode cX6_isSound 37 = .ok (.ireturn, 1) := by decide +kernel
theorem dX6_isOutOfRange_0 : decode cX6_isOutOfRange 0 = .ok (.iload_n 0, 1) := by decide +kernel
theorem dX6_isOutOfRange_1 : decode cX6_isOutOfRange 1 = .ok (.sipush (-999), 3) := by decide +kernel
theorem dX6_isOutOfRange_4 : decode cX6_isOutOfRange 4 = .ok (.if_icmp .lt 10, 3) := by decide +kernel
theorem dX6_isOutOfRange_7 : decode cX6_isOutOfRange 7 = .ok (.iload_n 0, 1) := by decide +kernel
theorem dX6_isOutOfRange_8 : decode cX6_isOutOfRange 8 = .ok (.sipush 999, 3) := by decide +kernel
theorem dX6_isOutOfRange_11 : decode cX6_isOutOfRange 11 = .ok (.if_icmp .le 7, 3) := by decide +kernel
theorem dX6_isOutOfRange_14 : decode cX6_isOutOfRange 14 = .ok (.iconst 1, 1) := by decide +kernel
theorem dX6_isOutOfRange_15 : decode cX6_isOutOfRange 15 = .ok (.goto 4, 3) := by decide +kernel
theorem dX6_isOutOfRange_18 : decode cX6_isOutOfRange 18 = .ok (.iconst 0, 1) := by decide +kernel
theorem dX6_isOutOfRange_19 : decode cX6_isOutOfRange 19 = .ok (.ireturn, 1) := by decide +kernel
theorem dX6_kataAt_0 : decode cX6_kataAt 0 = .ok (.iload_n 1, 1) := by decide +kernel
theorem dX6_kataAt_1 : decode cX6_kataAt 1 = .ok (.ifCond .lt 11, 3) := by decide +kernel
theorem dX6_kataAt_4 : decode cX6_kataAt 4 = .ok (.iload_n 1, 1) := by decide +kernel
theorem dX6_kataAt_5 : decode cX6_kataAt 5 = .ok (.aload_n 0, 1) := by decide +kernel
theorem dX6_kataAt_6 : decode cX6_kataAt 6 = .ok (.getfield 58, 3) := by decide +kernel
theorem dX6_kataAt_9 : decode cX6_kataAt 9 = .ok (.if_icmp .lt 14, 3) := by decide +kernel
theorem dX6_kataAt_12 : decode cX6_kataAt 12 = .ok (.new 404, 3) := by decide +kernel
theorem dX6_kataAt_15 : decode cX6_kataAt 15 = .ok (.dup, 1) := by decide +kernel
theorem dX6_kataAt_16 : decode cX6_kataAt 16 = .ok (.ldc_w 406, 3) := by decide +kernel
theorem dX6_kataAt_19 : decode cX6_kataAt 19 = .ok (.invokespecial 408, 3) := by decide +kernel
theorem dX6_kataAt_22 : decode cX6_kataAt 22 = .ok (.athrow, 1) := by decide +kernel
theorem dX6_kataAt_23 : decode cX6_kataAt 23 = .ok (.aload_n 0, 1) := by decide +kernel
theorem dX6_kataAt_24 : decode cX6_kataAt 24 = .ok (.getfield 25, 3) := by decide +kernel
theorem dX6_kataAt_27 : decode cX6_kataAt 27 = .ok (.iload_n 1, 1) := by decide +kernel
theorem dX6_kataAt_28 : decode cX6_kataAt 28 = .ok (.aaload, 1) := by decide +kernel
theorem dX6_kataAt_29 : decode cX6_kataAt 29 = .ok (.areturn, 1) := by decide +kernel
theorem dX6_testAt_0 : decode cX6_testAt 0 = .ok (.iload_n 2, 1) := by decide +kernel
theorem dX6_testAt_1 : decode cX6_testAt 1 = .ok (.ifCond .lt 11, 3) := by decide +kernel
theorem dX6_testAt_4 : decode cX6_testAt 4 = .ok (.iload_n 2, 1) := by decide +kernel
theorem dX6_testAt_5 : decode cX6_testAt 5 = .ok (.aload_n 1, 1) := by decide +kernel
theorem dX6_testAt_6 : decode cX6_testAt 6 = .ok (.getfield 146, 3) := by decide +kernel
theorem dX6_testAt_9 : decode cX6_testAt 9 = .ok (.if_icmp .lt 14, 3) := by decide +kernel
theorem dX6_testAt_12 : decode cX6_testAt 12 = .ok (.new 404, 3) := by decide +kernel
theorem dX6_testAt_15 : decode cX6_testAt 15 = .ok (.dup, 1) := by decide +kernel
theorem dX6_testAt_16 : decode cX6_testAt 16 = .ok (.ldc_w 409, 3) := by decide +kernel
theorem dX6_testAt_19 : decode cX6_testAt 19 = .ok (.invokespecial 408, 3) := by decide +kernel
theorem dX6_testAt_22 : decode cX6_testAt 22 = .ok (.athrow, 1) := by decide +kernel
theorem dX6_testAt_23 : decode cX6_testAt 23 = .ok (.aload_n 1, 1) := by decide +kernel
theorem dX6_testAt_24 : decode cX6_testAt 24 = .ok (.getfield 151, 3) := by decide +kernel
theorem dX6_testAt_27 : decode cX6_testAt 27 = .ok (.iload_n 2, 1) := by decide +kernel
theorem dX6_testAt_28 : decode cX6_testAt 28 = .ok (.aaload, 1) := by decide +kernel
theorem dX6_testAt_29 : decode cX6_testAt 29 = .ok (.areturn, 1) := by decide +kernel
theorem dX6_memberAt_0 : decode cX6_memberAt 0 = .ok (.iload_n 1, 1) := by decide +kernel
theorem dX6_memberAt_1 : decode cX6_memberAt 1 = .ok (.ifCond .lt 11, 3) := by decide +kernel
theorem dX6_memberAt_4 : decode cX6_memberAt 4 = .ok (.iload_n 1, 1) := by decide +kernel
theorem dX6_memberAt_5 : decode cX6_memberAt 5 = .ok (.aload_n 0, 1) := by decide +kernel
theorem dX6_memberAt_6 : decode cX6_memberAt 6 = .ok (.getfield 62, 3) := by decide +kernel
theorem dX6_memberAt_9 : decode cX6_memberAt 9 = .ok (.if_icmp .lt 14, 3) := by decide +kernel
theorem dX6_memberAt_12 : decode cX6_memberAt 12 = .ok (.new 404, 3) := by decide +kernel
theorem dX6_memberAt_15 : decode cX6_memberAt 15 = .ok (.dup, 1) := by decide +kernel
theorem dX6_memberAt_16 : decode cX6_memberAt 16 = .ok (.ldc_w 411, 3) := by decide +kernel
theorem dX6_memberAt_19 : decode cX6_memberAt 19 = .ok (.invokespecial 408, 3) := by decide +kernel
theorem dX6_memberAt_22 : decode cX6_memberAt 22 = .ok (.athrow, 1) := by decide +kernel
theorem dX6_memberAt_23 : decode cX6_memberAt 23 = .ok (.aload_n 0, 1) := by decide +kernel
theorem dX6_memberAt_24 : decode cX6_memberAt 24 = .ok (.getfield 31, 3) := by decide +kernel
theorem dX6_memberAt_27 : decode cX6_memberAt 27 = .ok (.iload_n 1, 1) := by decide +kernel
theorem dX6_memberAt_28 : decode cX6_memberAt 28 = .ok (.aaload, 1) := by decide +kernel
theorem dX6_memberAt_29 : decode cX6_memberAt 29 = .ok (.areturn, 1) := by decide +kernel
theorem dX6_workAt_0 : decode cX6_workAt 0 = .ok (.iload_n 1, 1) := by decide +kernel
theorem dX6_workAt_1 : decode cX6_workAt 1 = .ok (.ifCond .lt 11, 3) := by decide +kernel
theorem dX6_workAt_4 : decode cX6_workAt 4 = .ok (.iload_n 1, 1) := by decide +kernel
theorem dX6_workAt_5 : decode cX6_workAt 5 = .ok (.aload_n 0, 1) := by decide +kernel
theorem dX6_workAt_6 : decode cX6_workAt 6 = .ok (.getfield 65, 3) := by decide +kernel
theorem dX6_workAt_9 : decode cX6_workAt 9 = .ok (.if_icmp .lt 14, 3) := by decide +kernel
theorem dX6_workAt_12 : decode cX6_workAt 12 = .ok (.new 404, 3) := by decide +kernel
theorem dX6_workAt_15 : decode cX6_workAt 15 = .ok (.dup, 1) := by decide +kernel
theorem dX6_workAt_16 : decode cX6_workAt 16 = .ok (.ldc_w 413, 3) := by decide +kernel
theorem dX6_workAt_19 : decode cX6_workAt 19 = .ok (.invokespecial 408, 3) := by decide +kernel
theorem dX6_workAt_22 : decode cX6_workAt 22 = .ok (.athrow, 1) := by decide +kernel
theorem dX6_workAt_23 : decode cX6_workAt 23 = .ok (.aload_n 0, 1) := by decide +kernel
theorem dX6_workAt_24 : decode cX6_workAt 24 = .ok (.getfield 37, 3) := by decide +kernel
theorem dX6_workAt_27 : decode cX6_workAt 27 = .ok (.iload_n 1, 1) := by decide +kernel
theorem dX6_workAt_28 : decode cX6_workAt 28 = .ok (.aaload, 1) := by decide +kernel
theorem dX6_workAt_29 : decode cX6_workAt 29 = .ok (.areturn, 1) := by decide +kernel
theorem dX6_lastRun_0 : decode cX6_lastRun 0 = .ok (.aload_n 0, 1) := by decide +kernel
theorem dX6_lastRun_1 : decode cX6_lastRun 1 = .ok (.getfield 77, 3) := by decide +kernel
theorem dX6_lastRun_4 : decode cX6_lastRun 4 = .ok (.ifCond .ne 14, 3) := by decide +kernel
theorem dX6_lastRun_7 : decode cX6_lastRun 7 = .ok (.new 186, 3) := by decide +kernel
theorem dX6_lastRun_10 : decode cX6_lastRun 10 = .ok (.dup, 1) := by decide +kernel
theorem dX6_lastRun_11 : decode cX6_lastRun 11 = .ok (.ldc_w 415, 3) := by decide +kernel
theorem dX6_lastRun_14 : decode cX6_lastRun 14 = .ok (.invokespecial 190, 3) := by decide +kernel
theorem dX6_lastRun_17 : decode cX6_lastRun 17 = .ok (.athrow, 1) := by decide +kernel
theorem dX6_lastRun_18 : decode cX6_lastRun 18 = .ok (.aload_n 0, 1) := by decide +kernel
theorem dX6_lastRun_19 : decode cX6_lastRun 19 = .ok (.getfield 51, 3) := by decide +kernel
theorem dX6_lastRun_22 : decode cX6_lastRun 22 = .ok (.areturn, 1) := by decide +kernel
theorem dX6_setTest_0 : decode cX6_setTest 0 = .ok (.aload_n 0, 1) := by decide +kernel
theorem dX6_setTest_1 : decode cX6_setTest 1 = .ok (.dup, 1) := by decide +kernel
theorem dX6_setTest_2 : decode cX6_setTest 2 = .ok (.getfield 74, 3) := by decide +kernel
theorem dX6_setTest_5 : decode cX6_setTest 5 = .ok (.iconst 1, 1) := by decide +kernel
theorem dX6_setTest_6 : decode cX6_setTest 6 = .ok (.iadd, 1) := by decide +kernel
theorem dX6_setTest_7 : decode cX6_setTest 7 = .ok (.putfield 74, 3) := by decide +kernel
theorem dX6_setTest_10 : decode cX6_setTest 10 = .ok (.aload_n 2, 1) := by decide +kernel
theorem dX6_setTest_11 : decode cX6_setTest 11 = .ok (.aload_n 0, 1) := by decide +kernel
theorem dX6_setTest_12 : decode cX6_setTest 12 = .ok (.getfield 19, 3) := by decide +kernel
theorem dX6_setTest_15 : decode cX6_setTest 15 = .ok (.invokevirtual 417, 3) := by decide +kernel
theorem dX6_setTest_18 : decode cX6_setTest 18 = .ok (.aload_n 2, 1) := by decide +kernel
theorem dX6_setTest_19 : decode cX6_setTest 19 = .ok (.aload_n 0, 1) := by decide +kernel
theorem dX6_setTest_20 : decode cX6_setTest 20 = .ok (.getfield 74, 3) := by decide +kernel
theorem dX6_setTest_23 : decode cX6_setTest 23 = .ok (.putfield 421, 3) := by decide +kernel
theorem dX6_setTest_26 : decode cX6_setTest 26 = .ok (.aload_n 0, 1) := by decide +kernel
theorem dX6_setTest_27 : decode cX6_setTest 27 = .ok (.getfield 19, 3) := by decide +kernel
theorem dX6_setTest_30 : decode cX6_setTest 30 = .ok (.invokevirtual 134, 3) := by decide +kernel
theorem dX6_setTest_33 : decode cX6_setTest 33 = .ok (.iconst 0, 1) := by decide +kernel
theorem dX6_setTest_34 : decode cX6_setTest 34 = .ok (.istore_n 3, 1) := by decide +kernel
theorem dX6_setTest_35 : decode cX6_setTest 35 = .ok (.iconst 0, 1) := by decide +kernel
theorem dX6_setTest_36 : decode cX6_setTest 36 = .ok (.istore 4, 2) := by decide +kernel
theorem dX6_setTest_38 : decode cX6_setTest 38 = .ok (.iload 4, 2) := by decide +kernel
theorem dX6_setTest_40 : decode cX6_setTest 40 = .ok (.aload_n 0, 1) := by decide +kernel
theorem dX6_setTest_41 : decode cX6_setTest 41 = .ok (.getfield 65, 3) := by decide +kernel
theorem dX6_setTest_44 : decode cX6_setTest 44 = .ok (.if_icmp .ge 71, 3) := by decide +kernel
theorem dX6_setTest_47 : decode cX6_setTest 47 = .ok (.aload_n 0, 1) := by decide +kernel
theorem dX6_setTest_48 : decode cX6_setTest 48 = .ok (.getfield 37, 3) := by decide +kernel
theorem dX6_setTest_51 : decode cX6_setTest 51 = .ok (.iload 4, 2) := by decide +kernel
theorem dX6_setTest_53 : decode cX6_setTest 53 = .ok (.aaload, 1) := by decide +kernel
theorem dX6_setTest_54 : decode cX6_setTest 54 = .ok (.astore 5, 2) := by decide +kernel
theorem dX6_setTest_56 : decode cX6_setTest 56 = .ok (.aload 5, 2) := by decide +kernel
theorem dX6_setTest_58 : decode cX6_setTest 58 = .ok (.getfield 252, 3) := by decide +kernel
theorem dX6_setTest_61 : decode cX6_setTest 61 = .ok (.ifCond .eq 48, 3) := by decide +kernel
theorem dX6_setTest_64 : decode cX6_setTest 64 = .ok (.aload 5, 2) := by decide +kernel
theorem dX6_setTest_66 : decode cX6_setTest 66 = .ok (.getfield 226, 3) := by decide +kernel
theorem dX6_setTest_69 : decode cX6_setTest 69 = .ok (.iload_n 1, 1) := by decide +kernel
theorem dX6_setTest_70 : decode cX6_setTest 70 = .ok (.if_icmp .ne 39, 3) := by decide +kernel
theorem dX6_setTest_73 : decode cX6_setTest 73 = .ok (.aload 5, 2) := by decide +kernel
theorem dX6_setTest_75 : decode cX6_setTest 75 = .ok (.getfield 238, 3) := by decide +kernel
theorem dX6_setTest_78 : decode cX6_setTest 78 = .ok (.istore 6, 2) := by decide +kernel
theorem dX6_setTest_80 : decode cX6_setTest 80 = .ok (.aload 5, 2) := by decide +kernel
theorem dX6_setTest_82 : decode cX6_setTest 82 = .ok (.aload_n 0, 1) := by decide +kernel
theorem dX6_setTest_83 : decode cX6_setTest 83 = .ok (.aload 5, 2) := by decide +kernel
theorem dX6_setTest_85 : decode cX6_setTest 85 = .ok (.invokevirtual 424, 3) := by decide +kernel
theorem dX6_setTest_88 : decode cX6_setTest 88 = .ok (.putfield 238, 3) := by decide +kernel
theorem dX6_setTest_91 : decode cX6_setTest 91 = .ok (.iload_n 3, 1) := by decide +kernel
theorem dX6_setTest_92 : decode cX6_setTest 92 = .ok (.aload 5, 2) := by decide +kernel
theorem dX6_setTest_94 : decode cX6_setTest 94 = .ok (.getfield 238, 3) := by decide +kernel
theorem dX6_setTest_97 : decode cX6_setTest 97 = .ok (.iload 6, 2) := by decide +kernel
theorem dX6_setTest_99 : decode cX6_setTest 99 = .ok (.if_icmp .ne 7, 3) := by decide +kernel
theorem dX6_setTest_102 : decode cX6_setTest 102 = .ok (.iconst 0, 1) := by decide +kernel
theorem dX6_setTest_103 : decode cX6_setTest 103 = .ok (.goto 4, 3) := by decide +kernel
theorem dX6_setTest_106 : decode cX6_setTest 106 = .ok (.iconst 1, 1) := by decide +kernel
theorem dX6_setTest_107 : decode cX6_setTest 107 = .ok (.iadd, 1) := by decide +kernel
theorem dX6_setTest_108 : decode cX6_setTest 108 = .ok (.istore_n 3, 1) := by decide +kernel
theorem dX6_setTest_109 : decode cX6_setTest 109 = .ok (.iinc 4 1, 3) := by decide +kernel
theorem dX6_setTest_112 : decode cX6_setTest 112 = .ok (.goto (-74), 3) := by decide +kernel
theorem dX6_setTest_115 : decode cX6_setTest 115 = .ok (.iload_n 3, 1) := by decide +kernel
theorem dX6_setTest_116 : decode cX6_setTest 116 = .ok (.ireturn, 1) := by decide +kernel
theorem dX6_verdictOn_0 : decode cX6_verdictOn 0 = .ok (.aload_n 0, 1) := by decide +kernel
theorem dX6_verdictOn_1 : decode cX6_verdictOn 1 = .ok (.aload_n 1, 1) := by decide +kernel
theorem dX6_verdictOn_2 : decode cX6_verdictOn 2 = .ok (.getfield 255, 3) := by decide +kernel
theorem dX6_verdictOn_5 : decode cX6_verdictOn 5 = .ok (.aload_n 0, 1) := by decide +kernel
theorem dX6_verdictOn_6 : decode cX6_verdictOn 6 = .ok (.getfield 25, 3) := by decide +kernel
theorem dX6_verdictOn_9 : decode cX6_verdictOn 9 = .ok (.aload_n 1, 1) := by decide +kernel
theorem dX6_verdictOn_10 : decode cX6_verdictOn 10 = .ok (.getfield 226, 3) := by decide +kernel
theorem dX6_verdictOn_13 : decode cX6_verdictOn 13 = .ok (.aaload, 1) := by decide +kernel
theorem dX6_verdictOn_14 : decode cX6_verdictOn 14 = .ok (.invokevirtual 207, 3) := by decide +kernel
theorem dX6_verdictOn_17 : decode cX6_verdictOn 17 = .ok (.ifCond .eq 8, 3) := by decide +kernel
theorem dX6_verdictOn_20 : decode cX6_verdictOn 20 = .ok (.bipush 115, 2) := by decide +kernel
theorem dX6_verdictOn_22 : decode cX6_verdictOn 22 = .ok (.goto 5, 3) := by decide +kernel
theorem dX6_verdictOn_25 : decode cX6_verdictOn 25 = .ok (.bipush 102, 2) := by decide +kernel
theorem dX6_verdictOn_27 : decode cX6_verdictOn 27 = .ok (.ireturn, 1) := by decide +kernel
theorem dX6_passesAll_0 : decode cX6_passesAll 0 = .ok (.iconst 0, 1) := by decide +kernel
theorem dX6_passesAll_1 : decode cX6_passesAll 1 = .ok (.istore_n 3, 1) := by decide +kernel
theorem dX6_passesAll_2 : decode cX6_passesAll 2 = .ok (.iload_n 3, 1) := by decide +kernel
theorem dX6_passesAll_3 : decode cX6_passesAll 3 = .ok (.aload_n 2, 1) := by decide +kernel
theorem dX6_passesAll_4 : decode cX6_passesAll 4 = .ok (.getfield 146, 3) := by decide +kernel
theorem dX6_passesAll_7 : decode cX6_passesAll 7 = .ok (.if_icmp .ge 30, 3) := by decide +kernel
theorem dX6_passesAll_10 : decode cX6_passesAll 10 = .ok (.aload_n 0, 1) := by decide +kernel
theorem dX6_passesAll_11 : decode cX6_passesAll 11 = .ok (.getfield 55, 3) := by decide +kernel
theorem dX6_passesAll_14 : decode cX6_passesAll 14 = .ok (.aload_n 1, 1) := by decide +kernel
theorem dX6_passesAll_15 : decode cX6_passesAll 15 = .ok (.aload_n 2, 1) := by decide +kernel
theorem dX6_passesAll_16 : decode cX6_passesAll 16 = .ok (.getfield 151, 3) := by decide +kernel
theorem dX6_passesAll_19 : decode cX6_passesAll 19 = .ok (.iload_n 3, 1) := by decide +kernel
theorem dX6_passesAll_20 : decode cX6_passesAll 20 = .ok (.aaload, 1) := by decide +kernel
theorem dX6_passesAll_21 : decode cX6_passesAll 21 = .ok (.invokevirtual 172, 3) := by decide +kernel
theorem dX6_passesAll_24 : decode cX6_passesAll 24 = .ok (.bipush 111, 2) := by decide +kernel
theorem dX6_passesAll_26 : decode cX6_passesAll 26 = .ok (.if_icmp .eq 5, 3) := by decide +kernel
theorem dX6_passesAll_29 : decode cX6_passesAll 29 = .ok (.iconst 0, 1) := by decide +kernel
theorem dX6_passesAll_30 : decode cX6_passesAll 30 = .ok (.ireturn, 1) := by decide +kernel
theorem dX6_passesAll_31 : decode cX6_passesAll 31 = .ok (.iinc 3 1, 3) := by decide +kernel
theorem dX6_passesAll_34 : decode cX6_passesAll 34 = .ok (.goto (-32), 3) := by decide +kernel
theorem dX6_passesAll_37 : decode cX6_passesAll 37 = .ok (.iconst 1, 1) := by decide +kernel
theorem dX6_passesAll_38 : decode cX6_passesAll 38 = .ok (.ireturn, 1) := by decide +kernel
theorem dX6_stepsDoneBy_0 : decode cX6_stepsDoneBy 0 = .ok (.aload_n 0, 1) := by decide +kernel
theorem dX6_stepsDoneBy_1 : decode cX6_stepsDoneBy 1 = .ok (.getfield 55, 3) := by decide +kernel
theorem dX6_stepsDoneBy_4 : decode cX6_stepsDoneBy 4 = .ok (.aload_n 1, 1) := by decide +kernel
theorem dX6_stepsDoneBy_5 : decode cX6_stepsDoneBy 5 = .ok (.aload_n 2, 1) := by decide +kernel
theorem dX6_stepsDoneBy_6 : decode cX6_stepsDoneBy 6 = .ok (.invokevirtual 172, 3) := by decide +kernel
theorem dX6_stepsDoneBy_9 : decode cX6_stepsDoneBy 9 = .ok (.pop, 1) := by decide +kernel
theorem dX6_stepsDoneBy_10 : decode cX6_stepsDoneBy 10 = .ok (.aload_n 0, 1) := by decide +kernel
theorem dX6_stepsDoneBy_11 : decode cX6_stepsDoneBy 11 = .ok (.getfield 55, 3) := by decide +kernel
theorem dX6_stepsDoneBy_14 : decode cX6_stepsDoneBy 14 = .ok (.getfield 180, 3) := by decide +kernel
theorem dX6_stepsDoneBy_17 : decode cX6_stepsDoneBy 17 = .ok (.ireturn, 1) := by decide +kernel
theorem dX6_stepsTold_0 : decode cX6_stepsTold 0 = .ok (.aload_n 1, 1) := by decide +kernel
theorem dX6_stepsTold_1 : decode cX6_stepsTold 1 = .ok (.getfield 252, 3) := by decide +kernel
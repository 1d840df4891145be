theorem dX6_isSound_1 : decode cX6_isSound 1 = .ok (.invokevirtual 270, 3) := by decide +kernel
theorem dX6_isSound_4 : decode cX6_isSound 4 = .ok (.aload_n 0, 1) := by decide +kernel
theorem dX6_isSound_5 : decode cX6_isSound 5 = .ok (.getfield 71, 3) := by decide +kernel
theorem dX6_isSound_8 : decode cX6_isSound 8 = .ok (.if_icmp .gt 28, 3) := by decide +kernel
theorem dX6_isSound_11 : decode cX6_isSound 11 = .ok (.aload_n 0, 1) := by decide +kernel
theorem dX6_isSound_12 : decode cX6_isSound 12 = .ok (.invokevirtual 395, 3) := by decide +kernel
theorem dX6_isSound_15 : decode cX6_isSound 15 = .ok (.ifCond .eq 21, 3) := by decide +kernel
theorem dX6_isSound_18 : decode cX6_isSound 18 = .ok (.aload_n 0, 1) := by decide +kernel
theorem dX6_isSound_19 : decode cX6_isSound 19 = .ok (.invokevirtual 398, 3) := by decide +kernel
theorem dX6_isSound_22 : decode cX6_isSound 22 = .ok (.ifCond .eq 14, 3) := by decide +kernel
theorem dX6_isSound_25 : decode cX6_isSound 25 = .ok (.aload_n 0, 1) := by decide +kernel
theorem dX6_isSound_26 : decode cX6_isSound 26 = .ok (.invokevirtual 401, 3) := by decide +kernel
theorem dX6_isSound_29 : decode cX6_isSound 29 = .ok (.ifCond .eq 7, 3) := by decide +kernel
theorem dX6_isSound_32 : decode cX6_isSound 32 = .ok (.iconst 1, 1) := by decide +kernel
theorem dX6_isSound_33 : decode cX6_isSound 33 = .ok (.goto 4, 3) := by decide +kernel
theorem dX6_isSound_36 : decode cX6_isSound 36 = .ok (.iconst 0, 1) := by decide +kernel
theorem dX6_isSound_37 : decode cX6_isSound 37 = .ok (.ireturn, 1) := by decide +kernel
theorem dX6_isOutOfRange_0 : decode cX6_isOutOfRange 0 = .ok (.iload_n 0, 1) := by decide +kernel
theorem dX6_isOutOfRange_1 : decode cX6_isOutOfRange 1 = .ok (.sipush (-999), 3) := by decide +kernel
theorem dX6_isOutOfRange_4 : decode cX6_isOutOfRange 4 = .ok (.if_icmp .lt 10, 3) := by decide +kernel
theorem dX6_isOutOfRange_7 : decode cX6_isOutOfRange 7 = .ok (.iload_n 0, 1) := by decide +kernel
theorem dX6_isOutOfRange_8 : decode cX6_isOutOfRange 8 = .ok (.sipush 999, 3) := by decide +kernel
theorem dX6_isOutOfRange_11 : decode cX6_isOutOfRange 11 = .ok (.if_icmp .le 7, 3) := by decide +kernel
theorem dX6_isOutOfRange_14 : decode cX6_isOutOfRange 14 = .ok (.iconst 1, 1) := by decide +kernel
theorem dX6_isOutOfRange_15 : decode cX6_isOutOfRange 15 = .ok (.goto 4, 3) := by decide +kernel
theorem dX6_isOutOfRange_18 : decode cX6_isOutOfRange 18 = .ok (.iconst 0, 1) := by decide +kernel
theorem dX6_isOutOfRange_19 : decode cX6_isOutOfRange 19 = .ok (.ireturn, 1) := by decide +kernel
theorem dX6_kataAt_0 : decode cX6_kataAt 0 = .ok (.iload_n 1, 1) := by decide +kernel
theorem dX6_kataAt_1 : decode cX6_kataAt 1 = .ok (.ifCond .lt 11, 3) := by decide +kernel
theorem dX6_kataAt_4 : decode cX6_kataAt 4 = .ok (.iload_n 1, 1) := by decide +kernel
theorem dX6_kataAt_5 : decode cX6_kataAt 5 = .ok (.aload_n 0, 1) := by decide +kernel
theorem dX6_kataAt_6 : decode cX6_kataAt 6 = .ok (.getfield 58, 3) := by decide +kernel
theorem dX6_kataAt_9 : decode cX6_kataAt 9 = .ok (.if_icmp .lt 14, 3) := by decide +kernel
theorem dX6_kataAt_12 : decode cX6_kataAt 12 = .ok (.new 404, 3) := by decide +kernel
theorem dX6_kataAt_15 : decode cX6_kataAt 15 = .ok (.dup, 1) := by decide +kernel
theorem dX6_kataAt_16 : decode cX6_kataAt 16 = .ok (.ldc_w 406, 3) := by decide +kernel
theorem dX6_kataAt_19 : decode cX6_kataAt 19 = .ok (.invokespecial 408, 3) := by decide +kernel
theorem dX6_kataAt_22 : decode cX6_kataAt 22 = .ok (.athrow, 1) := by decide +kernel
theorem dX6_kataAt_23 : decode cX6_kataAt 23 = .ok (.aload_n 0, 1) := by decide +kernel
theorem dX6_kataAt_24 : decode cX6_kataAt 24 = .ok (.getfield 25, 3) := by decide +kernel
theorem dX6_kataAt_27 : decode cX6_kataAt 27 = .ok (.iload_n 1, 1) := by decide +kernel
theorem dX6_kataAt_28 : decode cX6_kataAt 28 = .ok (.aaload, 1) := by decide +kernel
theorem dX6_kataAt_29 : decode cX6_kataAt 29 = .ok (.areturn, 1) := by decide +kernel
theorem dX6_testAt_0 : decode cX6_testAt 0 = .ok (.iload_n 2, 1) := by decide +kernel
theorem dX6_testAt_1 : decode cX6_testAt 1 = .ok (.ifCond .lt 11, 3) := by decide +kernel
theorem dX6_testAt_4 : decode cX6_testAt 4 = .ok (.iload_n 2, 1) := by decide +kernel
theorem dX6_testAt_5 : decode cX6_testAt 5 = .ok (.aload_n 1, 1) := by decide +kernel
theorem dX6_testAt_6 : decode cX6_testAt 6 = .ok (.getfield 146, 3) := by decide +kernel
theorem dX6_testAt_9 : decode cX6_testAt 9 = .ok (.if_icmp .lt 14, 3) := by decide +kernel
theorem dX6_testAt_12 : decode cX6_testAt 12 = .ok (.new 404, 3) := by decide +kernel
theorem dX6_testAt_15 : decode cX6_testAt 15 = .ok (.dup, 1) := by decide +kernel
theorem dX6_testAt_16 : decode cX6_testAt 16 = .ok (.ldc_w 409, 3) := by decide +kernel
theorem dX6_testAt_19 : decode cX6_testAt 19 = .ok (.invokespecial 408, 3) := by decide +kernel
theorem dX6_testAt_22 : decode cX6_testAt 22 = .ok (.athrow, 1) := by decide +kernel
theorem dX6_testAt_23 : decode cX6_testAt 23 = .ok (.aload_n 1, 1) := by decide +kernel
theorem dX6_testAt_24 : decode cX6_testAt 24 = .ok (.getfield 151, 3) := by decide +kernel
theorem dX6_testAt_27 : decode cX6_testAt 27 = .ok (.iload_n 2, 1) := by decide +kernel
theorem dX6_testAt_28 : decode cX6_testAt 28 = .ok (.aaload, 1) := by decide +kernel
theorem dX6_testAt_29 : decode cX6_testAt 29 = .ok (.areturn, 1) := by decide +kernel
theorem dX6_memberAt_0 : decode cX6_memberAt 0 = .ok (.iload_n 1, 1) := by decide +kernel
theorem dX6_memberAt_1 : decode cX6_memberAt 1 = .ok (.ifCond .lt 11, 3) := by decide +kernel
theorem dX6_memberAt_4 : decode cX6_memberAt 4 = .ok (.iload_n 1, 1) := by decide +kernel
theorem dX6_memberAt_5 : decode cX6_memberAt 5 = .ok (.aload_n 0, 1) := by decide +kernel
theorem dX6_memberAt_6 : decode cX6_memberAt 6 = .ok (.getfield 62, 3) := by decide +kernel
theorem dX6_memberAt_9 : decode cX6_memberAt 9 = .ok (.if_icmp .lt 14, 3) := by decide +kernel
theorem dX6_memberAt_12 : decode cX6_memberAt 12 = .ok (.new 404, 3) := by decide +kernel
theorem dX6_memberAt_15 : decode cX6_memberAt 15 = .ok (.dup, 1) := by decide +kernel
theorem dX6_memberAt_16 : decode cX6_memberAt 16 = .ok (.ldc_w 411, 3) := by decide +kernel
theorem dX6_memberAt_19 : decode cX6_memberAt 19 = .ok (.invokespecial 408, 3) := by decide +kernel
theorem dX6_memberAt_22 : decode cX6_memberAt 22 = .ok (.athrow, 1) := by decide +kernel
theorem dX6_memberAt_23 : decode cX6_memberAt 23 = .ok (.aload_n 0, 1) := by decide +kernel
theorem dX6_memberAt_24 : decode cX6_memberAt 24 = .ok (.getfield 31, 3) := by decide +kernel
theorem dX6_memberAt_27 : decode cX6_memberAt 27 = .ok (.iload_n 1, 1) := by decide +kernel
theorem dX6_memberAt_28 : decode cX6_memberAt 28 = .ok (.aaload, 1) := by decide +kernel
theorem dX6_memberAt_29 : decode cX6_memberAt 29 = .ok (.areturn, 1) := by decide +kernel
theorem dX6_workAt_0 : decode cX6_workAt 0 = .ok (.iload_n 1, 1) := by decide +kernel
theorem dX6_workAt_1 : decode cX6_workAt 1 = .ok (.ifCond .lt 11, 3) := by decide +kernel
theorem dX6_workAt_4 : decode cX6_workAt 4 = .ok (.iload_n 1, 1) := by decide +kernel
theorem dX6_workAt_5 : decode cX6_workAt 5 = .ok (.aload_n 0, 1) := by decide +kernel
theorem dX6_workAt_6 : decode cX6_workAt 6 = .ok (.getfield 65, 3) := by decide +kernel
theorem dX6_workAt_9 : decode cX6_workAt 9 = .ok (.if_icmp .lt 14, 3) := by decide +kernel
theorem dX6_workAt_12 : decode cX6_workAt 12 = .ok (.new 404, 3) := by decide +kernel
theorem dX6_workAt_15 : decode cX6_workAt 15 = .ok (.dup, 1) := by decide +kernel
theorem dX6_workAt_16 : decode cX6_workAt 16 = .ok (.ldc_w 413, 3) := by decide +kernel
theorem dX6_workAt_19 : decode cX6_workAt 19 = .ok (.invokespecial 408, 3) := by decide +kernel
theorem dX6_workAt_22 : decode cX6_workAt 22 = .ok (.athrow, 1) := by decide +kernel
theorem dX6_workAt_23 : decode cX6_workAt 23 = .ok (.aload_n 0, 1) := by decide +kernel
theorem dX6_workAt_24 : decode cX6_workAt 24 = .ok (.getfield 37, 3) := by decide +kernel
theorem dX6_workAt_27 : decode cX6_workAt 27 = .ok (.iload_n 1, 1) := by decide +kernel
theorem dX6_workAt_28 : decode cX6_workAt 28 = .ok (.aaload, 1) := by decide +kernel
theorem dX6_workAt_29 : decode cX6_workAt 29 = .ok (.areturn, 1) := by decide +kernel
theorem dX6_lastRun_0 : decode cX6_lastRun 0 = .ok (.aload_n 0, 1) := by decide +kernel
theorem dX6_lastRun_1 : decode cX6_lastRun 1 = .ok (.getfield 77, 3) := by decide +kernel
theorem dX6_lastRun_4 : decode cX6_lastRun 4 = .ok (.ifCond .ne 14, 3) := by decide +kernel
theorem dX6_lastRun_7 : decode cX6_lastRun 7 = .ok (.new 186, 3) := by decide +kernel
theorem dX6_lastRun_10 : decode cX6_lastRun 10 = .ok (.dup, 1) := by decide +kernel
theorem dX6_lastRun_11 : decode cX6_lastRun 11 = .ok (.ldc_w 415, 3) := by decide +kernel
theorem dX6_lastRun_14 : decode cX6_lastRun 14 = .ok (.invokespecial 190, 3) := by decide +kernel
theorem dX6_lastRun_17 : decode cX6_lastRun 17 = .ok (.athrow, 1) := by decide +kernel
theorem dX6_lastRun_18 : decode cX6_lastRun 18 = .ok (.aload_n 0, 1) := by decide +kernel
theorem dX6_lastRun_19 : decode cX6_lastRun 19 = .ok (.getfield 51, 3) := by decide +kernel
theorem dX6_lastRun_22 : decode cX6_lastRun 22 = .ok (.areturn, 1) := by decide +kernel
theorem dX6_setTest_0 : decode cX6_setTest 0 = .ok (.aload_n 0, 1) := by decide +kernel
theorem dX6_setTest_1 : decode cX6_setTest 1 = .ok (.dup, 1) := by decide +kernel
theorem dX6_setTest_2 : decode cX6_setTest 2 = .ok (.getfield 74, 3) := by decide +kernel
theorem dX6_setTest_5 : decode cX6_setTest 5 = .ok (.iconst 1, 1) := by decide +kernel
theorem dX6_setTest_6 : decode cX6_setTest 6 = .ok (.iadd, 1) := by decide +kernel
theorem dX6_setTest_7 : decode cX6_setTest 7 = .ok (.putfield 74, 3) := by decide +kernel
theorem dX6_setTest_10 : decode cX6_setTest 10 = .ok (.aload_n 2, 1) := by decide +kernel
theorem dX6_setTest_11 : decode cX6_setTest 11 = .ok (.aload_n 0, 1) := by decide +kernel
theorem dX6_setTest_12 : decode cX6_setTest 12 = .ok (.getfield 19, 3) := by decide +kernel
theorem dX6_setTest_15 : decode cX6_setTest 15 = .ok (.invokevirtual 417, 3) := by decide +kernel
theorem dX6_setTest_18 : decode cX6_setTest 18 = .ok (.aload_n 2, 1) := by decide +kernel
theorem dX6_setTest_19 : decode cX6_setTest 19 = .ok (.aload_n 0, 1) := by decide +kernel
theorem dX6_setTest_20 : decode cX6_setTest 20 = .ok (.getfield 74, 3) := by decide +kernel
theorem dX6_setTest_23 : decode cX6_setTest 23 = .ok (.putfield 421, 3) := by decide +kernel
theorem dX6_setTest_26 : decode cX6_setTest 26 = .ok (.aload_n 0, 1) := by decide +kernel
theorem dX6_setTest_27 : decode cX6_setTest 27 = .ok (.getfield 19, 3) := by decide +kernel
theorem dX6_setTest_30 : decode cX6_setTest 30 = .ok (.invokevirtual 134, 3) := by decide +kernel
theorem dX6_setTest_33 : decode cX6_setTest 33 = .ok (.iconst 0, 1) := by decide +kernel
theorem dX6_setTest_34 : decode cX6_setTest 34 = .ok (.istore_n 3, 1) := by decide +kernel
theorem dX6_setTest_35 : decode cX6_setTest 35 = .ok (.iconst 0, 1) := by decide +kernel
theorem dX6_setTest_36 : decode cX6_setTest 36 = .ok (.istore 4, 2) := by decide +kernel
theorem dX6_setTest_38 : decode cX6_setTest 38 = .ok (.iload 4, 2) := by decide +kernel
theorem dX6_setTest_40 : decode cX6_setTest 40 = .ok (.aload_n 0, 1) := by decide +kernel
theorem dX6_setTest_41 : decode cX6_setTest 41 = .ok (.getfield 65, 3) := by decide +kernel
theorem dX6_setTest_44 : decode cX6_setTest 44 = .ok (.if_icmp .ge 71, 3) := by decide +kernel
theorem dX6_setTest_47 : decode cX6_setTest 47 = .ok (.aload_n 0, 1) := by decide +kernel
theorem dX6_setTest_48 : decode cX6_setTest 48 = .ok (.getfield 37, 3) := by decide +kernel
theorem dX6_setTest_51 : decode cX6_setTest 51 = .ok (.iload 4, 2) := by decide +kernel
theorem dX6_setTest_53 : decode cX6_setTest 53 = .ok (.aaload, 1) := by decide +kernel
theorem dX6_setTest_54 : decode cX6_setTest 54 = .ok (.astore 5, 2) := by decide +kernel
theorem dX6_setTest_56 : decode cX6_setTest 56 = .ok (.aload 5, 2) := by decide +kernel
theorem dX6_setTest_58 : decode cX6_setTest 58 = .ok (.getfield 252, 3) := by decide +kernel
theorem dX6_setTest_61 : decode cX6_setTest 61 = .ok (.ifCond .eq 48, 3) := by decide +kernel
theorem dX6_setTest_64 : decode cX6_setTest 64 = .ok (.aload 5, 2) := by decide +kernel
theorem dX6_setTest_66 : decode cX6_setTest 66 = .ok (.getfield 226, 3) := by decide +kernel
theorem dX6_setTest_69 : decode cX6_setTest 69 = .ok (.iload_n 1, 1) := by decide +kernel
theorem dX6_setTest_70 : decode cX6_setTest 70 = .ok (.if_icmp .ne 39, 3) := by decide +kernel
theorem dX6_setTest_73 : decode cX6_setTest 73 = .ok (.aload 5, 2) := by decide +kernel
theorem dX6_setTest_75 : decode cX6_setTest 75 = .ok (.getfield 238, 3) := by decide +kernel
theorem dX6_setTest_78 : decode cX6_setTest 78 = .ok (.istore 6, 2) := by decide +kernel
theorem dX6_setTest_80 : decode cX6_setTest 80 = .ok (.aload 5, 2) := by decide +kernel
theorem dX6_setTest_82 : decode cX6_setTest 82 = .ok (.aload_n 0, 1) := by decide +kernel
theorem dX6_setTest_83 : decode cX6_setTest 83 = .ok (.aload 5, 2) := by decide +kernel
theorem dX6_setTest_85 : decode cX6_setTest 85 = .ok (.invokevirtual 424, 3) := by decide +kernel
theorem dX6_setTest_88 : decode cX6_setTest 88 = .ok (.putfield 238, 3) := by decide +kernel
theorem dX6_setTest_91 : decode cX6_setTest 91 = .ok (.iload_n 3, 1) := by decide +kernel
theorem dX6_setTest_92 : decode cX6_setTest 92 = .ok (.aload 5, 2) := by decide +kernel
theorem dX6_setTest_94 : decode cX6_setTest 94 = .ok (.getfield 238, 3) := by decide +kernel
theorem dX6_setTest_97 : decode cX6_setTest 97 = .ok (.iload 6, 2) := by decide +kernel
theorem dX6_setTest_99 : decode cX6_setTest 99 = .ok (.if_icmp .ne 7, 3) := by decide +kernel
theorem dX6_setTest_102 : decode cX6_setTest 102 = .ok (.iconst 0, 1) := by decide +kernel
theorem dX6_setTest_103 : decode cX6_setTest 103 = .ok (.goto 4, 3) := by decide +kernel
theorem dX6_setTest_106 : decode cX6_setTest 106 = .ok (.iconst 1, 1) := by decide +kernel
theorem dX6_setTest_107 : decode cX6_setTest 107 = .ok (.iadd, 1) := by decide +kernel
theorem dX6_setTest_108 : decode cX6_setTest 108 = .ok (.istore_n 3, 1) := by decide +kernel
theorem dX6_setTest_109 : decode cX6_setTest 109 = .ok (.iinc 4 1, 3) := by decide +kernel
theorem dX6_setTest_112 : decode cX6_setTest 112 = .ok (.goto (-74), 3) := by decide +kernel
theorem dX6_setTest_115 : decode cX6_setTest 115 = .ok (.iload_n 3, 1) := by decide +kernel
theorem dX6_setTest_116 : decode cX6_setTest 116 = .ok (.ireturn, 1) := by decide +kernel
theorem dX6_verdictOn_0 : decode cX6_verdictOn 0 = .ok (.aload_n 0, 1) := by decide +kernel
theorem dX6_verdictOn_1 : decode cX6_verdictOn 1 = .ok (.aload_n 1, 1) := by decide +kernel
theorem dX6_verdictOn_2 : decode cX6_verdictOn 2 = .ok (.getfield 255, 3) := by decide +kernel
theorem dX6_verdictOn_5 : decode cX6_verdictOn 5 = .ok (.aload_n 0, 1) := by decide +kernel
theorem dX6_verdictOn_6 : decode cX6_verdictOn 6 = .ok (.getfield 25, 3) := by decide +kernel
theorem dX6_verdictOn_9 : decode cX6_verdictOn 9 = .ok (.aload_n 1, 1) := by decide +kernel
theorem dX6_verdictOn_10 : decode cX6_verdictOn 10 = .ok (.getfield 226, 3) := by decide +kernel
theorem dX6_verdictOn_13 : decode cX6_verdictOn 13 = .ok (.aaload, 1) := by decide +kernel
theorem dX6_verdictOn_14 : decode cX6_verdictOn 14 = .ok (.invokevirtual 207, 3) := by decide +kernel
theorem dX6_verdictOn_17 : decode cX6_verdictOn 17 = .ok (.ifCond .eq 8, 3) := by decide +kernel
theorem dX6_verdictOn_20 : decode cX6_verdictOn 20 = .ok (.bipush 115, 2) := by decide +kernel
theorem dX6_verdictOn_22 : decode cX6_verdictOn 22 = .ok (.goto 5, 3) := by decide +kernel
theorem dX6_verdictOn_25 : decode cX6_verdictOn 25 = .ok (.bipush 102, 2) := by decide +kernel
theorem dX6_verdictOn_27 : decode cX6_verdictOn 27 = .ok (.ireturn, 1) := by decide +kernel
theorem dX6_passesAll_0 : decode cX6_passesAll 0 = .ok (.iconst 0, 1) := by decide +kernel
theorem dX6_passesAll_1 : decode cX6_passesAll 1 = .ok (.istore_n 3, 1) := by decide +kernel
theorem dX6_passesAll_2 : decode cX6_passesAll 2 = .ok (.iload_n 3, 1) := by decide +kernel
theorem dX6_passesAll_3 : decode cX6_passesAll 3 = .ok (.aload_n 2, 1) := by decide +kernel
theorem dX6_passesAll_4 : decode cX6_passesAll 4 = .ok (.getfield 146, 3) := by decide +kernel
theorem dX6_passesAll_7 : decode cX6_passesAll 7 = .ok (.if_icmp .ge 30, 3) := by decide +kernel
theorem dX6_passesAll_10 : decode cX6_passesAll 10 = .ok (.aload_n 0, 1) := by decide +kernel
theorem dX6_passesAll_11 : decode cX6_passesAll 11 = .ok (.getfield 55, 3) := by decide +kernel
theorem dX6_passesAll_14 : decode cX6_passesAll 14 = .ok (.aload_n 1, 1) := by decide +kernel
theorem dX6_passesAll_15 : decode cX6_passesAll 15 = .ok (.aload_n 2, 1) := by decide +kernel
theorem dX6_passesAll_16 : decode cX6_passesAll 16 = .ok (.getfield 151, 3) := by decide +kernel
theorem dX6_passesAll_19 : decode cX6_passesAll 19 = .ok (.iload_n 3, 1) := by decide +kernel
theorem dX6_passesAll_20 : decode cX6_passesAll 20 = .ok (.aaload, 1) := by decide +kernel
theorem dX6_passesAll_21 : decode cX6_passesAll 21 = .ok (.invokevirtual 172, 3) := by decide +kernel
theorem dX6_passesAll_24 : decode cX6_passesAll 24 = .ok (.bipush 111, 2) := by decide +kernel
theorem dX6_passesAll_26 : decode cX6_passesAll 26 = .ok (.if_icmp .eq 5, 3) := by decide +kernel
theorem dX6_passesAll_29 : decode cX6_passesAll 29 = .ok (.iconst 0, 1) := by decide +kernel
theorem dX6_passesAll_30 : decode cX6_passesAll 30 = .ok (.ireturn, 1) := by decide +kernel
theorem dX6_passesAll_31 : decode cX6_passesAll 31 = .ok (.iinc 3 1, 3) := by decide +kernel
theorem dX6_passesAll_34 : decode cX6_passesAll 34 = .ok (.goto (-32), 3) := by decide +kernel
theorem dX6_passesAll_37 : decode cX6_passesAll 37 = .ok (.iconst 1, 1) := by decide +kernel
theorem dX6_passesAll_38 : decode cX6_passesAll 38 = .ok (.ireturn, 1) := by decide +kernel
theorem dX6_stepsDoneBy_0 : decode cX6_stepsDoneBy 0 = .ok (.aload_n 0, 1) := by decide +kernel
theorem dX6_stepsDoneBy_1 : decode cX6_stepsDoneBy 1 = .ok (.getfield 55, 3) := by decide +kernel
theorem dX6_stepsDoneBy_4 : decode cX6_stepsDoneBy 4 = .ok (.aload_n 1, 1) := by decide +kernel
theorem dX6_stepsDoneBy_5 : decode cX6_stepsDoneBy 5 = .ok (.aload_n 2, 1) := by decide +kernel
theorem dX6_stepsDoneBy_6 : decode cX6_stepsDoneBy 6 = .ok (.invokevirtual 172, 3) := by decide +kernel
theorem dX6_stepsDoneBy_9 : decode cX6_stepsDoneBy 9 = .ok (.pop, 1) := by decide +kernel
theorem dX6_stepsDoneBy_10 : decode cX6_stepsDoneBy 10 = .ok (.aload_n 0, 1) := by decide +kernel
theorem dX6_stepsDoneBy_11 : decode cX6_stepsDoneBy 11 = .ok (.getfield 55, 3) := by decide +kernel
theorem dX6_stepsDoneBy_14 : decode cX6_stepsDoneBy 14 = .ok (.getfield 180, 3) := by decide +kernel
theorem dX6_stepsDoneBy_17 : decode cX6_stepsDoneBy 17 = .ok (.ireturn, 1) := by decide +kernel
theorem dX6_stepsTold_0 : decode cX6_stepsTold 0 = .ok (.aload_n 1, 1) := by decide +kernel
theorem dX6_stepsTold_1 : decode cX6_stepsTold 1 = .ok (.getfield 252, 3) := by decide +kernel
theorem dX6_stepsTold_4 : decode cX6_stepsTold 4 = .ok (.ifCond .eq 26, 3) := by decide +kernel
theorem dX6_stepsTold_7 : decode cX6_stepsTold 7 = .ok (.aload_n 0, 1) := by decide +kernel
theorem dX6_stepsTold_8 : decode cX6_stepsTold 8 = .ok (.aload_n 1, 1) := by decide +kernel
theorem dX6_stepsTold_9 : decode cX6_stepsTold 9 = .ok (.getfield 255, 3) := by decide +kernel
theorem dX6_stepsTold_12 : decode cX6_stepsTold 12 = .ok (.aload_n 0, 1) := by decide +kernel
theorem dX6_stepsTold_13 : decode cX6_stepsTold 13 = .ok (.getfield 25, 3) := by decide +kernel
theorem dX6_stepsTold_16 : decode cX6_stepsTold 16 = .ok (.aload_n 1, 1) := by decide +kernel
theorem dX6_stepsTold_17 : decode cX6_stepsTold 17 = .ok (.getfield 226, 3) := by decide +kernel
theorem dX6_stepsTold_20 : decode cX6_stepsTold 20 = .ok (.aaload, 1) := by decide +kernel
theorem dX6_stepsTold_21 : decode cX6_stepsTold 21 = .ok (.getfield 151, 3) := by decide +kernel
theorem dX6_stepsTold_24 : decode cX6_stepsTold 24 = .ok (.iload_n 2, 1) := by decide +kernel
theorem dX6_stepsTold_25 : decode cX6_stepsTold 25 = .ok (.aaload, 1) := by decide +kernel
theorem dX6_stepsTold_26 : decode cX6_stepsTold 26 = .ok (.invokevirtual 428, 3) := by decide +kernel
theorem dX6_stepsTold_29 : decode cX6_stepsTold 29 = .ok (.ireturn, 1) := by decide +kernel
theorem dX6_stepsTold_30 : decode cX6_stepsTold 30 = .ok (.iload_n 2, 1) := by decide +kernel
theorem dX6_stepsTold_31 : decode cX6_stepsTold 31 = .ok (.aload_n 1, 1) := by decide +kernel
theorem dX6_stepsTold_32 : decode cX6_stepsTold 32 = .ok (.getfield 432, 3) := by decide +kernel
theorem dX6_stepsTold_35 : decode cX6_stepsTold 35 = .ok (.if_icmp .ge 12, 3) := by decide +kernel
theorem dX6_stepsTold_38 : decode cX6_stepsTold 38 = .ok (.aload_n 1, 1) := by decide +kernel
theorem dX6_stepsTold_39 : decode cX6_stepsTold 39 = .ok (.getfield 435, 3) := by decide +kernel
theorem dX6_stepsTold_42 : decode cX6_stepsTold 42 = .ok (.iload_n 2, 1) := by decide +kernel
theorem dX6_stepsTold_43 : decode cX6_stepsTold 43 = .ok (.iaload, 1) := by decide +kernel
theorem dX6_stepsTold_44 : decode cX6_stepsTold 44 = .ok (.goto 4, 3) := by decide +kernel
theorem dX6_stepsTold_47 : decode cX6_stepsTold 47 = .ok (.iconst (-1), 1) := by decide +kernel
theorem dX6_stepsTold_48 : decode cX6_stepsTold 48 = .ok (.ireturn, 1) := by decide +kernel
theorem dX6_bodyCount_0 : decode cX6_bodyCount 0 = .ok (.iconst 0, 1) := by decide +kernel
theorem dX6_bodyCount_1 : decode cX6_bodyCount 1 = .ok (.istore_n 1, 1) := by decide +kernel
theorem dX6_bodyCount_2 : decode cX6_bodyCount 2 = .ok (.iconst 0, 1) := by decide +kernel
theorem dX6_bodyCount_3 : decode cX6_bodyCount 3 = .ok (.istore_n 2, 1) := by decide +kernel
theorem dX6_bodyCount_4 : decode cX6_bodyCount 4 = .ok (.iload_n 2, 1) := by decide +kernel
theorem dX6_bodyCount_5 : decode cX6_bodyCount 5 = .ok (.aload_n 0, 1) := by decide +kernel
theorem dX6_bodyCount_6 : decode cX6_bodyCount 6 = .ok (.getfield 65, 3) := by decide +kernel
theorem dX6_bodyCount_9 : decode cX6_bodyCount 9 = .ok (.if_icmp .ge 29, 3) := by decide +kernel
theorem dX6_bodyCount_12 : decode cX6_bodyCount 12 = .ok (.iload_n 1, 1) := by decide +kernel
theorem dX6_bodyCount_13 : decode cX6_bodyCount 13 = .ok (.aload_n 0, 1) := by decide +kernel
theorem dX6_bodyCount_14 : decode cX6_bodyCount 14 = .ok (.getfield 37, 3) := by decide +kernel
theorem dX6_bodyCount_17 : decode cX6_bodyCount 17 = .ok (.iload_n 2, 1) := by decide +kernel
theorem dX6_bodyCount_18 : decode cX6_bodyCount 18 = .ok (.aaload, 1) := by decide +kernel
theorem dX6_bodyCount_19 : decode cX6_bodyCount 19 = .ok (.getfield 252, 3) := by decide +kernel
theorem dX6_bodyCount_22 : decode cX6_bodyCount 22 = .ok (.ifCond .eq 7, 3) := by decide +kernel
theorem dX6_bodyCount_25 : decode cX6_bodyCount 25 = .ok (.iconst 1, 1) := by decide +kernel
theorem dX6_bodyCount_26 : decode cX6_bodyCount 26 = .ok (.goto 4, 3) := by decide +kernel
theorem dX6_bodyCount_29 : decode cX6_bodyCount 29 = .ok (.iconst 0, 1) := by decide +kernel
theorem dX6_bodyCount_30 : decode cX6_bodyCount 30 = .ok (.iadd, 1) := by decide +kernel
theorem dX6_bodyCount_31 : decode cX6_bodyCount 31 = .ok (.istore_n 1, 1) := by decide +kernel
theorem dX6_bodyCount_32 : decode cX6_bodyCount 32 = .ok (.iinc 2 1, 3) := by decide +kernel
theorem dX6_bodyCount_35 : decode cX6_bodyCount 35 = .ok (.goto (-31), 3) := by decide +kernel
theorem dX6_bodyCount_38 : decode cX6_bodyCount 38 = .ok (.iload_n 1, 1) := by decide +kernel
theorem dX6_bodyCount_39 : decode cX6_bodyCount 39 = .ok (.ireturn, 1) := by decide +kernel
theorem dX6_makeRoom_0 : decode cX6_makeRoom 0 = .ok (.iconst 0, 1) := by decide +kernel
theorem dX6_makeRoom_1 : decode cX6_makeRoom 1 = .ok (.istore_n 1, 1) := by decide +kernel
theorem dX6_makeRoom_2 : decode cX6_makeRoom 2 = .ok (.aload_n 0, 1) := by decide +kernel
theorem dX6_makeRoom_3 : decode cX6_makeRoom 3 = .ok (.invokevirtual 270, 3) := by decide +kernel
theorem dX6_makeRoom_6 : decode cX6_makeRoom 6 = .ok (.aload_n 0, 1) := by decide +kernel
theorem dX6_makeRoom_7 : decode cX6_makeRoom 7 = .ok (.getfield 71, 3) := by decide +kernel
theorem dX6_makeRoom_10 : decode cX6_makeRoom 10 = .ok (.isub, 1) := by decide +kernel
theorem dX6_makeRoom_11 : decode cX6_makeRoom 11 = .ok (.istore_n 2, 1) := by decide +kernel
theorem dX6_makeRoom_12 : decode cX6_makeRoom 12 = .ok (.iload_n 2, 1) := by decide +kernel
theorem dX6_makeRoom_13 : decode cX6_makeRoom 13 = .ok (.ifCond .le 32, 3) := by decide +kernel
theorem dX6_makeRoom_16 : decode cX6_makeRoom 16 = .ok (.aload_n 0, 1) := by decide +kernel
theorem dX6_makeRoom_17 : decode cX6_makeRoom 17 = .ok (.invokevirtual 438, 3) := by decide +kernel
theorem dX6_makeRoom_20 : decode cX6_makeRoom 20 = .ok (.istore_n 3, 1) := by decide +kernel
theorem dX6_makeRoom_21 : decode cX6_makeRoom 21 = .ok (.iload_n 3, 1) := by decide +kernel
theorem dX6_makeRoom_22 : decode cX6_makeRoom 22 = .ok (.iconst (-1), 1) := by decide +kernel
theorem dX6_makeRoom_23 : decode cX6_makeRoom 23 = .ok (.if_icmp .eq 16, 3) := by decide +kernel
theorem dX6_makeRoom_26 : decode cX6_makeRoom 26 = .ok (.aload_n 0, 1) := by decide +kernel
theorem dX6_makeRoom_27 : decode cX6_makeRoom 27 = .ok (.aload_n 0, 1) := by decide +kernel
theorem dX6_makeRoom_28 : decode cX6_makeRoom 28 = .ok (.getfield 37, 3) := by decide +kernel
theorem dX6_makeRoom_31 : decode cX6_makeRoom 31 = .ok (.iload_n 3, 1) := by decide +kernel
theorem dX6_makeRoom_32 : decode cX6_makeRoom 32 = .ok (.aaload, 1) := by decide +kernel
theorem dX6_makeRoom_33 : decode cX6_makeRoom 33 = .ok (.invokevirtual 266, 3) := by decide +kernel
theorem dX6_makeRoom_36 : decode cX6_makeRoom 36 = .ok (.iinc 1 1, 3) := by decide +kernel
theorem dX6_makeRoom_39 : decode cX6_makeRoom 39 = .ok (.iinc 2 (-1), 3) := by decide +kernel
theorem dX6_makeRoom_42 : decode cX6_makeRoom 42 = .ok (.goto (-30), 3) := by decide +kernel
theorem dX6_makeRoom_45 : decode cX6_makeRoom 45 = .ok (.iload_n 1, 1) := by decide +kernel
theorem dX6_makeRoom_46 : decode cX6_makeRoom 46 = .ok (.ireturn, 1) := by decide +kernel
theorem dX6_nextToDrop_0 : decode cX6_nextToDrop 0 = .ok (.iconst (-1), 1) := by decide +kernel
theorem dX6_nextToDrop_1 : decode cX6_nextToDrop 1 = .ok (.istore_n 1, 1) := by decide +kernel
theorem dX6_nextToDrop_2 : decode cX6_nextToDrop 2 = .ok (.iconst 0, 1) := by decide +kernel
theorem dX6_nextToDrop_3 : decode cX6_nextToDrop 3 = .ok (.istore_n 2, 1) := by decide +kernel
theorem dX6_nextToDrop_4 : decode cX6_nextToDrop 4 = .ok (.iload_n 2, 1) := by decide +kernel
theorem dX6_nextToDrop_5 : decode cX6_nextToDrop 5 = .ok (.aload_n 0, 1) := by decide +kernel
theorem dX6_nextToDrop_6 : decode cX6_nextToDrop 6 = .ok (.getfield 65, 3) := by decide +kernel
theorem dX6_nextToDrop_9 : decode cX6_nextToDrop 9 = .ok (.if_icmp .ge 46, 3) := by decide +kernel
theorem dX6_nextToDrop_12 : decode cX6_nextToDrop 12 = .ok (.aload_n 0, 1) := by decide +kernel
theorem dX6_nextToDrop_13 : decode cX6_nextToDrop 13 = .ok (.getfield 37, 3) := by decide +kernel
theorem dX6_nextToDrop_16 : decode cX6_nextToDrop 16 = .ok (.iload_n 2, 1) := by decide +kernel
theorem dX6_nextToDrop_17 : decode cX6_nextToDrop 17 = .ok (.aaload, 1) := by decide +kernel
theorem dX6_nextToDrop_18 : decode cX6_nextToDrop 18 = .ok (.getfield 252, 3) := by decide +kernel
theorem dX6_nextToDrop_21 : decode cX6_nextToDrop 21 = .ok (.ifCond .eq 28, 3) := by decide +kernel
theorem dX6_nextToDrop_24 : decode cX6_nextToDrop 24 = .ok (.iload_n 1, 1) := by decide +kernel
theorem dX6_nextToDrop_25 : decode cX6_nextToDrop 25 = .ok (.iconst (-1), 1) := by decide +kernel
theorem dX6_nextToDrop_26 : decode cX6_nextToDrop 26 = .ok (.if_icmp .eq 21, 3) := by decide +kernel
theorem dX6_nextToDrop_29 : decode cX6_nextToDrop 29 = .ok (.aload_n 0, 1) := by decide +kernel
theorem dX6_nextToDrop_30 : decode cX6_nextToDrop 30 = .ok (.getfield 37, 3) := by decide +kernel
theorem dX6_nextToDrop_33 : decode cX6_nextToDrop 33 = .ok (.iload_n 2, 1) := by decide +kernel
theorem dX6_nextToDrop_34 : decode cX6_nextToDrop 34 = .ok (.aaload, 1) := by decide +kernel
theorem dX6_nextToDrop_35 : decode cX6_nextToDrop 35 = .ok (.aload_n 0, 1) := by decide +kernel
theorem dX6_nextToDrop_36 : decode cX6_nextToDrop 36 = .ok (.getfield 37, 3) := by decide +kernel
theorem dX6_nextToDrop_39 : decode cX6_nextToDrop 39 = .ok (.iload_n 1, 1) := by decide +kernel
theorem dX6_nextToDrop_40 : decode cX6_nextToDrop 40 = .ok (.aaload, 1) := by decide +kernel
theorem dX6_nextToDrop_41 : decode cX6_nextToDrop 41 = .ok (.invokestatic 441, 3) := by decide +kernel
theorem dX6_nextToDrop_44 : decode cX6_nextToDrop 44 = .ok (.ifCond .eq 5, 3) := by decide +kernel
theorem dX6_nextToDrop_47 : decode cX6_nextToDrop 47 = .ok (.iload_n 2, 1) := by decide +kernel
theorem dX6_nextToDrop_48 : decode cX6_nextToDrop 48 = .ok (.istore_n 1, 1) := by decide +kernel
theorem dX6_nextToDrop_49 : decode cX6_nextToDrop 49 = .ok (.iinc 2 1, 3) := by decide +kernel
theorem dX6_nextToDrop_52 : decode cX6_nextToDrop 52 = .ok (.goto (-48), 3) := by decide +kernel
theorem dX6_nextToDrop_55 : decode cX6_nextToDrop 55 = .ok (.iload_n 1, 1) := by decide +kernel
theorem dX6_nextToDrop_56 : decode cX6_nextToDrop 56 = .ok (.ireturn, 1) := by decide +kernel
theorem dX6_isDroppedBefore_0 : decode cX6_isDroppedBefore 0 = .ok (.aload_n 0, 1) := by decide +kernel
theorem dX6_isDroppedBefore_1 : decode cX6_isDroppedBefore 1 = .ok (.getfield 238, 3) := by decide +kernel
theorem dX6_isDroppedBefore_4 : decode cX6_isDroppedBefore 4 = .ok (.bipush 102, 2) := by decide +kernel
theorem dX6_isDroppedBefore_6 : decode cX6_isDroppedBefore 6 = .ok (.if_icmp .ne 7, 3) := by decide +kernel
theorem dX6_isDroppedBefore_9 : decode cX6_isDroppedBefore 9 = .ok (.iconst 1, 1) := by decide +kernel
theorem dX6_isDroppedBefore_10 : decode cX6_isDroppedBefore 10 = .ok (.goto 4, 3) := by decide +kernel
theorem dX6_isDroppedBefore_13 : decode cX6_isDroppedBefore 13 = .ok (.iconst 0, 1) := by decide +kernel
theorem dX6_isDroppedBefore_14 : decode cX6_isDroppedBefore 14 = .ok (.istore_n 2, 1) := by decide +kernel
theorem dX6_isDroppedBefore_15 : decode cX6_isDroppedBefore 15 = .ok (.iload_n 2, 1) := by decide +kernel
theorem dX6_isDroppedBefore_16 : decode cX6_isDroppedBefore 16 = .ok (.aload_n 1, 1) := by decide +kernel
theorem dX6_isDroppedBefore_17 : decode cX6_isDroppedBefore 17 = .ok (.getfield 238, 3) := by decide +kernel
theorem dX6_isDroppedBefore_20 : decode cX6_isDroppedBefore 20 = .ok (.bipush 102, 2) := by decide +kernel
theorem dX6_isDroppedBefore_22 : decode cX6_isDroppedBefore 22 = .ok (.if_icmp .ne 7, 3) := by decide +kernel
theorem dX6_isDroppedBefore_25 : decode cX6_isDroppedBefore 25 = .ok (.iconst 1, 1) := by decide +kernel
theorem dX6_isDroppedBefore_26 : decode cX6_isDroppedBefore 26 = .ok (.goto 4, 3) := by decide +kernel
theorem dX6_isDroppedBefore_29 : decode cX6_isDroppedBefore 29 = .ok (.iconst 0, 1) := by decide +kernel
theorem dX6_isDroppedBefore_30 : decode cX6_isDroppedBefore 30 = .ok (.if_icmp .eq 5, 3) := by decide +kernel
theorem dX6_isDroppedBefore_33 : decode cX6_isDroppedBefore 33 = .ok (.iload_n 2, 1) := by decide +kernel
theorem dX6_isDroppedBefore_34 : decode cX6_isDroppedBefore 34 = .ok (.ireturn, 1) := by decide +kernel
theorem dX6_isDroppedBefore_35 : decode cX6_isDroppedBefore 35 = .ok (.aload_n 0, 1) := by decide +kernel
theorem dX6_isDroppedBefore_36 : decode cX6_isDroppedBefore 36 = .ok (.getfield 233, 3) := by decide +kernel
theorem dX6_isDroppedBefore_39 : decode cX6_isDroppedBefore 39 = .ok (.aload_n 1, 1) := by decide +kernel
theorem dX6_isDroppedBefore_40 : decode cX6_isDroppedBefore 40 = .ok (.getfield 233, 3) := by decide +kernel
theorem dX6_isDroppedBefore_43 : decode cX6_isDroppedBefore 43 = .ok (.if_icmp .ge 7, 3) := by decide +kernel
theorem dX6_isDroppedBefore_46 : decode cX6_isDroppedBefore 46 = .ok (.iconst 1, 1) := by decide +kernel
theorem dX6_isDroppedBefore_47 : decode cX6_isDroppedBefore 47 = .ok (.goto 4, 3) := by decide +kernel
theorem dX6_isDroppedBefore_50 : decode cX6_isDroppedBefore 50 = .ok (.iconst 0, 1) := by decide +kernel
theorem dX6_isDroppedBefore_51 : decode cX6_isDroppedBefore 51 = .ok (.ireturn, 1) := by decide +kernel
theorem dX6_dropBody_0 : decode cX6_dropBody 0 = .ok (.aload_n 0, 1) := by decide +kernel
theorem dX6_dropBody_1 : decode cX6_dropBody 1 = .ok (.getfield 25, 3) := by decide +kernel
theorem dX6_dropBody_4 : decode cX6_dropBody 4 = .ok (.aload_n 1, 1) := by decide +kernel
theorem dX6_dropBody_5 : decode cX6_dropBody 5 = .ok (.getfield 226, 3) := by decide +kernel
theorem dX6_dropBody_8 : decode cX6_dropBody 8 = .ok (.aaload, 1) := by decide +kernel
theorem dX6_dropBody_9 : decode cX6_dropBody 9 = .ok (.astore_n 2, 1) := by decide +kernel
theorem dX6_dropBody_10 : decode cX6_dropBody 10 = .ok (.iconst 0, 1) := by decide +kernel
theorem dX6_dropBody_11 : decode cX6_dropBody 11 = .ok (.istore_n 3, 1) := by decide +kernel
theorem dX6_dropBody_12 : decode cX6_dropBody 12 = .ok (.iload_n 3, 1) := by decide +kernel
theorem dX6_dropBody_13 : decode cX6_dropBody 13 = .ok (.aload_n 2, 1) := by decide +kernel
theorem dX6_dropBody_14 : decode cX6_dropBody 14 = .ok (.getfield 146, 3) := by decide +kernel
theorem dX6_dropBody_17 : decode cX6_dropBody 17 = .ok (.if_icmp .ge 40, 3) := by decide +kernel
theorem dX6_dropBody_20 : decode cX6_dropBody 20 = .ok (.aload_n 0, 1) := by decide +kernel
theorem dX6_dropBody_21 : decode cX6_dropBody 21 = .ok (.getfield 55, 3) := by decide +kernel
theorem dX6_dropBody_24 : decode cX6_dropBody 24 = .ok (.aload_n 1, 1) := by decide +kernel
theorem dX6_dropBody_25 : decode cX6_dropBody 25 = .ok (.getfield 255, 3) := by decide +kernel
theorem dX6_dropBody_28 : decode cX6_dropBody 28 = .ok (.aload_n 2, 1) := by decide +kernel
theorem dX6_dropBody_29 : decode cX6_dropBody 29 = .ok (.getfield 151, 3) := by decide +kernel
theorem dX6_dropBody_32 : decode cX6_dropBody 32 = .ok (.iload_n 3, 1) := by decide +kernel
theorem dX6_dropBody_33 : decode cX6_dropBody 33 = .ok (.aaload, 1) := by decide +kernel
theorem dX6_dropBody_34 : decode cX6_dropBody 34 = .ok (.invokevirtual 172, 3) := by decide +kernel
theorem dX6_dropBody_37 : decode cX6_dropBody 37 = .ok (.pop, 1) := by decide +kernel
theorem dX6_dropBody_38 : decode cX6_dropBody 38 = .ok (.aload_n 1, 1) := by decide +kernel
theorem dX6_dropBody_39 : decode cX6_dropBody 39 = .ok (.getfield 435, 3) := by decide +kernel
theorem dX6_dropBody_42 : decode cX6_dropBody 42 = .ok (.iload_n 3, 1) := by decide +kernel
theorem dX6_dropBody_43 : decode cX6_dropBody 43 = .ok (.aload_n 0, 1) := by decide +kernel
theorem dX6_dropBody_44 : decode cX6_dropBody 44 = .ok (.getfield 55, 3) := by decide +kernel
theorem dX6_dropBody_47 : decode cX6_dropBody 47 = .ok (.getfield 180, 3) := by decide +kernel
theorem dX6_dropBody_50 : decode cX6_dropBody 50 = .ok (.iastore, 1) := by decide +kernel
theorem dX6_dropBody_51 : decode cX6_dropBody 51 = .ok (.iinc 3 1, 3) := by decide +kernel
theorem dX6_dropBody_54 : decode cX6_dropBody 54 = .ok (.goto (-42), 3) := by decide +kernel
theorem dX6_dropBody_57 : decode cX6_dropBody 57 = .ok (.aload_n 1, 1) := by decide +kernel
theorem dX6_dropBody_58 : decode cX6_dropBody 58 = .ok (.aload_n 2, 1) := by decide +kernel
theorem dX6_dropBody_59 : decode cX6_dropBody 59 = .ok (.getfield 146, 3) := by decide +kernel
theorem dX6_dropBody_62 : decode cX6_dropBody 62 = .ok (.putfield 432, 3) := by decide +kernel
theorem dX6_dropBody_65 : decode cX6_dropBody 65 = .ok (.aload_n 1, 1) := by decide +kernel
theorem dX6_dropBody_66 : decode cX6_dropBody 66 = .ok (.aload_n 0, 1) := by decide +kernel
theorem dX6_dropBody_67 : decode cX6_dropBody 67 = .ok (.getfield 74, 3) := by decide +kernel
theorem dX6_dropBody_70 : decode cX6_dropBody 70 = .ok (.putfield 444, 3) := by decide +kernel
theorem dX6_dropBody_73 : decode cX6_dropBody 73 = .ok (.aload_n 1, 1) := by decide +kernel
theorem dX6_dropBody_74 : decode cX6_dropBody 74 = .ok (.iconst 0, 1) := by decide +kernel
theorem dX6_dropBody_75 : decode cX6_dropBody 75 = .ok (.putfield 252, 3) := by decide +kernel
theorem dX6_dropBody_78 : decode cX6_dropBody 78 = .ok (.aload_n 1, 1) := by decide +kernel
theorem dX6_dropBody_79 : decode cX6_dropBody 79 = .ok (.getfield 255, 3) := by decide +kernel
theorem dX6_dropBody_82 : decode cX6_dropBody 82 = .ok (.invokevirtual 117, 3) := by decide +kernel
theorem dX6_dropBody_85 : decode cX6_dropBody 85 = .ok (.aload_n 1, 1) := by decide +kernel
theorem dX6_dropBody_86 : decode cX6_dropBody 86 = .ok (.aload_n 1, 1) := by decide +kernel
theorem dX6_dropBody_87 : decode cX6_dropBody 87 = .ok (.getfield 238, 3) := by decide +kernel
theorem dX6_dropBody_90 : decode cX6_dropBody 90 = .ok (.bipush 102, 2) := by decide +kernel
theorem dX6_dropBody_92 : decode cX6_dropBody 92 = .ok (.if_icmp .ne 8, 3) := by decide +kernel
theorem dX6_dropBody_95 : decode cX6_dropBody 95 = .ok (.bipush 98, 2) := by decide +kernel
theorem dX6_dropBody_97 : decode cX6_dropBody 97 = .ok (.goto 5, 3) := by decide +kernel
theorem dX6_dropBody_100 : decode cX6_dropBody 100 = .ok (.bipush 112, 2) := by decide +kernel
theorem dX6_dropBody_102 : decode cX6_dropBody 102 = .ok (.putfield 238, 3) := by decide +kernel
theorem dX6_dropBody_105 : decode cX6_dropBody 105 = .ok (.return_, 1) := by decide +kernel
theorem dX6_isOpenToVoteOf_0 : decode cX6_isOpenToVoteOf 0 = .ok (.aload_n 1, 1) := by decide +kernel
theorem dX6_isOpenToVoteOf_1 : decode cX6_isOpenToVoteOf 1 = .ok (.getfield 223, 3) := by decide +kernel
theorem dX6_isOpenToVoteOf_4 : decode cX6_isOpenToVoteOf 4 = .ok (.iload_n 0, 1) := by decide +kernel
theorem dX6_isOpenToVoteOf_5 : decode cX6_isOpenToVoteOf 5 = .ok (.if_icmp .eq 23, 3) := by decide +kernel
theorem dX6_isOpenToVoteOf_8 : decode cX6_isOpenToVoteOf 8 = .ok (.aload_n 1, 1) := by decide +kernel
theorem dX6_isOpenToVoteOf_9 : decode cX6_isOpenToVoteOf 9 = .ok (.getfield 252, 3) := by decide +kernel
theorem dX6_isOpenToVoteOf_12 : decode cX6_isOpenToVoteOf 12 = .ok (.ifCond .eq 16, 3) := by decide +kernel
theorem dX6_isOpenToVoteOf_15 : decode cX6_isOpenToVoteOf 15 = .ok (.aload_n 1, 1) := by decide +kernel
theorem dX6_isOpenToVoteOf_16 : decode cX6_isOpenToVoteOf 16 = .ok (.getfield 238, 3) := by decide +kernel
theorem dX6_isOpenToVoteOf_19 : decode cX6_isOpenToVoteOf 19 = .ok (.bipush 102, 2) := by decide +kernel
theorem dX6_isOpenToVoteOf_21 : decode cX6_isOpenToVoteOf 21 = .ok (.if_icmp .eq 7, 3) := by decide +kernel
theorem dX6_isOpenToVoteOf_24 : decode cX6_isOpenToVoteOf 24 = .ok (.iconst 1, 1) := by decide +kernel
theorem dX6_isOpenToVoteOf_25 : decode cX6_isOpenToVoteOf 25 = .ok (.goto 4, 3) := by decide +kernel
theorem dX6_isOpenToVoteOf_28 : decode cX6_isOpenToVoteOf 28 = .ok (.iconst 0, 1) := by decide +kernel
theorem dX6_isOpenToVoteOf_29 : decode cX6_isOpenToVoteOf 29 = .ok (.ireturn, 1) := by decide +kernel
theorem dX6_isReviewedBefore_0 : decode cX6_isReviewedBefore 0 = .ok (.aload_n 1, 1) := by decide +kernel
theorem dX6_isReviewedBefore_1 : decode cX6_isReviewedBefore 1 = .ok (.getfield 230, 3) := by decide +kernel
theorem dX6_isReviewedBefore_4 : decode cX6_isReviewedBefore 4 = .ok (.aload_n 2, 1) := by decide +kernel
theorem dX6_isReviewedBefore_5 : decode cX6_isReviewedBefore 5 = .ok (.getfield 230, 3) := by decide +kernel
theorem dX6_isReviewedBefore_8 : decode cX6_isReviewedBefore 8 = .ok (.if_icmp .eq 20, 3) := by decide +kernel
theorem dX6_isReviewedBefore_11 : decode cX6_isReviewedBefore 11 = .ok (.aload_n 1, 1) := by decide +kernel
theorem dX6_isReviewedBefore_12 : decode cX6_isReviewedBefore 12 = .ok (.getfield 230, 3) := by decide +kernel
theorem dX6_isReviewedBefore_15 : decode cX6_isReviewedBefore 15 = .ok (.aload_n 2, 1) := by decide +kernel
theorem dX6_isReviewedBefore_16 : decode cX6_isReviewedBefore 16 = .ok (.getfield 230, 3) := by decide +kernel
theorem dX6_isReviewedBefore_19 : decode cX6_isReviewedBefore 19 = .ok (.if_icmp .ge 7, 3) := by decide +kernel
theorem dX6_isReviewedBefore_22 : decode cX6_isReviewedBefore 22 = .ok (.iconst 1, 1) := by decide +kernel
theorem dX6_isReviewedBefore_23 : decode cX6_isReviewedBefore 23 = .ok (.goto 4, 3) := by decide +kernel
theorem dX6_isReviewedBefore_26 : decode cX6_isReviewedBefore 26 = .ok (.iconst 0, 1) := by decide +kernel
theorem dX6_isReviewedBefore_27 : decode cX6_isReviewedBefore 27 = .ok (.ireturn, 1) := by decide +kernel
theorem dX6_isReviewedBefore_28 : decode cX6_isReviewedBefore 28 = .ok (.aload_n 0, 1) := by decide +kernel
theorem dX6_isReviewedBefore_29 : decode cX6_isReviewedBefore 29 = .ok (.getfield 25, 3) := by decide +kernel
theorem dX6_isReviewedBefore_32 : decode cX6_isReviewedBefore 32 = .ok (.aload_n 1, 1) := by decide +kernel
theorem dX6_isReviewedBefore_33 : decode cX6_isReviewedBefore 33 = .ok (.getfield 226, 3) := by decide +kernel
theorem dX6_isReviewedBefore_36 : decode cX6_isReviewedBefore 36 = .ok (.aaload, 1) := by decide +kernel
theorem dX6_isReviewedBefore_37 : decode cX6_isReviewedBefore 37 = .ok (.getfield 139, 3) := by decide +kernel
theorem dX6_isReviewedBefore_40 : decode cX6_isReviewedBefore 40 = .ok (.aload_n 0, 1) := by decide +kernel
theorem dX6_isReviewedBefore_41 : decode cX6_isReviewedBefore 41 = .ok (.getfield 25, 3) := by decide +kernel
theorem dX6_isReviewedBefore_44 : decode cX6_isReviewedBefore 44 = .ok (.aload_n 2, 1) := by decide +kernel
theorem dX6_isReviewedBefore_45 : decode cX6_isReviewedBefore 45 = .ok (.getfield 226, 3) := by decide +kernel
theorem dX6_isReviewedBefore_48 : decode cX6_isReviewedBefore 48 = .ok (.aaload, 1) := by decide +kernel
theorem dX6_isReviewedBefore_49 : decode cX6_isReviewedBefore 49 = .ok (.getfield 139, 3) := by decide +kernel
theorem dX6_isReviewedBefore_52 : decode cX6_isReviewedBefore 52 = .ok (.if_icmp .ge 7, 3) := by decide +kernel
theorem dX6_isReviewedBefore_55 : decode cX6_isReviewedBefore 55 = .ok (.iconst 1, 1) := by decide +kernel
theorem dX6_isReviewedBefore_56 : decode cX6_isReviewedBefore 56 = .ok (.goto 4, 3) := by decide +kernel
theorem dX6_isReviewedBefore_59 : decode cX6_isReviewedBefore 59 = .ok (.iconst 0, 1) := by decide +kernel
theorem dX6_isReviewedBefore_60 : decode cX6_isReviewedBefore 60 = .ok (.ireturn, 1) := by decide +kernel
theorem dX6_commonDivisor_0 : decode cX6_commonDivisor 0 = .ok (.iload_n 0, 1) := by decide +kernel
theorem dX6_commonDivisor_1 : decode cX6_commonDivisor 1 = .ok (.istore_n 2, 1) := by decide +kernel
theorem dX6_commonDivisor_2 : decode cX6_commonDivisor 2 = .ok (.iload_n 1, 1) := by decide +kernel
theorem dX6_commonDivisor_3 : decode cX6_commonDivisor 3 = .ok (.istore_n 3, 1) := by decide +kernel
theorem dX6_commonDivisor_4 : decode cX6_commonDivisor 4 = .ok (.iconst 0, 1) := by decide +kernel
theorem dX6_commonDivisor_5 : decode cX6_commonDivisor 5 = .ok (.istore 4, 2) := by decide +kernel
theorem dX6_commonDivisor_7 : decode cX6_commonDivisor 7 = .ok (.iload 4, 2) := by decide +kernel
theorem dX6_commonDivisor_9 : decode cX6_commonDivisor 9 = .ok (.bipush 100, 2) := by decide +kernel
theorem dX6_commonDivisor_11 : decode cX6_commonDivisor 11 = .ok (.if_icmp .ge 23, 3) := by decide +kernel
theorem dX6_commonDivisor_14 : decode cX6_commonDivisor 14 = .ok (.iload_n 3, 1) := by decide +kernel
theorem dX6_commonDivisor_15 : decode cX6_commonDivisor 15 = .ok (.ifCond .eq 19, 3) := by decide +kernel
theorem dX6_commonDivisor_18 : decode cX6_commonDivisor 18 = .ok (.iload_n 2, 1) := by decide +kernel
theorem dX6_commonDivisor_19 : decode cX6_commonDivisor 19 = .ok (.iload_n 3, 1) := by decide +kernel
theorem dX6_commonDivisor_20 : decode cX6_commonDivisor 20 = .ok (.irem, 1) := by decide +kernel
theorem dX6_commonDivisor_21 : decode cX6_commonDivisor 21 = .ok (.istore 5, 2) := by decide +kernel
theorem dX6_commonDivisor_23 : decode cX6_commonDivisor 23 = .ok (.iload_n 3, 1) := by decide +kernel
theorem dX6_commonDivisor_24 : decode cX6_commonDivisor 24 = .ok (.istore_n 2, 1) := by decide +kernel
theorem dX6_commonDivisor_25 : decode cX6_commonDivisor 25 = .ok (.iload 5, 2) := by decide +kernel
theorem dX6_commonDivisor_27 : decode cX6_commonDivisor 27 = .ok (.istore_n 3, 1) := by decide +kernel
theorem dX6_commonDivisor_28 : decode cX6_commonDivisor 28 = .ok (.iinc 4 1, 3) := by decide +kernel
theorem dX6_commonDivisor_31 : decode cX6_commonDivisor 31 = .ok (.goto (-24), 3) := by decide +kernel
theorem dX6_commonDivisor_34 : decode cX6_commonDivisor 34 = .ok (.iload_n 2, 1) := by decide +kernel
theorem dX6_commonDivisor_35 : decode cX6_commonDivisor 35 = .ok (.ireturn, 1) := by decide +kernel
theorem dX6_pointsOf_0 : decode cX6_pointsOf 0 = .ok (.aload_n 0, 1) := by decide +kernel
theorem dX6_pointsOf_1 : decode cX6_pointsOf 1 = .ok (.iload_n 1, 1) := by decide +kernel
theorem dX6_pointsOf_2 : decode cX6_pointsOf 2 = .ok (.invokevirtual 321, 3) := by decide +kernel
theorem dX6_pointsOf_5 : decode cX6_pointsOf 5 = .ok (.aload_n 0, 1) := by decide +kernel
theorem dX6_pointsOf_6 : decode cX6_pointsOf 6 = .ok (.invokevirtual 447, 3) := by decide +kernel
theorem dX6_pointsOf_9 : decode cX6_pointsOf 9 = .ok (.freturn, 1) := by decide +kernel
theorem dX6_beltOf_0 : decode cX6_beltOf 0 = .ok (.aload_n 0, 1) := by decide +kernel
theorem dX6_beltOf_1 : decode cX6_beltOf 1 = .ok (.iload_n 1, 1) := by decide +kernel
theorem dX6_beltOf_2 : decode cX6_beltOf 2 = .ok (.invokevirtual 321, 3) := by decide +kernel
theorem dX6_beltOf_5 : decode cX6_beltOf 5 = .ok (.aload_n 0, 1) := by decide +kernel
theorem dX6_beltOf_6 : decode cX6_beltOf 6 = .ok (.invokevirtual 451, 3) := by decide +kernel
theorem dX6_beltOf_9 : decode cX6_beltOf 9 = .ok (.ireturn, 1) := by decide +kernel
theorem dX6_takeWorks_0 : decode cX6_takeWorks 0 = .ok (.aload_n 0, 1) := by decide +kernel
theorem dX6_takeWorks_1 : decode cX6_takeWorks 1 = .ok (.invokevirtual 454, 3) := by decide +kernel
theorem dX6_takeWorks_4 : decode cX6_takeWorks 4 = .ok (.iconst 0, 1) := by decide +kernel
theorem dX6_takeWorks_5 : decode cX6_takeWorks 5 = .ok (.istore_n 2, 1) := by decide +kernel
theorem dX6_takeWorks_6 : decode cX6_takeWorks 6 = .ok (.iload_n 2, 1) := by decide +kernel
theorem dX6_takeWorks_7 : decode cX6_takeWorks 7 = .ok (.aload_n 0, 1) := by decide +kernel
theorem dX6_takeWorks_8 : decode cX6_takeWorks 8 = .ok (.getfield 65, 3) := by decide +kernel
theorem dX6_takeWorks_11 : decode cX6_takeWorks 11 = .ok (.if_icmp .ge 72, 3) := by decide +kernel
theorem dX6_takeWorks_14 : decode cX6_takeWorks 14 = .ok (.aload_n 0, 1) := by decide +kernel
theorem dX6_takeWorks_15 : decode cX6_takeWorks 15 = .ok (.getfield 37, 3) := by decide +kernel
theorem dX6_takeWorks_18 : decode cX6_takeWorks 18 = .ok (.iload_n 2, 1) := by decide +kernel
theorem dX6_takeWorks_19 : decode cX6_takeWorks 19 = .ok (.aaload, 1) := by decide +kernel
theorem dX6_takeWorks_20 : decode cX6_takeWorks 20 = .ok (.astore_n 3, 1) := by decide +kernel
theorem dX6_takeWorks_21 : decode cX6_takeWorks 21 = .ok (.aload_n 3, 1) := by decide +kernel
theorem dX6_takeWorks_22 : decode cX6_takeWorks 22 = .ok (.getfield 223, 3) := by decide +kernel
theorem dX6_takeWorks_25 : decode cX6_takeWorks 25 = .ok (.iload_n 1, 1) := by decide +kernel
theorem dX6_takeWorks_26 : decode cX6_takeWorks 26 = .ok (.if_icmp .ne 51, 3) := by decide +kernel
theorem dX6_takeWorks_29 : decode cX6_takeWorks 29 = .ok (.aload_n 3, 1) := by decide +kernel
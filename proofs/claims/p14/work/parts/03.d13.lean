theorem dX7_open_81 : decode cX7_open 81 = .ok (.getfield 88, 3) := by decide +kernel
theorem dX7_open_84 : decode cX7_open 84 = .ok (.iload 4, 2) := by decide +kernel
theorem dX7_open_86 : decode cX7_open 86 = .ok (.caload, 1) := by decide +kernel
theorem dX7_open_87 : decode cX7_open 87 = .ok (.bipush 99, 2) := by decide +kernel
theorem dX7_open_89 : decode cX7_open 89 = .ok (.if_icmp .ne 12, 3) := by decide +kernel
theorem dX7_open_92 : decode cX7_open 92 = .ok (.iload 5, 2) := by decide +kernel
theorem dX7_open_94 : decode cX7_open 94 = .ok (.ifCond .eq 7, 3) := by decide +kernel
theorem dX7_open_97 : decode cX7_open 97 = .ok (.iconst 1, 1) := by decide +kernel
theorem dX7_open_98 : decode cX7_open 98 = .ok (.goto 4, 3) := by decide +kernel
theorem dX7_open_101 : decode cX7_open 101 = .ok (.iconst 0, 1) := by decide +kernel
theorem dX7_open_102 : decode cX7_open 102 = .ok (.iadd, 1) := by decide +kernel
theorem dX7_open_103 : decode cX7_open 103 = .ok (.istore_n 3, 1) := by decide +kernel
theorem dX7_open_104 : decode cX7_open 104 = .ok (.iinc 4 1, 3) := by decide +kernel
theorem dX7_open_107 : decode cX7_open 107 = .ok (.goto (-92), 3) := by decide +kernel
theorem dX7_open_110 : decode cX7_open 110 = .ok (.aload_n 0, 1) := by decide +kernel
theorem dX7_open_111 : decode cX7_open 111 = .ok (.getfield 88, 3) := by decide +kernel
theorem dX7_open_114 : decode cX7_open 114 = .ok (.iload_n 2, 1) := by decide +kernel
theorem dX7_open_115 : decode cX7_open 115 = .ok (.caload, 1) := by decide +kernel
theorem dX7_open_116 : decode cX7_open 116 = .ok (.bipush 99, 2) := by decide +kernel
theorem dX7_open_118 : decode cX7_open 118 = .ok (.if_icmp .ne 14, 3) := by decide +kernel
theorem dX7_open_121 : decode cX7_open 121 = .ok (.iload_n 3, 1) := by decide +kernel
theorem dX7_open_122 : decode cX7_open 122 = .ok (.iload_n 1, 1) := by decide +kernel
theorem dX7_open_123 : decode cX7_open 123 = .ok (.if_icmp .ne 9, 3) := by decide +kernel
theorem dX7_open_126 : decode cX7_open 126 = .ok (.aload_n 0, 1) := by decide +kernel
theorem dX7_open_127 : decode cX7_open 127 = .ok (.iload_n 2, 1) := by decide +kernel
theorem dX7_open_128 : decode cX7_open 128 = .ok (.invokevirtual 169, 3) := by decide +kernel
theorem dX7_open_131 : decode cX7_open 131 = .ok (.ireturn, 1) := by decide +kernel
theorem dX7_open_132 : decode cX7_open 132 = .ok (.iinc 2 1, 3) := by decide +kernel
theorem dX7_open_135 : decode cX7_open 135 = .ok (.goto (-133), 3) := by decide +kernel
theorem dX7_open_138 : decode cX7_open 138 = .ok (.aload_n 0, 1) := by decide +kernel
theorem dX7_open_139 : decode cX7_open 139 = .ok (.iconst 1, 1) := by decide +kernel
theorem dX7_open_140 : decode cX7_open 140 = .ok (.invokevirtual 165, 3) := by decide +kernel
theorem dX7_open_143 : decode cX7_open 143 = .ok (.ireturn, 1) := by decide +kernel
theorem dX7_left_0 : decode cX7_left 0 = .ok (.aload_n 0, 1) := by decide +kernel
theorem dX7_left_1 : decode cX7_left 1 = .ok (.iload_n 1, 1) := by decide +kernel
theorem dX7_left_2 : decode cX7_left 2 = .ok (.invokevirtual 227, 3) := by decide +kernel
theorem dX7_left_5 : decode cX7_left 5 = .ok (.ifCond .ne 9, 3) := by decide +kernel
theorem dX7_left_8 : decode cX7_left 8 = .ok (.aload_n 0, 1) := by decide +kernel
theorem dX7_left_9 : decode cX7_left 9 = .ok (.iconst 1, 1) := by decide +kernel
theorem dX7_left_10 : decode cX7_left 10 = .ok (.invokevirtual 165, 3) := by decide +kernel
theorem dX7_left_13 : decode cX7_left 13 = .ok (.ireturn, 1) := by decide +kernel
theorem dX7_left_14 : decode cX7_left 14 = .ok (.aload_n 0, 1) := by decide +kernel
theorem dX7_left_15 : decode cX7_left 15 = .ok (.getfield 88, 3) := by decide +kernel
theorem dX7_left_18 : decode cX7_left 18 = .ok (.iload_n 1, 1) := by decide +kernel
theorem dX7_left_19 : decode cX7_left 19 = .ok (.caload, 1) := by decide +kernel
theorem dX7_left_20 : decode cX7_left 20 = .ok (.bipush 99, 2) := by decide +kernel
theorem dX7_left_22 : decode cX7_left 22 = .ok (.if_icmp .ne 16, 3) := by decide +kernel
theorem dX7_left_25 : decode cX7_left 25 = .ok (.aload_n 0, 1) := by decide +kernel
theorem dX7_left_26 : decode cX7_left 26 = .ok (.aload_n 0, 1) := by decide +kernel
theorem dX7_left_27 : decode cX7_left 27 = .ok (.getfield 110, 3) := by decide +kernel
theorem dX7_left_30 : decode cX7_left 30 = .ok (.iload_n 1, 1) := by decide +kernel
theorem dX7_left_31 : decode cX7_left 31 = .ok (.iaload, 1) := by decide +kernel
theorem dX7_left_32 : decode cX7_left 32 = .ok (.invokevirtual 169, 3) := by decide +kernel
theorem dX7_left_35 : decode cX7_left 35 = .ok (.goto 8, 3) := by decide +kernel
theorem dX7_left_38 : decode cX7_left 38 = .ok (.aload_n 0, 1) := by decide +kernel
theorem dX7_left_39 : decode cX7_left 39 = .ok (.iconst 2, 1) := by decide +kernel
theorem dX7_left_40 : decode cX7_left 40 = .ok (.invokevirtual 165, 3) := by decide +kernel
theorem dX7_left_43 : decode cX7_left 43 = .ok (.ireturn, 1) := by decide +kernel
theorem dX7_days_0 : decode cX7_days 0 = .ok (.iload_n 1, 1) := by decide +kernel
theorem dX7_days_1 : decode cX7_days 1 = .ok (.iconst 1, 1) := by decide +kernel
theorem dX7_days_2 : decode cX7_days 2 = .ok (.bipush 30, 2) := by decide +kernel
theorem dX7_days_4 : decode cX7_days 4 = .ok (.invokestatic 161, 3) := by decide +kernel
theorem dX7_days_7 : decode cX7_days 7 = .ok (.ifCond .ne 9, 3) := by decide +kernel
theorem dX7_days_10 : decode cX7_days 10 = .ok (.aload_n 0, 1) := by decide +kernel
theorem dX7_days_11 : decode cX7_days 11 = .ok (.iconst 1, 1) := by decide +kernel
theorem dX7_days_12 : decode cX7_days 12 = .ok (.invokevirtual 165, 3) := by decide +kernel
theorem dX7_days_15 : decode cX7_days 15 = .ok (.ireturn, 1) := by decide +kernel
theorem dX7_days_16 : decode cX7_days 16 = .ok (.iconst 0, 1) := by decide +kernel
theorem dX7_days_17 : decode cX7_days 17 = .ok (.istore_n 2, 1) := by decide +kernel
theorem dX7_days_18 : decode cX7_days 18 = .ok (.iconst 0, 1) := by decide +kernel
theorem dX7_days_19 : decode cX7_days 19 = .ok (.istore_n 3, 1) := by decide +kernel
theorem dX7_days_20 : decode cX7_days 20 = .ok (.iload_n 3, 1) := by decide +kernel
theorem dX7_days_21 : decode cX7_days 21 = .ok (.aload_n 0, 1) := by decide +kernel
theorem dX7_days_22 : decode cX7_days 22 = .ok (.getfield 25, 3) := by decide +kernel
theorem dX7_days_25 : decode cX7_days 25 = .ok (.if_icmp .ge 65, 3) := by decide +kernel
theorem dX7_days_28 : decode cX7_days 28 = .ok (.aload_n 0, 1) := by decide +kernel
theorem dX7_days_29 : decode cX7_days 29 = .ok (.getfield 110, 3) := by decide +kernel
theorem dX7_days_32 : decode cX7_days 32 = .ok (.iload_n 3, 1) := by decide +kernel
theorem dX7_days_33 : decode cX7_days 33 = .ok (.dup2, 1) := by decide +kernel
theorem dX7_days_34 : decode cX7_days 34 = .ok (.iaload, 1) := by decide +kernel
theorem dX7_days_35 : decode cX7_days 35 = .ok (.iload_n 1, 1) := by decide +kernel
theorem dX7_days_36 : decode cX7_days 36 = .ok (.isub, 1) := by decide +kernel
theorem dX7_days_37 : decode cX7_days 37 = .ok (.iastore, 1) := by decide +kernel
theorem dX7_days_38 : decode cX7_days 38 = .ok (.aload_n 0, 1) := by decide +kernel
theorem dX7_days_39 : decode cX7_days 39 = .ok (.getfield 88, 3) := by decide +kernel
theorem dX7_days_42 : decode cX7_days 42 = .ok (.iload_n 3, 1) := by decide +kernel
theorem dX7_days_43 : decode cX7_days 43 = .ok (.caload, 1) := by decide +kernel
theorem dX7_days_44 : decode cX7_days 44 = .ok (.bipush 99, 2) := by decide +kernel
theorem dX7_days_46 : decode cX7_days 46 = .ok (.if_icmp .ne 38, 3) := by decide +kernel
theorem dX7_days_49 : decode cX7_days 49 = .ok (.aload_n 0, 1) := by decide +kernel
theorem dX7_days_50 : decode cX7_days 50 = .ok (.getfield 110, 3) := by decide +kernel
theorem dX7_days_53 : decode cX7_days 53 = .ok (.iload_n 3, 1) := by decide +kernel
theorem dX7_days_54 : decode cX7_days 54 = .ok (.iaload, 1) := by decide +kernel
theorem dX7_days_55 : decode cX7_days 55 = .ok (.ifCond .gt 29, 3) := by decide +kernel
theorem dX7_days_58 : decode cX7_days 58 = .ok (.aload_n 0, 1) := by decide +kernel
theorem dX7_days_59 : decode cX7_days 59 = .ok (.getfield 88, 3) := by decide +kernel
theorem dX7_days_62 : decode cX7_days 62 = .ok (.iload_n 3, 1) := by decide +kernel
theorem dX7_days_63 : decode cX7_days 63 = .ok (.bipush 98, 2) := by decide +kernel
theorem dX7_days_65 : decode cX7_days 65 = .ok (.castore, 1) := by decide +kernel
theorem dX7_days_66 : decode cX7_days 66 = .ok (.aload_n 0, 1) := by decide +kernel
theorem dX7_days_67 : decode cX7_days 67 = .ok (.getfield 116, 3) := by decide +kernel
theorem dX7_days_70 : decode cX7_days 70 = .ok (.aload_n 0, 1) := by decide +kernel
theorem dX7_days_71 : decode cX7_days 71 = .ok (.getfield 107, 3) := by decide +kernel
theorem dX7_days_74 : decode cX7_days 74 = .ok (.iload_n 3, 1) := by decide +kernel
theorem dX7_days_75 : decode cX7_days 75 = .ok (.iaload, 1) := by decide +kernel
theorem dX7_days_76 : decode cX7_days 76 = .ok (.dup2, 1) := by decide +kernel
theorem dX7_days_77 : decode cX7_days 77 = .ok (.iaload, 1) := by decide +kernel
theorem dX7_days_78 : decode cX7_days 78 = .ok (.iconst 5, 1) := by decide +kernel
theorem dX7_days_79 : decode cX7_days 79 = .ok (.iadd, 1) := by decide +kernel
theorem dX7_days_80 : decode cX7_days 80 = .ok (.iastore, 1) := by decide +kernel
theorem dX7_days_81 : decode cX7_days 81 = .ok (.iinc 2 1, 3) := by decide +kernel
theorem dX7_days_84 : decode cX7_days 84 = .ok (.iinc 3 1, 3) := by decide +kernel
theorem dX7_days_87 : decode cX7_days 87 = .ok (.goto (-67), 3) := by decide +kernel
theorem dX7_days_90 : decode cX7_days 90 = .ok (.aload_n 0, 1) := by decide +kernel
theorem dX7_days_91 : decode cX7_days 91 = .ok (.iload_n 2, 1) := by decide +kernel
theorem dX7_days_92 : decode cX7_days 92 = .ok (.invokevirtual 169, 3) := by decide +kernel
theorem dX7_days_95 : decode cX7_days 95 = .ok (.ireturn, 1) := by decide +kernel
theorem dX7_checksum_0 : decode cX7_checksum 0 = .ok (.aload_n 0, 1) := by decide +kernel
theorem dX7_checksum_1 : decode cX7_checksum 1 = .ok (.iconst 0, 1) := by decide +kernel
theorem dX7_checksum_2 : decode cX7_checksum 2 = .ok (.putfield 37, 3) := by decide +kernel
theorem dX7_checksum_5 : decode cX7_checksum 5 = .ok (.ldc2_w 293, 3) := by decide +kernel
theorem dX7_checksum_8 : decode cX7_checksum 8 = .ok (.lstore_n 1, 1) := by decide +kernel
theorem dX7_checksum_9 : decode cX7_checksum 9 = .ok (.iconst 0, 1) := by decide +kernel
theorem dX7_checksum_10 : decode cX7_checksum 10 = .ok (.istore_n 3, 1) := by decide +kernel
theorem dX7_checksum_11 : decode cX7_checksum 11 = .ok (.iload_n 3, 1) := by decide +kernel
theorem dX7_checksum_12 : decode cX7_checksum 12 = .ok (.aload_n 0, 1) := by decide +kernel
theorem dX7_checksum_13 : decode cX7_checksum 13 = .ok (.getfield 25, 3) := by decide +kernel
theorem dX7_checksum_16 : decode cX7_checksum 16 = .ok (.if_icmp .ge 34, 3) := by decide +kernel
theorem dX7_checksum_19 : decode cX7_checksum 19 = .ok (.ldc2_w 190, 3) := by decide +kernel
theorem dX7_checksum_22 : decode cX7_checksum 22 = .ok (.ldc2_w 190, 3) := by decide +kernel
theorem dX7_checksum_25 : decode cX7_checksum 25 = .ok (.lload_n 1, 1) := by decide +kernel
theorem dX7_checksum_26 : decode cX7_checksum 26 = .ok (.lmul, 1) := by decide +kernel
theorem dX7_checksum_27 : decode cX7_checksum 27 = .ok (.aload_n 0, 1) := by decide +kernel
theorem dX7_checksum_28 : decode cX7_checksum 28 = .ok (.getfield 88, 3) := by decide +kernel
theorem dX7_checksum_31 : decode cX7_checksum 31 = .ok (.iload_n 3, 1) := by decide +kernel
theorem dX7_checksum_32 : decode cX7_checksum 32 = .ok (.caload, 1) := by decide +kernel
theorem dX7_checksum_33 : decode cX7_checksum 33 = .ok (.i2l, 1) := by decide +kernel
theorem dX7_checksum_34 : decode cX7_checksum 34 = .ok (.ladd, 1) := by decide +kernel
theorem dX7_checksum_35 : decode cX7_checksum 35 = .ok (.lmul, 1) := by decide +kernel
theorem dX7_checksum_36 : decode cX7_checksum 36 = .ok (.aload_n 0, 1) := by decide +kernel
theorem dX7_checksum_37 : decode cX7_checksum 37 = .ok (.iload_n 3, 1) := by decide +kernel
theorem dX7_checksum_38 : decode cX7_checksum 38 = .ok (.invokevirtual 259, 3) := by decide +kernel
theorem dX7_checksum_41 : decode cX7_checksum 41 = .ok (.i2l, 1) := by decide +kernel
theorem dX7_checksum_42 : decode cX7_checksum 42 = .ok (.ladd, 1) := by decide +kernel
theorem dX7_checksum_43 : decode cX7_checksum 43 = .ok (.lstore_n 1, 1) := by decide +kernel
theorem dX7_checksum_44 : decode cX7_checksum 44 = .ok (.iinc 3 1, 3) := by decide +kernel
theorem dX7_checksum_47 : decode cX7_checksum 47 = .ok (.goto (-36), 3) := by decide +kernel
theorem dX7_checksum_50 : decode cX7_checksum 50 = .ok (.iconst 0, 1) := by decide +kernel
theorem dX7_checksum_51 : decode cX7_checksum 51 = .ok (.istore_n 3, 1) := by decide +kernel
theorem dX7_checksum_52 : decode cX7_checksum 52 = .ok (.iload_n 3, 1) := by decide +kernel
theorem dX7_checksum_53 : decode cX7_checksum 53 = .ok (.aload_n 0, 1) := by decide +kernel
theorem dX7_checksum_54 : decode cX7_checksum 54 = .ok (.getfield 22, 3) := by decide +kernel
theorem dX7_checksum_57 : decode cX7_checksum 57 = .ok (.if_icmp .ge 23, 3) := by decide +kernel
theorem dX7_checksum_60 : decode cX7_checksum 60 = .ok (.ldc2_w 190, 3) := by decide +kernel
theorem dX7_checksum_63 : decode cX7_checksum 63 = .ok (.lload_n 1, 1) := by decide +kernel
theorem dX7_checksum_64 : decode cX7_checksum 64 = .ok (.lmul, 1) := by decide +kernel
theorem dX7_checksum_65 : decode cX7_checksum 65 = .ok (.aload_n 0, 1) := by decide +kernel
theorem dX7_checksum_66 : decode cX7_checksum 66 = .ok (.getfield 116, 3) := by decide +kernel
theorem dX7_checksum_69 : decode cX7_checksum 69 = .ok (.iload_n 3, 1) := by decide +kernel
theorem dX7_checksum_70 : decode cX7_checksum 70 = .ok (.iaload, 1) := by decide +kernel
theorem dX7_checksum_71 : decode cX7_checksum 71 = .ok (.i2l, 1) := by decide +kernel
theorem dX7_checksum_72 : decode cX7_checksum 72 = .ok (.ladd, 1) := by decide +kernel
theorem dX7_checksum_73 : decode cX7_checksum 73 = .ok (.lstore_n 1, 1) := by decide +kernel
theorem dX7_checksum_74 : decode cX7_checksum 74 = .ok (.iinc 3 1, 3) := by decide +kernel
theorem dX7_checksum_77 : decode cX7_checksum 77 = .ok (.goto (-25), 3) := by decide +kernel
theorem dX7_checksum_80 : decode cX7_checksum 80 = .ok (.lload_n 1, 1) := by decide +kernel
theorem dX7_checksum_81 : decode cX7_checksum 81 = .ok (.lreturn, 1) := by decide +kernel
theorem dX7_standingShare_0 : decode cX7_standingShare 0 = .ok (.aload_n 0, 1) := by decide +kernel
theorem dX7_standingShare_1 : decode cX7_standingShare 1 = .ok (.aload_n 0, 1) := by decide +kernel
theorem dX7_standingShare_2 : decode cX7_standingShare 2 = .ok (.getfield 25, 3) := by decide +kernel
theorem dX7_standingShare_5 : decode cX7_standingShare 5 = .ok (.ifCond .ne 7, 3) := by decide +kernel
theorem dX7_standingShare_8 : decode cX7_standingShare 8 = .ok (.iconst 1, 1) := by decide +kernel
theorem dX7_standingShare_9 : decode cX7_standingShare 9 = .ok (.goto 4, 3) := by decide +kernel
theorem dX7_standingShare_12 : decode cX7_standingShare 12 = .ok (.iconst 0, 1) := by decide +kernel
theorem dX7_standingShare_13 : decode cX7_standingShare 13 = .ok (.putfield 37, 3) := by decide +kernel
theorem dX7_standingShare_16 : decode cX7_standingShare 16 = .ok (.iconst 0, 1) := by decide +kernel
theorem dX7_standingShare_17 : decode cX7_standingShare 17 = .ok (.istore_n 1, 1) := by decide +kernel
theorem dX7_standingShare_18 : decode cX7_standingShare 18 = .ok (.iconst 0, 1) := by decide +kernel
theorem dX7_standingShare_19 : decode cX7_standingShare 19 = .ok (.istore_n 2, 1) := by decide +kernel
theorem dX7_standingShare_20 : decode cX7_standingShare 20 = .ok (.iload_n 2, 1) := by decide +kernel
theorem dX7_standingShare_21 : decode cX7_standingShare 21 = .ok (.aload_n 0, 1) := by decide +kernel
theorem dX7_standingShare_22 : decode cX7_standingShare 22 = .ok (.getfield 25, 3) := by decide +kernel
theorem dX7_standingShare_25 : decode cX7_standingShare 25 = .ok (.if_icmp .ge 25, 3) := by decide +kernel
theorem dX7_standingShare_28 : decode cX7_standingShare 28 = .ok (.iload_n 1, 1) := by decide +kernel
theorem dX7_standingShare_29 : decode cX7_standingShare 29 = .ok (.aload_n 0, 1) := by decide +kernel
theorem dX7_standingShare_30 : decode cX7_standingShare 30 = .ok (.iload_n 2, 1) := by decide +kernel
theorem dX7_standingShare_31 : decode cX7_standingShare 31 = .ok (.invokevirtual 265, 3) := by decide +kernel
theorem dX7_standingShare_34 : decode cX7_standingShare 34 = .ok (.ifCond .eq 7, 3) := by decide +kernel
theorem dX7_standingShare_37 : decode cX7_standingShare 37 = .ok (.iconst 1, 1) := by decide +kernel
theorem dX7_standingShare_38 : decode cX7_standingShare 38 = .ok (.goto 4, 3) := by decide +kernel
theorem dX7_standingShare_41 : decode cX7_standingShare 41 = .ok (.iconst 0, 1) := by decide +kernel
theorem dX7_standingShare_42 : decode cX7_standingShare 42 = .ok (.iadd, 1) := by decide +kernel
theorem dX7_standingShare_43 : decode cX7_standingShare 43 = .ok (.istore_n 1, 1) := by decide +kernel
theorem dX7_standingShare_44 : decode cX7_standingShare 44 = .ok (.iinc 2 1, 3) := by decide +kernel
theorem dX7_standingShare_47 : decode cX7_standingShare 47 = .ok (.goto (-27), 3) := by decide +kernel
theorem dX7_standingShare_50 : decode cX7_standingShare 50 = .ok (.aload_n 0, 1) := by decide +kernel
theorem dX7_standingShare_51 : decode cX7_standingShare 51 = .ok (.getfield 37, 3) := by decide +kernel
theorem dX7_standingShare_54 : decode cX7_standingShare 54 = .ok (.ifCond .le 7, 3) := by decide +kernel
theorem dX7_standingShare_57 : decode cX7_standingShare 57 = .ok (.fconst 0, 1) := by decide +kernel
theorem dX7_standingShare_58 : decode cX7_standingShare 58 = .ok (.goto 11, 3) := by decide +kernel
theorem dX7_standingShare_61 : decode cX7_standingShare 61 = .ok (.iload_n 1, 1) := by decide +kernel
theorem dX7_standingShare_62 : decode cX7_standingShare 62 = .ok (.i2f, 1) := by decide +kernel
theorem dX7_standingShare_63 : decode cX7_standingShare 63 = .ok (.aload_n 0, 1) := by decide +kernel
theorem dX7_standingShare_64 : decode cX7_standingShare 64 = .ok (.getfield 25, 3) := by decide +kernel
theorem dX7_standingShare_67 : decode cX7_standingShare 67 = .ok (.i2f, 1) := by decide +kernel
theorem dX7_standingShare_68 : decode cX7_standingShare 68 = .ok (.fdiv, 1) := by decide +kernel
theorem dX7_standingShare_69 : decode cX7_standingShare 69 = .ok (.freturn, 1) := by decide +kernel
theorem dX7_meanSteps_0 : decode cX7_meanSteps 0 = .ok (.aload_n 0, 1) := by decide +kernel
theorem dX7_meanSteps_1 : decode cX7_meanSteps 1 = .ok (.aload_n 0, 1) := by decide +kernel
theorem dX7_meanSteps_2 : decode cX7_meanSteps 2 = .ok (.iload_n 1, 1) := by decide +kernel
theorem dX7_meanSteps_3 : decode cX7_meanSteps 3 = .ok (.invokevirtual 227, 3) := by decide +kernel
theorem dX7_meanSteps_6 : decode cX7_meanSteps 6 = .ok (.ifCond .eq 7, 3) := by decide +kernel
theorem dX7_meanSteps_9 : decode cX7_meanSteps 9 = .ok (.iconst 0, 1) := by decide +kernel
theorem dX7_meanSteps_10 : decode cX7_meanSteps 10 = .ok (.goto 4, 3) := by decide +kernel
theorem dX7_meanSteps_13 : decode cX7_meanSteps 13 = .ok (.iconst 1, 1) := by decide +kernel
theorem dX7_meanSteps_14 : decode cX7_meanSteps 14 = .ok (.putfield 37, 3) := by decide +kernel
theorem dX7_meanSteps_17 : decode cX7_meanSteps 17 = .ok (.aload_n 0, 1) := by decide +kernel
theorem dX7_meanSteps_18 : decode cX7_meanSteps 18 = .ok (.getfield 37, 3) := by decide +kernel
theorem dX7_meanSteps_21 : decode cX7_meanSteps 21 = .ok (.ifCond .le 5, 3) := by decide +kernel
theorem dX7_meanSteps_24 : decode cX7_meanSteps 24 = .ok (.dconst 0, 1) := by decide +kernel
theorem dX7_meanSteps_25 : decode cX7_meanSteps 25 = .ok (.dreturn, 1) := by decide +kernel
theorem dX7_meanSteps_26 : decode cX7_meanSteps 26 = .ok (.iconst 0, 1) := by decide +kernel
theorem dX7_meanSteps_27 : decode cX7_meanSteps 27 = .ok (.istore_n 2, 1) := by decide +kernel
theorem dX7_meanSteps_28 : decode cX7_meanSteps 28 = .ok (.iconst 0, 1) := by decide +kernel
theorem dX7_meanSteps_29 : decode cX7_meanSteps 29 = .ok (.istore_n 3, 1) := by decide +kernel
theorem dX7_meanSteps_30 : decode cX7_meanSteps 30 = .ok (.iconst 0, 1) := by decide +kernel
theorem dX7_meanSteps_31 : decode cX7_meanSteps 31 = .ok (.istore 4, 2) := by decide +kernel
theorem dX7_meanSteps_33 : decode cX7_meanSteps 33 = .ok (.iload 4, 2) := by decide +kernel
theorem dX7_meanSteps_35 : decode cX7_meanSteps 35 = .ok (.aload_n 0, 1) := by decide +kernel
theorem dX7_meanSteps_36 : decode cX7_meanSteps 36 = .ok (.getfield 60, 3) := by decide +kernel
theorem dX7_meanSteps_39 : decode cX7_meanSteps 39 = .ok (.aload_n 0, 1) := by decide +kernel
theorem dX7_meanSteps_40 : decode cX7_meanSteps 40 = .ok (.getfield 81, 3) := by decide +kernel
theorem dX7_meanSteps_43 : decode cX7_meanSteps 43 = .ok (.iload_n 1, 1) := by decide +kernel
theorem dX7_meanSteps_44 : decode cX7_meanSteps 44 = .ok (.iaload, 1) := by decide +kernel
theorem dX7_meanSteps_45 : decode cX7_meanSteps 45 = .ok (.iaload, 1) := by decide +kernel
theorem dX7_meanSteps_46 : decode cX7_meanSteps 46 = .ok (.if_icmp .ge 47, 3) := by decide +kernel
theorem dX7_meanSteps_49 : decode cX7_meanSteps 49 = .ok (.aload_n 0, 1) := by decide +kernel
theorem dX7_meanSteps_50 : decode cX7_meanSteps 50 = .ok (.iload_n 1, 1) := by decide +kernel
theorem dX7_meanSteps_51 : decode cX7_meanSteps 51 = .ok (.iload 4, 2) := by decide +kernel
theorem dX7_meanSteps_53 : decode cX7_meanSteps 53 = .ok (.invokevirtual 236, 3) := by decide +kernel
theorem dX7_meanSteps_56 : decode cX7_meanSteps 56 = .ok (.istore 5, 2) := by decide +kernel
theorem dX7_meanSteps_58 : decode cX7_meanSteps 58 = .ok (.iload_n 2, 1) := by decide +kernel
theorem dX7_meanSteps_59 : decode cX7_meanSteps 59 = .ok (.iload 5, 2) := by decide +kernel
theorem dX7_meanSteps_61 : decode cX7_meanSteps 61 = .ok (.iconst (-1), 1) := by decide +kernel
theorem dX7_meanSteps_62 : decode cX7_meanSteps 62 = .ok (.if_icmp .ne 7, 3) := by decide +kernel
theorem dX7_meanSteps_65 : decode cX7_meanSteps 65 = .ok (.iconst 0, 1) := by decide +kernel
theorem dX7_meanSteps_66 : decode cX7_meanSteps 66 = .ok (.goto 5, 3) := by decide +kernel
theorem dX7_meanSteps_69 : decode cX7_meanSteps 69 = .ok (.iload 5, 2) := by decide +kernel
theorem dX7_meanSteps_71 : decode cX7_meanSteps 71 = .ok (.iadd, 1) := by decide +kernel
theorem dX7_meanSteps_72 : decode cX7_meanSteps 72 = .ok (.istore_n 2, 1) := by decide +kernel
theorem dX7_meanSteps_73 : decode cX7_meanSteps 73 = .ok (.iload_n 3, 1) := by decide +kernel
theorem dX7_meanSteps_74 : decode cX7_meanSteps 74 = .ok (.iload 5, 2) := by decide +kernel
theorem dX7_meanSteps_76 : decode cX7_meanSteps 76 = .ok (.iconst (-1), 1) := by decide +kernel
theorem dX7_meanSteps_77 : decode cX7_meanSteps 77 = .ok (.if_icmp .ne 7, 3) := by decide +kernel
theorem dX7_meanSteps_80 : decode cX7_meanSteps 80 = .ok (.iconst 0, 1) := by decide +kernel
theorem dX7_meanSteps_81 : decode cX7_meanSteps 81 = .ok (.goto 4, 3) := by decide +kernel
theorem dX7_meanSteps_84 : decode cX7_meanSteps 84 = .ok (.iconst 1, 1) := by decide +kernel
theorem dX7_meanSteps_85 : decode cX7_meanSteps 85 = .ok (.iadd, 1) := by decide +kernel
theorem dX7_meanSteps_86 : decode cX7_meanSteps 86 = .ok (.istore_n 3, 1) := by decide +kernel
theorem dX7_meanSteps_87 : decode cX7_meanSteps 87 = .ok (.iinc 4 1, 3) := by decide +kernel
theorem dX7_meanSteps_90 : decode cX7_meanSteps 90 = .ok (.goto (-57), 3) := by decide +kernel
theorem dX7_meanSteps_93 : decode cX7_meanSteps 93 = .ok (.aload_n 0, 1) := by decide +kernel
theorem dX7_meanSteps_94 : decode cX7_meanSteps 94 = .ok (.iload_n 3, 1) := by decide +kernel
theorem dX7_meanSteps_95 : decode cX7_meanSteps 95 = .ok (.ifCond .ne 7, 3) := by decide +kernel
theorem dX7_meanSteps_98 : decode cX7_meanSteps 98 = .ok (.iconst 2, 1) := by decide +kernel
theorem dX7_meanSteps_99 : decode cX7_meanSteps 99 = .ok (.goto 4, 3) := by decide +kernel
theorem dX7_meanSteps_102 : decode cX7_meanSteps 102 = .ok (.iconst 0, 1) := by decide +kernel
theorem dX7_meanSteps_103 : decode cX7_meanSteps 103 = .ok (.putfield 37, 3) := by decide +kernel
theorem dX7_meanSteps_106 : decode cX7_meanSteps 106 = .ok (.aload_n 0, 1) := by decide +kernel
theorem dX7_meanSteps_107 : decode cX7_meanSteps 107 = .ok (.getfield 37, 3) := by decide +kernel
theorem dX7_meanSteps_110 : decode cX7_meanSteps 110 = .ok (.ifCond .le 7, 3) := by decide +kernel
theorem dX7_meanSteps_113 : decode cX7_meanSteps 113 = .ok (.dconst 0, 1) := by decide +kernel
theorem dX7_meanSteps_114 : decode cX7_meanSteps 114 = .ok (.goto 8, 3) := by decide +kernel
theorem dX7_meanSteps_117 : decode cX7_meanSteps 117 = .ok (.iload_n 2, 1) := by decide +kernel
theorem dX7_meanSteps_118 : decode cX7_meanSteps 118 = .ok (.i2d, 1) := by decide +kernel
theorem dX7_meanSteps_119 : decode cX7_meanSteps 119 = .ok (.iload_n 3, 1) := by decide +kernel
theorem dX7_meanSteps_120 : decode cX7_meanSteps 120 = .ok (.i2d, 1) := by decide +kernel
theorem dX7_meanSteps_121 : decode cX7_meanSteps 121 = .ok (.ddiv, 1) := by decide +kernel
theorem dX7_meanSteps_122 : decode cX7_meanSteps 122 = .ok (.dreturn, 1) := by decide +kernel
theorem dX7_isSound_0 : decode cX7_isSound 0 = .ok (.aload_n 0, 1) := by decide +kernel
theorem dX7_isSound_1 : decode cX7_isSound 1 = .ok (.iconst 0, 1) := by decide +kernel
theorem dX7_isSound_2 : decode cX7_isSound 2 = .ok (.putfield 37, 3) := by decide +kernel
theorem dX7_isSound_5 : decode cX7_isSound 5 = .ok (.iconst 1, 1) := by decide +kernel
theorem dX7_isSound_6 : decode cX7_isSound 6 = .ok (.ireturn, 1) := by decide +kernel
theorem dJ0_length_8abf5_0 : decode cJ0_length_8abf5 0 = .ok (.aload_n 0, 1) := by decide +kernel
theorem dJ0_length_8abf5_1 : decode cJ0_length_8abf5 1 = .ok (.getfield 9, 3) := by decide +kernel
theorem dJ0_length_8abf5_4 : decode cJ0_length_8abf5 4 = .ok (.arraylength, 1) := by decide +kernel
theorem dJ0_length_8abf5_5 : decode cJ0_length_8abf5 5 = .ok (.aload_n 0, 1) := by decide +kernel
theorem dJ0_length_8abf5_6 : decode cJ0_length_8abf5 6 = .ok (.invokevirtual 335, 3) := by decide +kernel
theorem dJ0_length_8abf5_9 : decode cJ0_length_8abf5 9 = .ok (.ishr, 1) := by decide +kernel
theorem dJ0_length_8abf5_10 : decode cJ0_length_8abf5 10 = .ok (.ireturn, 1) := by decide +kernel
theorem dJ0_indexOf_0f7a4_0 : decode cJ0_indexOf_0f7a4 0 = .ok (.aload_n 0, 1) := by decide +kernel
theorem dJ0_indexOf_0f7a4_1 : decode cJ0_indexOf_0f7a4 1 = .ok (.iload_n 1, 1) := by decide +kernel
theorem dJ0_indexOf_0f7a4_2 : decode cJ0_indexOf_0f7a4 2 = .ok (.iconst 0, 1) := by decide +kernel
theorem dJ0_indexOf_0f7a4_3 : decode cJ0_indexOf_0f7a4 3 = .ok (.invokevirtual 633, 3) := by decide +kernel
theorem dJ0_indexOf_0f7a4_6 : decode cJ0_indexOf_0f7a4 6 = .ok (.ireturn, 1) := by decide +kernel
theorem dJ0_indexOf_7cf53_0 : decode cJ0_indexOf_7cf53 0 = .ok (.aload_n 0, 1) := by decide +kernel
theorem dJ0_indexOf_7cf53_1 : decode cJ0_indexOf_7cf53 1 = .ok (.invokevirtual 492, 3) := by decide +kernel
theorem dJ0_indexOf_7cf53_4 : decode cJ0_indexOf_7cf53 4 = .ok (.ifCond .eq 19, 3) := by decide +kernel
theorem dJ0_indexOf_7cf53_7 : decode cJ0_indexOf_7cf53 7 = .ok (.aload_n 0, 1) := by decide +kernel
theorem dJ0_indexOf_7cf53_8 : decode cJ0_indexOf_7cf53 8 = .ok (.getfield 9, 3) := by decide +kernel
theorem dJ0_indexOf_7cf53_11 : decode cJ0_indexOf_7cf53 11 = .ok (.iload_n 1, 1) := by decide +kernel
theorem dJ0_indexOf_7cf53_12 : decode cJ0_indexOf_7cf53 12 = .ok (.iload_n 2, 1) := by decide +kernel
theorem dJ0_indexOf_7cf53_13 : decode cJ0_indexOf_7cf53 13 = .ok (.aload_n 0, 1) := by decide +kernel
theorem dJ0_indexOf_7cf53_14 : decode cJ0_indexOf_7cf53 14 = .ok (.invokevirtual 505, 3) := by decide +kernel
theorem dJ0_indexOf_7cf53_17 : decode cJ0_indexOf_7cf53 17 = .ok (.invokestatic 637, 3) := by decide +kernel
theorem dJ0_indexOf_7cf53_20 : decode cJ0_indexOf_7cf53 20 = .ok (.goto 16, 3) := by decide +kernel
theorem dJ0_indexOf_7cf53_36 : decode cJ0_indexOf_7cf53 36 = .ok (.ireturn, 1) := by decide +kernel
theorem dJ0_coder_7d493_0 : decode cJ0_coder_7d493 0 = .ok (.getstatic 38, 3) := by decide +kernel
theorem dJ0_coder_7d493_3 : decode cJ0_coder_7d493 3 = .ok (.ifCond .eq 10, 3) := by decide +kernel
theorem dJ0_coder_7d493_6 : decode cJ0_coder_7d493 6 = .ok (.aload_n 0, 1) := by decide +kernel
theorem dJ0_coder_7d493_7 : decode cJ0_coder_7d493 7 = .ok (.getfield 15, 3) := by decide +kernel
theorem dJ0_coder_7d493_10 : decode cJ0_coder_7d493 10 = .ok (.goto 4, 3) := by decide +kernel
theorem dJ0_coder_7d493_14 : decode cJ0_coder_7d493 14 = .ok (.ireturn, 1) := by decide +kernel
theorem dJ0_isLatin1_aae02_0 : decode cJ0_isLatin1_aae02 0 = .ok (.getstatic 38, 3) := by decide +kernel
theorem dJ0_isLatin1_aae02_3 : decode cJ0_isLatin1_aae02 3 = .ok (.ifCond .eq 14, 3) := by decide +kernel
theorem dJ0_isLatin1_aae02_6 : decode cJ0_isLatin1_aae02 6 = .ok (.aload_n 0, 1) := by decide +kernel
theorem dJ0_isLatin1_aae02_7 : decode cJ0_isLatin1_aae02 7 = .ok (.getfield 15, 3) := by decide +kernel
theorem dJ0_isLatin1_aae02_10 : decode cJ0_isLatin1_aae02 10 = .ok (.ifCond .ne 7, 3) := by decide +kernel
theorem dJ0_isLatin1_aae02_13 : decode cJ0_isLatin1_aae02 13 = .ok (.iconst 1, 1) := by decide +kernel
theorem dJ0_isLatin1_aae02_14 : decode cJ0_isLatin1_aae02 14 = .ok (.goto 4, 3) := by decide +kernel
theorem dJ0_isLatin1_aae02_18 : decode cJ0_isLatin1_aae02 18 = .ok (.ireturn, 1) := by decide +kernel
theorem dJ1_canEncode_9a6ad_0 : decode cJ1_canEncode_9a6ad 0 = .ok (.iload_n 0, 1) := by decide +kernel
theorem dJ1_canEncode_9a6ad_1 : decode cJ1_canEncode_9a6ad 1 = .ok (.ifCond .lt 14, 3) := by decide +kernel
theorem dJ1_canEncode_9a6ad_4 : decode cJ1_canEncode_9a6ad 4 = .ok (.iload_n 0, 1) := by decide +kernel
theorem dJ1_canEncode_9a6ad_5 : decode cJ1_canEncode_9a6ad 5 = .ok (.sipush 255, 3) := by decide +kernel
theorem dJ1_canEncode_9a6ad_8 : decode cJ1_canEncode_9a6ad 8 = .ok (.if_icmp .gt 7, 3) := by decide +kernel
theorem dJ1_canEncode_9a6ad_11 : decode cJ1_canEncode_9a6ad 11 = .ok (.iconst 1, 1) := by decide +kernel
theorem dJ1_canEncode_9a6ad_12 : decode cJ1_canEncode_9a6ad 12 = .ok (.goto 4, 3) := by decide +kernel
theorem dJ1_canEncode_9a6ad_15 : decode cJ1_canEncode_9a6ad 15 = .ok (.iconst 0, 1) := by decide +kernel
theorem dJ1_canEncode_9a6ad_16 : decode cJ1_canEncode_9a6ad 16 = .ok (.ireturn, 1) := by decide +kernel
theorem dJ1_indexOf_4cfef_0 : decode cJ1_indexOf_4cfef 0 = .ok (.iload_n 1, 1) := by decide +kernel
theorem dJ1_indexOf_4cfef_1 : decode cJ1_indexOf_4cfef 1 = .ok (.invokestatic 88, 3) := by decide +kernel
theorem dJ1_indexOf_4cfef_4 : decode cJ1_indexOf_4cfef 4 = .ok (.ifCond .ne 5, 3) := by decide +kernel
theorem dJ1_indexOf_4cfef_7 : decode cJ1_indexOf_4cfef 7 = .ok (.iconst (-1), 1) := by decide +kernel
theorem dJ1_indexOf_4cfef_8 : decode cJ1_indexOf_4cfef 8 = .ok (.ireturn, 1) := by decide +kernel
theorem dJ1_indexOf_4cfef_9 : decode cJ1_indexOf_4cfef 9 = .ok (.iload_n 2, 1) := by decide +kernel
theorem dJ1_indexOf_4cfef_10 : decode cJ1_indexOf_4cfef 10 = .ok (.iconst 0, 1) := by decide +kernel
theorem dJ1_indexOf_4cfef_11 : decode cJ1_indexOf_4cfef 11 = .ok (.invokestatic 92, 3) := by decide +kernel
theorem dJ1_indexOf_4cfef_14 : decode cJ1_indexOf_4cfef 14 = .ok (.istore_n 2, 1) := by decide +kernel
theorem dJ1_indexOf_4cfef_15 : decode cJ1_indexOf_4cfef 15 = .ok (.iload_n 3, 1) := by decide +kernel
theorem dJ1_indexOf_4cfef_16 : decode cJ1_indexOf_4cfef 16 = .ok (.aload_n 0, 1) := by decide +kernel
theorem dJ1_indexOf_4cfef_17 : decode cJ1_indexOf_4cfef 17 = .ok (.arraylength, 1) := by decide +kernel
theorem dJ1_indexOf_4cfef_18 : decode cJ1_indexOf_4cfef 18 = .ok (.invokestatic 38, 3) := by decide +kernel
theorem dJ1_indexOf_4cfef_21 : decode cJ1_indexOf_4cfef 21 = .ok (.istore_n 3, 1) := by decide +kernel
theorem dJ1_indexOf_4cfef_22 : decode cJ1_indexOf_4cfef 22 = .ok (.iload_n 2, 1) := by decide +kernel
theorem dJ1_indexOf_4cfef_23 : decode cJ1_indexOf_4cfef 23 = .ok (.iload_n 3, 1) := by decide +kernel
theorem dJ1_indexOf_4cfef_24 : decode cJ1_indexOf_4cfef 24 = .ok (.if_icmp .lt 5, 3) := by decide +kernel
theorem dJ1_indexOf_4cfef_29 : decode cJ1_indexOf_4cfef 29 = .ok (.aload_n 0, 1) := by decide +kernel
theorem dJ1_indexOf_4cfef_30 : decode cJ1_indexOf_4cfef 30 = .ok (.iload_n 1, 1) := by decide +kernel
theorem dJ1_indexOf_4cfef_31 : decode cJ1_indexOf_4cfef 31 = .ok (.iload_n 2, 1) := by decide +kernel
theorem dJ1_indexOf_4cfef_32 : decode cJ1_indexOf_4cfef 32 = .ok (.iload_n 3, 1) := by decide +kernel
theorem dJ1_indexOf_4cfef_33 : decode cJ1_indexOf_4cfef 33 = .ok (.invokestatic 95, 3) := by decide +kernel
theorem dJ1_indexOf_4cfef_36 : decode cJ1_indexOf_4cfef 36 = .ok (.ireturn, 1) := by decide +kernel
theorem dJ1_indexOfChar_4cfef_0 : decode cJ1_indexOfChar_4cfef 0 = .ok (.iload_n 1, 1) := by decide +kernel
theorem dJ1_indexOfChar_4cfef_1 : decode cJ1_indexOfChar_4cfef 1 = .ok (.i2b, 1) := by decide +kernel
theorem dJ1_indexOfChar_4cfef_2 : decode cJ1_indexOfChar_4cfef 2 = .ok (.istore 4, 2) := by decide +kernel
theorem dJ1_indexOfChar_4cfef_4 : decode cJ1_indexOfChar_4cfef 4 = .ok (.iload_n 2, 1) := by decide +kernel
theorem dJ1_indexOfChar_4cfef_5 : decode cJ1_indexOfChar_4cfef 5 = .ok (.istore 5, 2) := by decide +kernel
theorem dJ1_indexOfChar_4cfef_7 : decode cJ1_indexOfChar_4cfef 7 = .ok (.iload 5, 2) := by decide +kernel
theorem dJ1_indexOfChar_4cfef_9 : decode cJ1_indexOfChar_4cfef 9 = .ok (.iload_n 3, 1) := by decide +kernel
theorem dJ1_indexOfChar_4cfef_10 : decode cJ1_indexOfChar_4cfef 10 = .ok (.if_icmp .ge 21, 3) := by decide +kernel
theorem dJ1_indexOfChar_4cfef_13 : decode cJ1_indexOfChar_4cfef 13 = .ok (.aload_n 0, 1) := by decide +kernel
theorem dJ1_indexOfChar_4cfef_14 : decode cJ1_indexOfChar_4cfef 14 = .ok (.iload 5, 2) := by decide +kernel
theorem dJ1_indexOfChar_4cfef_16 : decode cJ1_indexOfChar_4cfef 16 = .ok (.baload, 1) := by decide +kernel
theorem dJ1_indexOfChar_4cfef_17 : decode cJ1_indexOfChar_4cfef 17 = .ok (.iload 4, 2) := by decide +kernel
theorem dJ1_indexOfChar_4cfef_19 : decode cJ1_indexOfChar_4cfef 19 = .ok (.if_icmp .ne 6, 3) := by decide +kernel
theorem dJ1_indexOfChar_4cfef_22 : decode cJ1_indexOfChar_4cfef 22 = .ok (.iload 5, 2) := by decide +kernel
theorem dJ1_indexOfChar_4cfef_24 : decode cJ1_indexOfChar_4cfef 24 = .ok (.ireturn, 1) := by decide +kernel
theorem dJ1_indexOfChar_4cfef_25 : decode cJ1_indexOfChar_4cfef 25 = .ok (.iinc 5 1, 3) := by decide +kernel
theorem dJ1_indexOfChar_4cfef_28 : decode cJ1_indexOfChar_4cfef 28 = .ok (.goto (-21), 3) := by decide +kernel
theorem dJ1_indexOfChar_4cfef_31 : decode cJ1_indexOfChar_4cfef 31 = .ok (.iconst (-1), 1) := by decide +kernel
theorem dJ1_indexOfChar_4cfef_32 : decode cJ1_indexOfChar_4cfef 32 = .ok (.ireturn, 1) := by decide +kernel
theorem dL_step_0 : decode cL_step 0 = .ok (.aload_n 3, 1) := by decide +kernel
theorem dL_step_1 : decode cL_step 1 = .ok (.iconst 0, 1) := by decide +kernel
theorem dL_step_2 : decode cL_step 2 = .ok (.aload_n 0, 1) := by decide +kernel
theorem dL_step_3 : decode cL_step 3 = .ok (.iload_n 1, 1) := by decide +kernel
theorem dL_step_4 : decode cL_step 4 = .ok (.iload_n 2, 1) := by decide +kernel
theorem dL_step_5 : decode cL_step 5 = .ok (.invokevirtual 7, 3) := by decide +kernel
theorem dL_step_8 : decode cL_step 8 = .ok (.i2l, 1) := by decide +kernel
theorem dL_step_9 : decode cL_step 9 = .ok (.lastore, 1) := by decide +kernel
theorem dL_step_10 : decode cL_step 10 = .ok (.goto 11, 3) := by decide +kernel
theorem dL_step_13 : decode cL_step 13 = .ok (.astore 4, 2) := by decide +kernel
theorem dL_step_15 : decode cL_step 15 = .ok (.iconst 1, 1) := by decide +kernel
theorem dL_step_16 : decode cL_step 16 = .ok (.ireturn, 1) := by decide +kernel
theorem dL_step_17 : decode cL_step 17 = .ok (.astore 4, 2) := by decide +kernel
theorem dL_step_19 : decode cL_step 19 = .ok (.iconst 2, 1) := by decide +kernel
theorem dL_step_20 : decode cL_step 20 = .ok (.ireturn, 1) := by decide +kernel
theorem dL_step_21 : decode cL_step 21 = .ok (.iconst 0, 1) := by decide +kernel
theorem dL_step_22 : decode cL_step 22 = .ok (.ireturn, 1) := by decide +kernel
theorem dL_number_0 : decode cL_number 0 = .ok (.aload_n 3, 1) := by decide +kernel
theorem dL_number_1 : decode cL_number 1 = .ok (.iconst 0, 1) := by decide +kernel
theorem dL_number_2 : decode cL_number 2 = .ok (.aload_n 0, 1) := by decide +kernel
theorem dL_number_3 : decode cL_number 3 = .ok (.iload_n 1, 1) := by decide +kernel
theorem dL_number_4 : decode cL_number 4 = .ok (.iload_n 2, 1) := by decide +kernel
theorem dL_number_5 : decode cL_number 5 = .ok (.invokevirtual 17, 3) := by decide +kernel
theorem dL_number_8 : decode cL_number 8 = .ok (.i2l, 1) := by decide +kernel
theorem dL_number_9 : decode cL_number 9 = .ok (.lastore, 1) := by decide +kernel
theorem dL_number_10 : decode cL_number 10 = .ok (.goto 11, 3) := by decide +kernel
theorem dL_number_13 : decode cL_number 13 = .ok (.astore 4, 2) := by decide +kernel
theorem dL_number_15 : decode cL_number 15 = .ok (.iconst 1, 1) := by decide +kernel
theorem dL_number_16 : decode cL_number 16 = .ok (.ireturn, 1) := by decide +kernel
theorem dL_number_17 : decode cL_number 17 = .ok (.astore 4, 2) := by decide +kernel
theorem dL_number_19 : decode cL_number 19 = .ok (.iconst 2, 1) := by decide +kernel
theorem dL_number_20 : decode cL_number 20 = .ok (.ireturn, 1) := by decide +kernel
theorem dL_number_21 : decode cL_number 21 = .ok (.iconst 0, 1) := by decide +kernel
theorem dL_number_22 : decode cL_number 22 = .ok (.ireturn, 1) := by decide +kernel
theorem dL_kata_0 : decode cL_kata 0 = .ok (.aload_n 2, 1) := by decide +kernel
theorem dL_kata_1 : decode cL_kata 1 = .ok (.iconst 0, 1) := by decide +kernel
theorem dL_kata_2 : decode cL_kata 2 = .ok (.aload_n 0, 1) := by decide +kernel
theorem dL_kata_3 : decode cL_kata 3 = .ok (.iload_n 1, 1) := by decide +kernel
theorem dL_kata_4 : decode cL_kata 4 = .ok (.invokevirtual 21, 3) := by decide +kernel
theorem dL_kata_7 : decode cL_kata 7 = .ok (.i2l, 1) := by decide +kernel
theorem dL_kata_8 : decode cL_kata 8 = .ok (.lastore, 1) := by decide +kernel
theorem dL_kata_9 : decode cL_kata 9 = .ok (.goto 9, 3) := by decide +kernel
theorem dL_kata_12 : decode cL_kata 12 = .ok (.astore_n 3, 1) := by decide +kernel
theorem dL_kata_13 : decode cL_kata 13 = .ok (.iconst 1, 1) := by decide +kernel
theorem dL_kata_14 : decode cL_kata 14 = .ok (.ireturn, 1) := by decide +kernel
theorem dL_kata_15 : decode cL_kata 15 = .ok (.astore_n 3, 1) := by decide +kernel
theorem dL_kata_16 : decode cL_kata 16 = .ok (.iconst 2, 1) := by decide +kernel
theorem dL_kata_17 : decode cL_kata 17 = .ok (.ireturn, 1) := by decide +kernel
theorem dL_kata_18 : decode cL_kata 18 = .ok (.iconst 0, 1) := by decide +kernel
theorem dL_kata_19 : decode cL_kata 19 = .ok (.ireturn, 1) := by decide +kernel
theorem dL_test_0 : decode cL_test 0 = .ok (.aload_n 2, 1) := by decide +kernel
theorem dL_test_1 : decode cL_test 1 = .ok (.iconst 0, 1) := by decide +kernel
theorem dL_test_2 : decode cL_test 2 = .ok (.aload_n 0, 1) := by decide +kernel
theorem dL_test_3 : decode cL_test 3 = .ok (.iload_n 1, 1) := by decide +kernel
theorem dL_test_4 : decode cL_test 4 = .ok (.invokevirtual 25, 3) := by decide +kernel
theorem dL_test_7 : decode cL_test 7 = .ok (.i2l, 1) := by decide +kernel
theorem dL_test_8 : decode cL_test 8 = .ok (.lastore, 1) := by decide +kernel
theorem dL_test_9 : decode cL_test 9 = .ok (.goto 9, 3) := by decide +kernel
theorem dL_test_12 : decode cL_test 12 = .ok (.astore_n 3, 1) := by decide +kernel
theorem dL_test_13 : decode cL_test 13 = .ok (.iconst 1, 1) := by decide +kernel
theorem dL_test_14 : decode cL_test 14 = .ok (.ireturn, 1) := by decide +kernel
theorem dL_test_15 : decode cL_test 15 = .ok (.astore_n 3, 1) := by decide +kernel
theorem dL_test_16 : decode cL_test 16 = .ok (.iconst 2, 1) := by decide +kernel
theorem dL_test_17 : decode cL_test 17 = .ok (.ireturn, 1) := by decide +kernel
theorem dL_test_18 : decode cL_test 18 = .ok (.iconst 0, 1) := by decide +kernel
theorem dL_test_19 : decode cL_test 19 = .ok (.ireturn, 1) := by decide +kernel
theorem dL_fix_0 : decode cL_fix 0 = .ok (.aload_n 3, 1) := by decide +kernel
theorem dL_fix_1 : decode cL_fix 1 = .ok (.iconst 0, 1) := by decide +kernel
theorem dL_fix_2 : decode cL_fix 2 = .ok (.aload_n 0, 1) := by decide +kernel
theorem dL_fix_3 : decode cL_fix 3 = .ok (.iload_n 1, 1) := by decide +kernel
theorem dL_fix_4 : decode cL_fix 4 = .ok (.iload_n 2, 1) := by decide +kernel
theorem dL_fix_5 : decode cL_fix 5 = .ok (.invokevirtual 30, 3) := by decide +kernel
theorem dL_fix_8 : decode cL_fix 8 = .ok (.i2l, 1) := by decide +kernel
theorem dL_fix_9 : decode cL_fix 9 = .ok (.lastore, 1) := by decide +kernel
theorem dL_fix_10 : decode cL_fix 10 = .ok (.goto 7, 3) := by decide +kernel
theorem dL_fix_13 : decode cL_fix 13 = .ok (.astore 4, 2) := by decide +kernel
theorem dL_fix_15 : decode cL_fix 15 = .ok (.iconst 1, 1) := by decide +kernel
theorem dL_fix_16 : decode cL_fix 16 = .ok (.ireturn, 1) := by decide +kernel
theorem dL_fix_17 : decode cL_fix 17 = .ok (.iconst 0, 1) := by decide +kernel
theorem dL_fix_18 : decode cL_fix 18 = .ok (.ireturn, 1) := by decide +kernel
theorem dL_tests_0 : decode cL_tests 0 = .ok (.aload_n 2, 1) := by decide +kernel
theorem dL_tests_1 : decode cL_tests 1 = .ok (.iconst 0, 1) := by decide +kernel
theorem dL_tests_2 : decode cL_tests 2 = .ok (.aload_n 0, 1) := by decide +kernel
theorem dL_tests_3 : decode cL_tests 3 = .ok (.iload_n 1, 1) := by decide +kernel
theorem dL_tests_4 : decode cL_tests 4 = .ok (.invokevirtual 34, 3) := by decide +kernel
theorem dL_tests_7 : decode cL_tests 7 = .ok (.i2l, 1) := by decide +kernel
theorem dL_tests_8 : decode cL_tests 8 = .ok (.lastore, 1) := by decide +kernel
theorem dL_tests_9 : decode cL_tests 9 = .ok (.goto 6, 3) := by decide +kernel
theorem dL_tests_12 : decode cL_tests 12 = .ok (.astore_n 3, 1) := by decide +kernel
theorem dL_tests_13 : decode cL_tests 13 = .ok (.iconst 1, 1) := by decide +kernel
theorem dL_tests_14 : decode cL_tests 14 = .ok (.ireturn, 1) := by decide +kernel
theorem dL_tests_15 : decode cL_tests 15 = .ok (.iconst 0, 1) := by decide +kernel
theorem dL_tests_16 : decode cL_tests 16 = .ok (.ireturn, 1) := by decide +kernel
theorem dL_run_0 : decode cL_run 0 = .ok (.aload_n 3, 1) := by decide +kernel
theorem dL_run_1 : decode cL_run 1 = .ok (.iconst 0, 1) := by decide +kernel
theorem dL_run_2 : decode cL_run 2 = .ok (.aload_n 0, 1) := by decide +kernel
theorem dL_run_3 : decode cL_run 3 = .ok (.iload_n 1, 1) := by decide +kernel
theorem dL_run_4 : decode cL_run 4 = .ok (.iload_n 2, 1) := by decide +kernel
theorem dL_run_5 : decode cL_run 5 = .ok (.invokevirtual 37, 3) := by decide +kernel
theorem dL_run_8 : decode cL_run 8 = .ok (.i2l, 1) := by decide +kernel
theorem dL_run_9 : decode cL_run 9 = .ok (.lastore, 1) := by decide +kernel
theorem dL_run_10 : decode cL_run 10 = .ok (.goto 11, 3) := by decide +kernel
theorem dL_run_13 : decode cL_run 13 = .ok (.astore 4, 2) := by decide +kernel
theorem dL_run_15 : decode cL_run 15 = .ok (.iconst 1, 1) := by decide +kernel
theorem dL_run_16 : decode cL_run 16 = .ok (.ireturn, 1) := by decide +kernel
theorem dL_run_17 : decode cL_run 17 = .ok (.astore 4, 2) := by decide +kernel
theorem dL_run_19 : decode cL_run 19 = .ok (.iconst 2, 1) := by decide +kernel
theorem dL_run_20 : decode cL_run 20 = .ok (.ireturn, 1) := by decide +kernel
theorem dL_run_21 : decode cL_run 21 = .ok (.iconst 0, 1) := by decide +kernel
theorem dL_run_22 : decode cL_run 22 = .ok (.ireturn, 1) := by decide +kernel
theorem dL_done_0 : decode cL_done 0 = .ok (.aload_n 1, 1) := by decide +kernel
theorem dL_done_1 : decode cL_done 1 = .ok (.iconst 0, 1) := by decide +kernel
theorem dL_done_2 : decode cL_done 2 = .ok (.aload_n 0, 1) := by decide +kernel
theorem dL_done_3 : decode cL_done 3 = .ok (.invokevirtual 43, 3) := by decide +kernel
theorem dL_done_6 : decode cL_done 6 = .ok (.i2l, 1) := by decide +kernel
theorem dL_done_7 : decode cL_done 7 = .ok (.lastore, 1) := by decide +kernel
theorem dL_done_8 : decode cL_done 8 = .ok (.goto 6, 3) := by decide +kernel
theorem dL_done_11 : decode cL_done 11 = .ok (.astore_n 2, 1) := by decide +kernel
theorem dL_done_12 : decode cL_done 12 = .ok (.iconst 1, 1) := by decide +kernel
theorem dL_done_13 : decode cL_done 13 = .ok (.ireturn, 1) := by decide +kernel
theorem dL_done_14 : decode cL_done 14 = .ok (.iconst 0, 1) := by decide +kernel
theorem dL_done_15 : decode cL_done 15 = .ok (.ireturn, 1) := by decide +kernel
theorem dL_outputs_0 : decode cL_outputs 0 = .ok (.aload_n 1, 1) := by decide +kernel
theorem dL_outputs_1 : decode cL_outputs 1 = .ok (.iconst 0, 1) := by decide +kernel
theorem dL_outputs_2 : decode cL_outputs 2 = .ok (.aload_n 0, 1) := by decide +kernel
theorem dL_outputs_3 : decode cL_outputs 3 = .ok (.invokevirtual 49, 3) := by decide +kernel
theorem dL_outputs_6 : decode cL_outputs 6 = .ok (.i2l, 1) := by decide +kernel
theorem dX6_isTheBody_40 : decode cX6_isTheBody 40 = .ok (.aload_n 2, 1) := by decide +kernel
theorem dX6_isTheBody_41 : decode cX6_isTheBody 41 = .ok (.getfield 432, 3) := by decide +kernel
theorem dX6_isTheBody_44 : decode cX6_isTheBody 44 = .ok (.if_icmp .ge 71, 3) := by decide +kernel
theorem dX6_isTheBody_47 : decode cX6_isTheBody 47 = .ok (.iload 4, 2) := by decide +kernel
theorem dX6_isTheBody_49 : decode cX6_isTheBody 49 = .ok (.aload_n 3, 1) := by decide +kernel
theorem dX6_isTheBody_50 : decode cX6_isTheBody 50 = .ok (.getfield 146, 3) := by decide +kernel
theorem dX6_isTheBody_53 : decode cX6_isTheBody 53 = .ok (.if_icmp .ge 62, 3) := by decide +kernel
theorem dX6_isTheBody_56 : decode cX6_isTheBody 56 = .ok (.aload_n 3, 1) := by decide +kernel
theorem dX6_isTheBody_57 : decode cX6_isTheBody 57 = .ok (.getfield 151, 3) := by decide +kernel
theorem dX6_isTheBody_60 : decode cX6_isTheBody 60 = .ok (.iload 4, 2) := by decide +kernel
theorem dX6_isTheBody_62 : decode cX6_isTheBody 62 = .ok (.aaload, 1) := by decide +kernel
theorem dX6_isTheBody_63 : decode cX6_isTheBody 63 = .ok (.getfield 421, 3) := by decide +kernel
theorem dX6_isTheBody_66 : decode cX6_isTheBody 66 = .ok (.aload_n 2, 1) := by decide +kernel
theorem dX6_isTheBody_67 : decode cX6_isTheBody 67 = .ok (.getfield 444, 3) := by decide +kernel
theorem dX6_isTheBody_70 : decode cX6_isTheBody 70 = .ok (.if_icmp .le 7, 3) := by decide +kernel
theorem dX6_isTheBody_73 : decode cX6_isTheBody 73 = .ok (.iconst 1, 1) := by decide +kernel
theorem dX6_isTheBody_74 : decode cX6_isTheBody 74 = .ok (.goto 4, 3) := by decide +kernel
theorem dX6_isTheBody_77 : decode cX6_isTheBody 77 = .ok (.iconst 0, 1) := by decide +kernel
theorem dX6_isTheBody_78 : decode cX6_isTheBody 78 = .ok (.istore 5, 2) := by decide +kernel
theorem dX6_isTheBody_80 : decode cX6_isTheBody 80 = .ok (.iload 5, 2) := by decide +kernel
theorem dX6_isTheBody_82 : decode cX6_isTheBody 82 = .ok (.ifCond .ne 27, 3) := by decide +kernel
theorem dX6_isTheBody_85 : decode cX6_isTheBody 85 = .ok (.aload_n 0, 1) := by decide +kernel
theorem dX6_isTheBody_86 : decode cX6_isTheBody 86 = .ok (.aload_n 1, 1) := by decide +kernel
theorem dX6_isTheBody_87 : decode cX6_isTheBody 87 = .ok (.aload_n 3, 1) := by decide +kernel
theorem dX6_isTheBody_88 : decode cX6_isTheBody 88 = .ok (.getfield 151, 3) := by decide +kernel
theorem dX6_isTheBody_91 : decode cX6_isTheBody 91 = .ok (.iload 4, 2) := by decide +kernel
theorem dX6_isTheBody_93 : decode cX6_isTheBody 93 = .ok (.aaload, 1) := by decide +kernel
theorem dX6_isTheBody_94 : decode cX6_isTheBody 94 = .ok (.invokevirtual 428, 3) := by decide +kernel
theorem dX6_isTheBody_97 : decode cX6_isTheBody 97 = .ok (.aload_n 2, 1) := by decide +kernel
theorem dX6_isTheBody_98 : decode cX6_isTheBody 98 = .ok (.getfield 435, 3) := by decide +kernel
theorem dX6_isTheBody_101 : decode cX6_isTheBody 101 = .ok (.iload 4, 2) := by decide +kernel
theorem dX6_isTheBody_103 : decode cX6_isTheBody 103 = .ok (.iaload, 1) := by decide +kernel
theorem dX6_isTheBody_104 : decode cX6_isTheBody 104 = .ok (.if_icmp .eq 5, 3) := by decide +kernel
theorem dX6_isTheBody_107 : decode cX6_isTheBody 107 = .ok (.iconst 0, 1) := by decide +kernel
theorem dX6_isTheBody_108 : decode cX6_isTheBody 108 = .ok (.ireturn, 1) := by decide +kernel
theorem dX6_isTheBody_109 : decode cX6_isTheBody 109 = .ok (.iinc 4 1, 3) := by decide +kernel
theorem dX6_isTheBody_112 : decode cX6_isTheBody 112 = .ok (.goto (-74), 3) := by decide +kernel
theorem dX6_isTheBody_115 : decode cX6_isTheBody 115 = .ok (.iconst 1, 1) := by decide +kernel
theorem dX6_isTheBody_116 : decode cX6_isTheBody 116 = .ok (.ireturn, 1) := by decide +kernel
theorem dX6_closeByBody_0 : decode cX6_closeByBody 0 = .ok (.aload_n 0, 1) := by decide +kernel
theorem dX6_closeByBody_1 : decode cX6_closeByBody 1 = .ok (.getfield 37, 3) := by decide +kernel
theorem dX6_closeByBody_4 : decode cX6_closeByBody 4 = .ok (.iload_n 1, 1) := by decide +kernel
theorem dX6_closeByBody_5 : decode cX6_closeByBody 5 = .ok (.aaload, 1) := by decide +kernel
theorem dX6_closeByBody_6 : decode cX6_closeByBody 6 = .ok (.astore 4, 2) := by decide +kernel
theorem dX6_closeByBody_8 : decode cX6_closeByBody 8 = .ok (.aload_n 0, 1) := by decide +kernel
theorem dX6_closeByBody_9 : decode cX6_closeByBody 9 = .ok (.iload_n 1, 1) := by decide +kernel
theorem dX6_closeByBody_10 : decode cX6_closeByBody 10 = .ok (.invokevirtual 375, 3) := by decide +kernel
theorem dX6_closeByBody_13 : decode cX6_closeByBody 13 = .ok (.aload 4, 2) := by decide +kernel
theorem dX6_closeByBody_15 : decode cX6_closeByBody 15 = .ok (.aload_n 2, 1) := by decide +kernel
theorem dX6_closeByBody_16 : decode cX6_closeByBody 16 = .ok (.invokevirtual 465, 3) := by decide +kernel
theorem dX6_closeByBody_19 : decode cX6_closeByBody 19 = .ok (.aload_n 0, 1) := by decide +kernel
theorem dX6_closeByBody_20 : decode cX6_closeByBody 20 = .ok (.aload 4, 2) := by decide +kernel
theorem dX6_closeByBody_22 : decode cX6_closeByBody 22 = .ok (.invokevirtual 424, 3) := by decide +kernel
theorem dX6_closeByBody_25 : decode cX6_closeByBody 25 = .ok (.istore 5, 2) := by decide +kernel
theorem dX6_closeByBody_27 : decode cX6_closeByBody 27 = .ok (.aload 4, 2) := by decide +kernel
theorem dX6_closeByBody_29 : decode cX6_closeByBody 29 = .ok (.iload 5, 2) := by decide +kernel
theorem dX6_closeByBody_31 : decode cX6_closeByBody 31 = .ok (.putfield 238, 3) := by decide +kernel
theorem dX6_closeByBody_34 : decode cX6_closeByBody 34 = .ok (.aload_n 0, 1) := by decide +kernel
theorem dX6_closeByBody_35 : decode cX6_closeByBody 35 = .ok (.invokevirtual 215, 3) := by decide +kernel
theorem dX6_closeByBody_38 : decode cX6_closeByBody 38 = .ok (.pop, 1) := by decide +kernel
theorem dX6_closeByBody_39 : decode cX6_closeByBody 39 = .ok (.iload 5, 2) := by decide +kernel
theorem dX6_closeByBody_41 : decode cX6_closeByBody 41 = .ok (.bipush 115, 2) := by decide +kernel
theorem dX6_closeByBody_43 : decode cX6_closeByBody 43 = .ok (.if_icmp .ne 16, 3) := by decide +kernel
theorem dX6_closeByBody_46 : decode cX6_closeByBody 46 = .ok (.aload_n 3, 1) := by decide +kernel
theorem dX6_closeByBody_47 : decode cX6_closeByBody 47 = .ok (.dup, 1) := by decide +kernel
theorem dX6_closeByBody_48 : decode cX6_closeByBody 48 = .ok (.getfield 331, 3) := by decide +kernel
theorem dX6_closeByBody_51 : decode cX6_closeByBody 51 = .ok (.iconst 3, 1) := by decide +kernel
theorem dX6_closeByBody_52 : decode cX6_closeByBody 52 = .ok (.iadd, 1) := by decide +kernel
theorem dX6_closeByBody_53 : decode cX6_closeByBody 53 = .ok (.putfield 331, 3) := by decide +kernel
theorem dX6_closeByBody_56 : decode cX6_closeByBody 56 = .ok (.bipush 115, 2) := by decide +kernel
theorem dX6_closeByBody_58 : decode cX6_closeByBody 58 = .ok (.ireturn, 1) := by decide +kernel
theorem dX6_closeByBody_59 : decode cX6_closeByBody 59 = .ok (.aload_n 0, 1) := by decide +kernel
theorem dX6_closeByBody_60 : decode cX6_closeByBody 60 = .ok (.getfield 31, 3) := by decide +kernel
theorem dX6_closeByBody_63 : decode cX6_closeByBody 63 = .ok (.aload 4, 2) := by decide +kernel
theorem dX6_closeByBody_65 : decode cX6_closeByBody 65 = .ok (.getfield 344, 3) := by decide +kernel
theorem dX6_closeByBody_68 : decode cX6_closeByBody 68 = .ok (.aaload, 1) := by decide +kernel
theorem dX6_closeByBody_69 : decode cX6_closeByBody 69 = .ok (.dup, 1) := by decide +kernel
theorem dX6_closeByBody_70 : decode cX6_closeByBody 70 = .ok (.getfield 331, 3) := by decide +kernel
theorem dX6_closeByBody_73 : decode cX6_closeByBody 73 = .ok (.iconst 5, 1) := by decide +kernel
theorem dX6_closeByBody_74 : decode cX6_closeByBody 74 = .ok (.iadd, 1) := by decide +kernel
theorem dX6_closeByBody_75 : decode cX6_closeByBody 75 = .ok (.putfield 331, 3) := by decide +kernel
theorem dX6_closeByBody_78 : decode cX6_closeByBody 78 = .ok (.aload 4, 2) := by decide +kernel
theorem dX6_closeByBody_80 : decode cX6_closeByBody 80 = .ok (.getfield 252, 3) := by decide +kernel
theorem dX6_closeByBody_83 : decode cX6_closeByBody 83 = .ok (.ifCond .eq 9, 3) := by decide +kernel
theorem dX6_closeByBody_86 : decode cX6_closeByBody 86 = .ok (.aload_n 0, 1) := by decide +kernel
theorem dX6_closeByBody_87 : decode cX6_closeByBody 87 = .ok (.aload 4, 2) := by decide +kernel
theorem dX6_closeByBody_89 : decode cX6_closeByBody 89 = .ok (.invokevirtual 266, 3) := by decide +kernel
theorem dX6_closeByBody_92 : decode cX6_closeByBody 92 = .ok (.bipush 98, 2) := by decide +kernel
theorem dX6_closeByBody_94 : decode cX6_closeByBody 94 = .ok (.ireturn, 1) := by decide +kernel
theorem dX6_closeChallenge_0 : decode cX6_closeChallenge 0 = .ok (.iconst 0, 1) := by decide +kernel
theorem dX6_closeChallenge_1 : decode cX6_closeChallenge 1 = .ok (.istore_n 2, 1) := by decide +kernel
theorem dX6_closeChallenge_2 : decode cX6_closeChallenge 2 = .ok (.iconst 0, 1) := by decide +kernel
theorem dX6_closeChallenge_3 : decode cX6_closeChallenge 3 = .ok (.istore_n 3, 1) := by decide +kernel
theorem dX6_closeChallenge_4 : decode cX6_closeChallenge 4 = .ok (.iload_n 3, 1) := by decide +kernel
theorem dX6_closeChallenge_5 : decode cX6_closeChallenge 5 = .ok (.aload_n 0, 1) := by decide +kernel
theorem dX6_closeChallenge_6 : decode cX6_closeChallenge 6 = .ok (.getfield 68, 3) := by decide +kernel
theorem dX6_closeChallenge_9 : decode cX6_closeChallenge 9 = .ok (.if_icmp .ge 34, 3) := by decide +kernel
theorem dX6_closeChallenge_12 : decode cX6_closeChallenge 12 = .ok (.aload_n 0, 1) := by decide +kernel
theorem dX6_closeChallenge_13 : decode cX6_closeChallenge 13 = .ok (.getfield 41, 3) := by decide +kernel
theorem dX6_closeChallenge_16 : decode cX6_closeChallenge 16 = .ok (.iload_n 3, 1) := by decide +kernel
theorem dX6_closeChallenge_17 : decode cX6_closeChallenge 17 = .ok (.iaload, 1) := by decide +kernel
theorem dX6_closeChallenge_18 : decode cX6_closeChallenge 18 = .ok (.iload_n 1, 1) := by decide +kernel
theorem dX6_closeChallenge_19 : decode cX6_closeChallenge 19 = .ok (.if_icmp .eq 18, 3) := by decide +kernel
theorem dX6_closeChallenge_22 : decode cX6_closeChallenge 22 = .ok (.aload_n 0, 1) := by decide +kernel
theorem dX6_closeChallenge_23 : decode cX6_closeChallenge 23 = .ok (.getfield 41, 3) := by decide +kernel
theorem dX6_closeChallenge_26 : decode cX6_closeChallenge 26 = .ok (.iload_n 2, 1) := by decide +kernel
theorem dX6_closeChallenge_27 : decode cX6_closeChallenge 27 = .ok (.aload_n 0, 1) := by decide +kernel
theorem dX6_closeChallenge_28 : decode cX6_closeChallenge 28 = .ok (.getfield 41, 3) := by decide +kernel
theorem dX6_closeChallenge_31 : decode cX6_closeChallenge 31 = .ok (.iload_n 3, 1) := by decide +kernel
theorem dX6_closeChallenge_32 : decode cX6_closeChallenge 32 = .ok (.iaload, 1) := by decide +kernel
theorem dX6_closeChallenge_33 : decode cX6_closeChallenge 33 = .ok (.iastore, 1) := by decide +kernel
theorem dX6_closeChallenge_34 : decode cX6_closeChallenge 34 = .ok (.iinc 2 1, 3) := by decide +kernel
theorem dX6_closeChallenge_37 : decode cX6_closeChallenge 37 = .ok (.iinc 3 1, 3) := by decide +kernel
theorem dX6_closeChallenge_40 : decode cX6_closeChallenge 40 = .ok (.goto (-36), 3) := by decide +kernel
theorem dX6_closeChallenge_43 : decode cX6_closeChallenge 43 = .ok (.aload_n 0, 1) := by decide +kernel
theorem dX6_closeChallenge_44 : decode cX6_closeChallenge 44 = .ok (.iload_n 2, 1) := by decide +kernel
theorem dX6_closeChallenge_45 : decode cX6_closeChallenge 45 = .ok (.putfield 68, 3) := by decide +kernel
theorem dX6_closeChallenge_48 : decode cX6_closeChallenge 48 = .ok (.return_, 1) := by decide +kernel
theorem dX6_areBodiesSound_0 : decode cX6_areBodiesSound 0 = .ok (.iconst 0, 1) := by decide +kernel
theorem dX6_areBodiesSound_1 : decode cX6_areBodiesSound 1 = .ok (.istore_n 1, 1) := by decide +kernel
theorem dX6_areBodiesSound_2 : decode cX6_areBodiesSound 2 = .ok (.iload_n 1, 1) := by decide +kernel
theorem dX6_areBodiesSound_3 : decode cX6_areBodiesSound 3 = .ok (.aload_n 0, 1) := by decide +kernel
theorem dX6_areBodiesSound_4 : decode cX6_areBodiesSound 4 = .ok (.getfield 65, 3) := by decide +kernel
theorem dX6_areBodiesSound_7 : decode cX6_areBodiesSound 7 = .ok (.if_icmp .ge 52, 3) := by decide +kernel
theorem dX6_areBodiesSound_10 : decode cX6_areBodiesSound 10 = .ok (.aload_n 0, 1) := by decide +kernel
theorem dX6_areBodiesSound_11 : decode cX6_areBodiesSound 11 = .ok (.getfield 37, 3) := by decide +kernel
theorem dX6_areBodiesSound_14 : decode cX6_areBodiesSound 14 = .ok (.iload_n 1, 1) := by decide +kernel
theorem dX6_areBodiesSound_15 : decode cX6_areBodiesSound 15 = .ok (.aaload, 1) := by decide +kernel
theorem dX6_areBodiesSound_16 : decode cX6_areBodiesSound 16 = .ok (.astore_n 2, 1) := by decide +kernel
theorem dX6_areBodiesSound_17 : decode cX6_areBodiesSound 17 = .ok (.aload_n 2, 1) := by decide +kernel
theorem dX6_areBodiesSound_18 : decode cX6_areBodiesSound 18 = .ok (.getfield 252, 3) := by decide +kernel
theorem dX6_areBodiesSound_21 : decode cX6_areBodiesSound 21 = .ok (.ifCond .eq 32, 3) := by decide +kernel
theorem dX6_areBodiesSound_24 : decode cX6_areBodiesSound 24 = .ok (.aload_n 2, 1) := by decide +kernel
theorem dX6_areBodiesSound_25 : decode cX6_areBodiesSound 25 = .ok (.getfield 255, 3) := by decide +kernel
theorem dX6_areBodiesSound_28 : decode cX6_areBodiesSound 28 = .ok (.invokevirtual 461, 3) := by decide +kernel
theorem dX6_areBodiesSound_31 : decode cX6_areBodiesSound 31 = .ok (.aload_n 2, 1) := by decide +kernel
theorem dX6_areBodiesSound_32 : decode cX6_areBodiesSound 32 = .ok (.getfield 242, 3) := by decide +kernel
theorem dX6_areBodiesSound_35 : decode cX6_areBodiesSound 35 = .ok (.lcmp, 1) := by decide +kernel
theorem dX6_areBodiesSound_36 : decode cX6_areBodiesSound 36 = .ok (.ifCond .ne 15, 3) := by decide +kernel
theorem dX6_areBodiesSound_39 : decode cX6_areBodiesSound 39 = .ok (.aload_n 2, 1) := by decide +kernel
theorem dX6_areBodiesSound_40 : decode cX6_areBodiesSound 40 = .ok (.getfield 238, 3) := by decide +kernel
theorem dX6_areBodiesSound_43 : decode cX6_areBodiesSound 43 = .ok (.aload_n 0, 1) := by decide +kernel
theorem dX6_areBodiesSound_44 : decode cX6_areBodiesSound 44 = .ok (.aload_n 2, 1) := by decide +kernel
theorem dX6_areBodiesSound_45 : decode cX6_areBodiesSound 45 = .ok (.invokevirtual 424, 3) := by decide +kernel
theorem dX6_areBodiesSound_48 : decode cX6_areBodiesSound 48 = .ok (.if_icmp .eq 5, 3) := by decide +kernel
theorem dX6_areBodiesSound_51 : decode cX6_areBodiesSound 51 = .ok (.iconst 0, 1) := by decide +kernel
theorem dX6_areBodiesSound_52 : decode cX6_areBodiesSound 52 = .ok (.ireturn, 1) := by decide +kernel
theorem dX6_areBodiesSound_53 : decode cX6_areBodiesSound 53 = .ok (.iinc 1 1, 3) := by decide +kernel
theorem dX6_areBodiesSound_56 : decode cX6_areBodiesSound 56 = .ok (.goto (-54), 3) := by decide +kernel
theorem dX6_areBodiesSound_59 : decode cX6_areBodiesSound 59 = .ok (.iconst 1, 1) := by decide +kernel
theorem dX6_areBodiesSound_60 : decode cX6_areBodiesSound 60 = .ok (.ireturn, 1) := by decide +kernel
theorem dX6_areBeltsSound_0 : decode cX6_areBeltsSound 0 = .ok (.iconst 0, 1) := by decide +kernel
theorem dX6_areBeltsSound_1 : decode cX6_areBeltsSound 1 = .ok (.istore_n 1, 1) := by decide +kernel
theorem dX6_areBeltsSound_2 : decode cX6_areBeltsSound 2 = .ok (.iload_n 1, 1) := by decide +kernel
theorem dX6_areBeltsSound_3 : decode cX6_areBeltsSound 3 = .ok (.aload_n 0, 1) := by decide +kernel
theorem dX6_areBeltsSound_4 : decode cX6_areBeltsSound 4 = .ok (.getfield 65, 3) := by decide +kernel
theorem dX6_areBeltsSound_7 : decode cX6_areBeltsSound 7 = .ok (.if_icmp .ge 23, 3) := by decide +kernel
theorem dX6_areBeltsSound_10 : decode cX6_areBeltsSound 10 = .ok (.aload_n 0, 1) := by decide +kernel
theorem dX6_areBeltsSound_11 : decode cX6_areBeltsSound 11 = .ok (.getfield 37, 3) := by decide +kernel
theorem dX6_areBeltsSound_14 : decode cX6_areBeltsSound 14 = .ok (.iload_n 1, 1) := by decide +kernel
theorem dX6_areBeltsSound_15 : decode cX6_areBeltsSound 15 = .ok (.aaload, 1) := by decide +kernel
theorem dX6_areBeltsSound_16 : decode cX6_areBeltsSound 16 = .ok (.invokevirtual 469, 3) := by decide +kernel
theorem dX6_areBeltsSound_19 : decode cX6_areBeltsSound 19 = .ok (.ifCond .ne 5, 3) := by decide +kernel
theorem dX6_areBeltsSound_22 : decode cX6_areBeltsSound 22 = .ok (.iconst 0, 1) := by decide +kernel
theorem dX6_areBeltsSound_23 : decode cX6_areBeltsSound 23 = .ok (.ireturn, 1) := by decide +kernel
theorem dX6_areBeltsSound_24 : decode cX6_areBeltsSound 24 = .ok (.iinc 1 1, 3) := by decide +kernel
theorem dX6_areBeltsSound_27 : decode cX6_areBeltsSound 27 = .ok (.goto (-25), 3) := by decide +kernel
theorem dX6_areBeltsSound_30 : decode cX6_areBeltsSound 30 = .ok (.iconst 0, 1) := by decide +kernel
theorem dX6_areBeltsSound_31 : decode cX6_areBeltsSound 31 = .ok (.istore_n 1, 1) := by decide +kernel
theorem dX6_areBeltsSound_32 : decode cX6_areBeltsSound 32 = .ok (.iload_n 1, 1) := by decide +kernel
theorem dX6_areBeltsSound_33 : decode cX6_areBeltsSound 33 = .ok (.aload_n 0, 1) := by decide +kernel
theorem dX6_areBeltsSound_34 : decode cX6_areBeltsSound 34 = .ok (.getfield 62, 3) := by decide +kernel
theorem dX6_areBeltsSound_37 : decode cX6_areBeltsSound 37 = .ok (.if_icmp .ge 24, 3) := by decide +kernel
theorem dX6_areBeltsSound_40 : decode cX6_areBeltsSound 40 = .ok (.aload_n 0, 1) := by decide +kernel
theorem dX6_areBeltsSound_41 : decode cX6_areBeltsSound 41 = .ok (.iload_n 1, 1) := by decide +kernel
theorem dX6_areBeltsSound_42 : decode cX6_areBeltsSound 42 = .ok (.invokevirtual 295, 3) := by decide +kernel
theorem dX6_areBeltsSound_45 : decode cX6_areBeltsSound 45 = .ok (.aload_n 0, 1) := by decide +kernel
theorem dX6_areBeltsSound_46 : decode cX6_areBeltsSound 46 = .ok (.iload_n 1, 1) := by decide +kernel
theorem dX6_areBeltsSound_47 : decode cX6_areBeltsSound 47 = .ok (.invokevirtual 472, 3) := by decide +kernel
theorem dX6_areBeltsSound_50 : decode cX6_areBeltsSound 50 = .ok (.if_icmp .eq 5, 3) := by decide +kernel
theorem dX6_areBeltsSound_53 : decode cX6_areBeltsSound 53 = .ok (.iconst 0, 1) := by decide +kernel
theorem dX6_areBeltsSound_54 : decode cX6_areBeltsSound 54 = .ok (.ireturn, 1) := by decide +kernel
theorem dX6_areBeltsSound_55 : decode cX6_areBeltsSound 55 = .ok (.iinc 1 1, 3) := by decide +kernel
theorem dX6_areBeltsSound_58 : decode cX6_areBeltsSound 58 = .ok (.goto (-26), 3) := by decide +kernel
theorem dX6_areBeltsSound_61 : decode cX6_areBeltsSound 61 = .ok (.iconst 1, 1) := by decide +kernel
theorem dX6_areBeltsSound_62 : decode cX6_areBeltsSound 62 = .ok (.ireturn, 1) := by decide +kernel
theorem dX6_beltFromBehind_0 : decode cX6_beltFromBehind 0 = .ok (.aload_n 0, 1) := by decide +kernel
theorem dX6_beltFromBehind_1 : decode cX6_beltFromBehind 1 = .ok (.invokevirtual 454, 3) := by decide +kernel
theorem dX6_beltFromBehind_4 : decode cX6_beltFromBehind 4 = .ok (.aload_n 0, 1) := by decide +kernel
theorem dX6_beltFromBehind_5 : decode cX6_beltFromBehind 5 = .ok (.getfield 65, 3) := by decide +kernel
theorem dX6_beltFromBehind_8 : decode cX6_beltFromBehind 8 = .ok (.iconst 1, 1) := by decide +kernel
theorem dX6_beltFromBehind_9 : decode cX6_beltFromBehind 9 = .ok (.isub, 1) := by decide +kernel
theorem dX6_beltFromBehind_10 : decode cX6_beltFromBehind 10 = .ok (.istore_n 2, 1) := by decide +kernel
theorem dX6_beltFromBehind_11 : decode cX6_beltFromBehind 11 = .ok (.iload_n 2, 1) := by decide +kernel
theorem dX6_beltFromBehind_12 : decode cX6_beltFromBehind 12 = .ok (.ifCond .lt 72, 3) := by decide +kernel
theorem dX6_beltFromBehind_15 : decode cX6_beltFromBehind 15 = .ok (.aload_n 0, 1) := by decide +kernel
theorem dX6_beltFromBehind_16 : decode cX6_beltFromBehind 16 = .ok (.getfield 37, 3) := by decide +kernel
theorem dX6_beltFromBehind_19 : decode cX6_beltFromBehind 19 = .ok (.iload_n 2, 1) := by decide +kernel
theorem dX6_beltFromBehind_20 : decode cX6_beltFromBehind 20 = .ok (.aaload, 1) := by decide +kernel
theorem dX6_beltFromBehind_21 : decode cX6_beltFromBehind 21 = .ok (.astore_n 3, 1) := by decide +kernel
theorem dX6_beltFromBehind_22 : decode cX6_beltFromBehind 22 = .ok (.aload_n 3, 1) := by decide +kernel
theorem dX6_beltFromBehind_23 : decode cX6_beltFromBehind 23 = .ok (.getfield 223, 3) := by decide +kernel
theorem dX6_beltFromBehind_26 : decode cX6_beltFromBehind 26 = .ok (.iload_n 1, 1) := by decide +kernel
theorem dX6_beltFromBehind_27 : decode cX6_beltFromBehind 27 = .ok (.if_icmp .ne 51, 3) := by decide +kernel
theorem dX6_beltFromBehind_30 : decode cX6_beltFromBehind 30 = .ok (.aload_n 3, 1) := by decide +kernel
theorem dX6_beltFromBehind_31 : decode cX6_beltFromBehind 31 = .ok (.invokevirtual 390, 3) := by decide +kernel
theorem dX6_beltFromBehind_34 : decode cX6_beltFromBehind 34 = .ok (.ifCond .eq 44, 3) := by decide +kernel
theorem dX6_beltFromBehind_37 : decode cX6_beltFromBehind 37 = .ok (.aload_n 0, 1) := by decide +kernel
theorem dX6_beltFromBehind_38 : decode cX6_beltFromBehind 38 = .ok (.getfield 45, 3) := by decide +kernel
theorem dX6_beltFromBehind_41 : decode cX6_beltFromBehind 41 = .ok (.aload_n 3, 1) := by decide +kernel
theorem dX6_beltFromBehind_42 : decode cX6_beltFromBehind 42 = .ok (.getfield 226, 3) := by decide +kernel
theorem dX6_beltFromBehind_45 : decode cX6_beltFromBehind 45 = .ok (.iaload, 1) := by decide +kernel
theorem dX6_beltFromBehind_46 : decode cX6_beltFromBehind 46 = .ok (.istore 4, 2) := by decide +kernel
theorem dX6_beltFromBehind_48 : decode cX6_beltFromBehind 48 = .ok (.iload 4, 2) := by decide +kernel
theorem dX6_beltFromBehind_50 : decode cX6_beltFromBehind 50 = .ok (.iconst (-1), 1) := by decide +kernel
theorem dX6_beltFromBehind_51 : decode cX6_beltFromBehind 51 = .ok (.if_icmp .eq 17, 3) := by decide +kernel
theorem dX6_beltFromBehind_54 : decode cX6_beltFromBehind 54 = .ok (.aload_n 0, 1) := by decide +kernel
theorem dX6_beltFromBehind_55 : decode cX6_beltFromBehind 55 = .ok (.getfield 37, 3) := by decide +kernel
theorem dX6_beltFromBehind_58 : decode cX6_beltFromBehind 58 = .ok (.iload 4, 2) := by decide +kernel
theorem dX6_beltFromBehind_60 : decode cX6_beltFromBehind 60 = .ok (.aaload, 1) := by decide +kernel
theorem dX6_beltFromBehind_61 : decode cX6_beltFromBehind 61 = .ok (.aload_n 3, 1) := by decide +kernel
theorem dX6_beltFromBehind_62 : decode cX6_beltFromBehind 62 = .ok (.invokevirtual 457, 3) := by decide +kernel
theorem dX6_beltFromBehind_65 : decode cX6_beltFromBehind 65 = .ok (.ifCond .ne 13, 3) := by decide +kernel
theorem dX6_beltFromBehind_68 : decode cX6_beltFromBehind 68 = .ok (.aload_n 0, 1) := by decide +kernel
theorem dX6_beltFromBehind_69 : decode cX6_beltFromBehind 69 = .ok (.getfield 45, 3) := by decide +kernel
theorem dX6_beltFromBehind_72 : decode cX6_beltFromBehind 72 = .ok (.aload_n 3, 1) := by decide +kernel
theorem dX6_beltFromBehind_73 : decode cX6_beltFromBehind 73 = .ok (.getfield 226, 3) := by decide +kernel
theorem dX6_beltFromBehind_76 : decode cX6_beltFromBehind 76 = .ok (.iload_n 2, 1) := by decide +kernel
theorem dX6_beltFromBehind_77 : decode cX6_beltFromBehind 77 = .ok (.iastore, 1) := by decide +kernel
theorem dX6_beltFromBehind_78 : decode cX6_beltFromBehind 78 = .ok (.iinc 2 (-1), 3) := by decide +kernel
theorem dX6_beltFromBehind_81 : decode cX6_beltFromBehind 81 = .ok (.goto (-70), 3) := by decide +kernel
theorem dX6_beltFromBehind_84 : decode cX6_beltFromBehind 84 = .ok (.aload_n 0, 1) := by decide +kernel
theorem dX6_beltFromBehind_85 : decode cX6_beltFromBehind 85 = .ok (.invokevirtual 451, 3) := by decide +kernel
theorem dX6_beltFromBehind_88 : decode cX6_beltFromBehind 88 = .ok (.ireturn, 1) := by decide +kernel
theorem dX6_areChallengesSound_0 : decode cX6_areChallengesSound 0 = .ok (.iconst 0, 1) := by decide +kernel
theorem dX6_areChallengesSound_1 : decode cX6_areChallengesSound 1 = .ok (.istore_n 1, 1) := by decide +kernel
theorem dX6_areChallengesSound_2 : decode cX6_areChallengesSound 2 = .ok (.iconst 0, 1) := by decide +kernel
theorem dX6_areChallengesSound_3 : decode cX6_areChallengesSound 3 = .ok (.istore_n 2, 1) := by decide +kernel
theorem dX6_areChallengesSound_4 : decode cX6_areChallengesSound 4 = .ok (.iload_n 2, 1) := by decide +kernel
theorem dX6_areChallengesSound_5 : decode cX6_areChallengesSound 5 = .ok (.aload_n 0, 1) := by decide +kernel
theorem dX6_areChallengesSound_6 : decode cX6_areChallengesSound 6 = .ok (.getfield 65, 3) := by decide +kernel
theorem dX6_areChallengesSound_9 : decode cX6_areChallengesSound 9 = .ok (.if_icmp .ge 26, 3) := by decide +kernel
theorem dX6_areChallengesSound_12 : decode cX6_areChallengesSound 12 = .ok (.aload_n 0, 1) := by decide +kernel
theorem dX6_areChallengesSound_13 : decode cX6_areChallengesSound 13 = .ok (.getfield 37, 3) := by decide +kernel
theorem dX6_areChallengesSound_16 : decode cX6_areChallengesSound 16 = .ok (.iload_n 2, 1) := by decide +kernel
theorem dX6_areChallengesSound_17 : decode cX6_areChallengesSound 17 = .ok (.aaload, 1) := by decide +kernel
theorem dX6_areChallengesSound_18 : decode cX6_areChallengesSound 18 = .ok (.getfield 238, 3) := by decide +kernel
theorem dX6_areChallengesSound_21 : decode cX6_areChallengesSound 21 = .ok (.bipush 99, 2) := by decide +kernel
theorem dX6_areChallengesSound_23 : decode cX6_areChallengesSound 23 = .ok (.if_icmp .ne 6, 3) := by decide +kernel
theorem dX6_areChallengesSound_26 : decode cX6_areChallengesSound 26 = .ok (.iinc 1 1, 3) := by decide +kernel
theorem dX6_areChallengesSound_29 : decode cX6_areChallengesSound 29 = .ok (.iinc 2 1, 3) := by decide +kernel
theorem dX6_areChallengesSound_32 : decode cX6_areChallengesSound 32 = .ok (.goto (-28), 3) := by decide +kernel
theorem dX6_areChallengesSound_35 : decode cX6_areChallengesSound 35 = .ok (.iconst 0, 1) := by decide +kernel
theorem dX6_areChallengesSound_36 : decode cX6_areChallengesSound 36 = .ok (.istore_n 2, 1) := by decide +kernel
theorem dX6_areChallengesSound_37 : decode cX6_areChallengesSound 37 = .ok (.iload_n 2, 1) := by decide +kernel
theorem dX6_areChallengesSound_38 : decode cX6_areChallengesSound 38 = .ok (.aload_n 0, 1) := by decide +kernel
theorem dX6_areChallengesSound_39 : decode cX6_areChallengesSound 39 = .ok (.getfield 68, 3) := by decide +kernel
theorem dX6_areChallengesSound_42 : decode cX6_areChallengesSound 42 = .ok (.if_icmp .ge 38, 3) := by decide +kernel
theorem dX6_areChallengesSound_45 : decode cX6_areChallengesSound 45 = .ok (.aload_n 0, 1) := by decide +kernel
theorem dX6_areChallengesSound_46 : decode cX6_areChallengesSound 46 = .ok (.getfield 37, 3) := by decide +kernel
theorem dX6_areChallengesSound_49 : decode cX6_areChallengesSound 49 = .ok (.aload_n 0, 1) := by decide +kernel
theorem dX6_areChallengesSound_50 : decode cX6_areChallengesSound 50 = .ok (.getfield 41, 3) := by decide +kernel
theorem dX6_areChallengesSound_53 : decode cX6_areChallengesSound 53 = .ok (.iload_n 2, 1) := by decide +kernel
theorem dX6_areChallengesSound_54 : decode cX6_areChallengesSound 54 = .ok (.iaload, 1) := by decide +kernel
theorem dX6_areChallengesSound_55 : decode cX6_areChallengesSound 55 = .ok (.aaload, 1) := by decide +kernel
theorem dX6_areChallengesSound_56 : decode cX6_areChallengesSound 56 = .ok (.getfield 238, 3) := by decide +kernel
theorem dX6_areChallengesSound_59 : decode cX6_areChallengesSound 59 = .ok (.bipush 99, 2) := by decide +kernel
theorem dX6_areChallengesSound_61 : decode cX6_areChallengesSound 61 = .ok (.if_icmp .ne 11, 3) := by decide +kernel
theorem dX6_areChallengesSound_64 : decode cX6_areChallengesSound 64 = .ok (.aload_n 0, 1) := by decide +kernel
theorem dX6_areChallengesSound_65 : decode cX6_areChallengesSound 65 = .ok (.iload_n 2, 1) := by decide +kernel
theorem dX6_areChallengesSound_66 : decode cX6_areChallengesSound 66 = .ok (.invokevirtual 475, 3) := by decide +kernel
theorem dX6_areChallengesSound_69 : decode cX6_areChallengesSound 69 = .ok (.ifCond .eq 5, 3) := by decide +kernel
theorem dX6_areChallengesSound_72 : decode cX6_areChallengesSound 72 = .ok (.iconst 0, 1) := by decide +kernel
theorem dX6_areChallengesSound_73 : decode cX6_areChallengesSound 73 = .ok (.ireturn, 1) := by decide +kernel
theorem dX6_areChallengesSound_74 : decode cX6_areChallengesSound 74 = .ok (.iinc 2 1, 3) := by decide +kernel
theorem dX6_areChallengesSound_77 : decode cX6_areChallengesSound 77 = .ok (.goto (-40), 3) := by decide +kernel
theorem dX6_areChallengesSound_80 : decode cX6_areChallengesSound 80 = .ok (.iload_n 1, 1) := by decide +kernel
theorem dX6_areChallengesSound_81 : decode cX6_areChallengesSound 81 = .ok (.aload_n 0, 1) := by decide +kernel
theorem dX6_areChallengesSound_82 : decode cX6_areChallengesSound 82 = .ok (.getfield 68, 3) := by decide +kernel
theorem dX6_areChallengesSound_85 : decode cX6_areChallengesSound 85 = .ok (.if_icmp .ne 7, 3) := by decide +kernel
theorem dX6_areChallengesSound_88 : decode cX6_areChallengesSound 88 = .ok (.iconst 1, 1) := by decide +kernel
theorem dX6_areChallengesSound_89 : decode cX6_areChallengesSound 89 = .ok (.goto 4, 3) := by decide +kernel
theorem dX6_areChallengesSound_92 : decode cX6_areChallengesSound 92 = .ok (.iconst 0, 1) := by decide +kernel
theorem dX6_areChallengesSound_93 : decode cX6_areChallengesSound 93 = .ok (.ireturn, 1) := by decide +kernel
theorem dX6_isOpenTwice_0 : decode cX6_isOpenTwice 0 = .ok (.iconst 0, 1) := by decide +kernel
theorem dX6_isOpenTwice_1 : decode cX6_isOpenTwice 1 = .ok (.istore_n 2, 1) := by decide +kernel
theorem dX6_isOpenTwice_2 : decode cX6_isOpenTwice 2 = .ok (.iload_n 2, 1) := by decide +kernel
theorem dX6_isOpenTwice_3 : decode cX6_isOpenTwice 3 = .ok (.iload_n 1, 1) := by decide +kernel
theorem dX6_isOpenTwice_4 : decode cX6_isOpenTwice 4 = .ok (.if_icmp .ge 26, 3) := by decide +kernel
theorem dX6_isOpenTwice_7 : decode cX6_isOpenTwice 7 = .ok (.aload_n 0, 1) := by decide +kernel
theorem dX6_isOpenTwice_8 : decode cX6_isOpenTwice 8 = .ok (.getfield 41, 3) := by decide +kernel
theorem dX6_isOpenTwice_11 : decode cX6_isOpenTwice 11 = .ok (.iload_n 2, 1) := by decide +kernel
theorem dX6_isOpenTwice_12 : decode cX6_isOpenTwice 12 = .ok (.iaload, 1) := by decide +kernel
theorem dX6_isOpenTwice_13 : decode cX6_isOpenTwice 13 = .ok (.aload_n 0, 1) := by decide +kernel
theorem dX6_isOpenTwice_14 : decode cX6_isOpenTwice 14 = .ok (.getfield 41, 3) := by decide +kernel
theorem dX6_isOpenTwice_17 : decode cX6_isOpenTwice 17 = .ok (.iload_n 1, 1) := by decide +kernel
theorem dX6_isOpenTwice_18 : decode cX6_isOpenTwice 18 = .ok (.iaload, 1) := by decide +kernel
theorem dX6_isOpenTwice_19 : decode cX6_isOpenTwice 19 = .ok (.if_icmp .ne 5, 3) := by decide +kernel
theorem dX6_isOpenTwice_22 : decode cX6_isOpenTwice 22 = .ok (.iconst 1, 1) := by decide +kernel
theorem dX6_isOpenTwice_23 : decode cX6_isOpenTwice 23 = .ok (.ireturn, 1) := by decide +kernel
theorem dX6_isOpenTwice_24 : decode cX6_isOpenTwice 24 = .ok (.iinc 2 1, 3) := by decide +kernel
theorem dX6_isOpenTwice_27 : decode cX6_isOpenTwice 27 = .ok (.goto (-25), 3) := by decide +kernel
theorem dX6_isOpenTwice_30 : decode cX6_isOpenTwice 30 = .ok (.iconst 0, 1) := by decide +kernel
theorem dX6_isOpenTwice_31 : decode cX6_isOpenTwice 31 = .ok (.ireturn, 1) := by decide +kernel
theorem dX7_init_0 : decode cX7_init 0 = .ok (.aload_n 0, 1) := by decide +kernel
theorem dX7_init_1 : decode cX7_init 1 = .ok (.invokespecial 1, 3) := by decide +kernel
theorem dX7_init_4 : decode cX7_init 4 = .ok (.aload_n 0, 1) := by decide +kernel
theorem dX7_init_5 : decode cX7_init 5 = .ok (.iconst 0, 1) := by decide +kernel
theorem dX7_init_6 : decode cX7_init 6 = .ok (.putfield 7, 3) := by decide +kernel
theorem dX7_init_9 : decode cX7_init 9 = .ok (.aload_n 0, 1) := by decide +kernel
theorem dX7_init_10 : decode cX7_init 10 = .ok (.iconst 0, 1) := by decide +kernel
theorem dX7_init_11 : decode cX7_init 11 = .ok (.putfield 13, 3) := by decide +kernel
theorem dX7_init_14 : decode cX7_init 14 = .ok (.aload_n 0, 1) := by decide +kernel
theorem dX7_init_15 : decode cX7_init 15 = .ok (.iconst 0, 1) := by decide +kernel
theorem dX7_init_16 : decode cX7_init 16 = .ok (.putfield 16, 3) := by decide +kernel
theorem dX7_init_19 : decode cX7_init 19 = .ok (.aload_n 0, 1) := by decide +kernel
theorem dX7_init_20 : decode cX7_init 20 = .ok (.iconst 0, 1) := by decide +kernel
theorem dX7_init_21 : decode cX7_init 21 = .ok (.putfield 19, 3) := by decide +kernel
theorem dX7_init_24 : decode cX7_init 24 = .ok (.aload_n 0, 1) := by decide +kernel
theorem dX7_init_25 : decode cX7_init 25 = .ok (.iconst 0, 1) := by decide +kernel
theorem dX7_init_26 : decode cX7_init 26 = .ok (.putfield 22, 3) := by decide +kernel
theorem dX7_init_29 : decode cX7_init 29 = .ok (.aload_n 0, 1) := by decide +kernel
theorem dX7_init_30 : decode cX7_init 30 = .ok (.iconst 0, 1) := by decide +kernel
theorem dX7_init_31 : decode cX7_init 31 = .ok (.putfield 25, 3) := by decide +kernel
theorem dX7_init_34 : decode cX7_init 34 = .ok (.aload_n 0, 1) := by decide +kernel
theorem dX7_init_35 : decode cX7_init 35 = .ok (.bipush 12, 2) := by decide +kernel
theorem dX7_init_37 : decode cX7_init 37 = .ok (.putfield 28, 3) := by decide +kernel
theorem dX7_init_40 : decode cX7_init 40 = .ok (.aload_n 0, 1) := by decide +kernel
theorem dX7_init_41 : decode cX7_init 41 = .ok (.iconst 0, 1) := by decide +kernel
theorem dX7_init_42 : decode cX7_init 42 = .ok (.putfield 31, 3) := by decide +kernel
theorem dX7_init_45 : decode cX7_init 45 = .ok (.aload_n 0, 1) := by decide +kernel
theorem dX7_init_46 : decode cX7_init 46 = .ok (.iconst 0, 1) := by decide +kernel
theorem dX7_init_47 : decode cX7_init 47 = .ok (.putfield 34, 3) := by decide +kernel
theorem dX7_init_50 : decode cX7_init 50 = .ok (.aload_n 0, 1) := by decide +kernel
theorem dX7_init_51 : decode cX7_init 51 = .ok (.iconst 0, 1) := by decide +kernel
theorem dX7_init_52 : decode cX7_init 52 = .ok (.putfield 37, 3) := by decide +kernel
theorem dX7_init_55 : decode cX7_init 55 = .ok (.aload_n 0, 1) := by decide +kernel
theorem dX7_init_56 : decode cX7_init 56 = .ok (.sipush 984, 3) := by decide +kernel
theorem dX7_init_59 : decode cX7_init 59 = .ok (.newarray .char, 2) := by decide +kernel
theorem dX7_init_61 : decode cX7_init 61 = .ok (.putfield 40, 3) := by decide +kernel
theorem dX7_init_64 : decode cX7_init 64 = .ok (.aload_n 0, 1) := by decide +kernel
theorem dX7_init_65 : decode cX7_init 65 = .ok (.sipush 984, 3) := by decide +kernel
theorem dX7_init_68 : decode cX7_init 68 = .ok (.newarray .int, 2) := by decide +kernel
theorem dX7_init_70 : decode cX7_init 70 = .ok (.putfield 44, 3) := by decide +kernel
theorem dX7_init_73 : decode cX7_init 73 = .ok (.aload_n 0, 1) := by decide +kernel
theorem dX7_init_74 : decode cX7_init 74 = .ok (.bipush 41, 2) := by decide +kernel
theorem dX7_init_76 : decode cX7_init 76 = .ok (.newarray .int, 2) := by decide +kernel
theorem dX7_init_78 : decode cX7_init 78 = .ok (.putfield 48, 3) := by decide +kernel
theorem dX7_init_81 : decode cX7_init 81 = .ok (.aload_n 0, 1) := by decide +kernel
theorem dX7_init_82 : decode cX7_init 82 = .ok (.iconst 4, 1) := by decide +kernel
theorem dX7_init_83 : decode cX7_init 83 = .ok (.newarray .int, 2) := by decide +kernel
theorem dX7_init_85 : decode cX7_init 85 = .ok (.putfield 51, 3) := by decide +kernel
theorem dX7_init_88 : decode cX7_init 88 = .ok (.aload_n 0, 1) := by decide +kernel
theorem dX7_init_89 : decode cX7_init 89 = .ok (.bipush 6, 2) := by decide +kernel
theorem dX7_init_91 : decode cX7_init 91 = .ok (.newarray .int, 2) := by decide +kernel
theorem dX7_init_93 : decode cX7_init 93 = .ok (.putfield 54, 3) := by decide +kernel
theorem dX7_init_96 : decode cX7_init 96 = .ok (.aload_n 0, 1) := by decide +kernel
theorem dX7_init_97 : decode cX7_init 97 = .ok (.bipush 8, 2) := by decide +kernel
theorem dX7_init_99 : decode cX7_init 99 = .ok (.newarray .int, 2) := by decide +kernel
theorem dX7_init_101 : decode cX7_init 101 = .ok (.putfield 57, 3) := by decide +kernel
theorem dX7_init_104 : decode cX7_init 104 = .ok (.aload_n 0, 1) := by decide +kernel
theorem dX7_init_105 : decode cX7_init 105 = .ok (.bipush 8, 2) := by decide +kernel
theorem dX7_init_107 : decode cX7_init 107 = .ok (.newarray .int, 2) := by decide +kernel
theorem dX7_init_109 : decode cX7_init 109 = .ok (.putfield 60, 3) := by decide +kernel
theorem dX7_init_112 : decode cX7_init 112 = .ok (.aload_n 0, 1) := by decide +kernel
theorem dX7_init_113 : decode cX7_init 113 = .ok (.bipush 40, 2) := by decide +kernel
theorem dX7_init_115 : decode cX7_init 115 = .ok (.newarray .int, 2) := by decide +kernel
theorem dX7_init_117 : decode cX7_init 117 = .ok (.putfield 63, 3) := by decide +kernel
theorem dX7_init_120 : decode cX7_init 120 = .ok (.aload_n 0, 1) := by decide +kernel
theorem dX7_init_121 : decode cX7_init 121 = .ok (.bipush 40, 2) := by decide +kernel
theorem dX7_init_123 : decode cX7_init 123 = .ok (.newarray .int, 2) := by decide +kernel
theorem dX7_init_125 : decode cX7_init 125 = .ok (.putfield 66, 3) := by decide +kernel
theorem dX7_init_128 : decode cX7_init 128 = .ok (.aload_n 0, 1) := by decide +kernel
theorem dX7_init_129 : decode cX7_init 129 = .ok (.sipush 160, 3) := by decide +kernel
theorem dX7_init_132 : decode cX7_init 132 = .ok (.newarray .int, 2) := by decide +kernel
theorem dX7_init_134 : decode cX7_init 134 = .ok (.putfield 69, 3) := by decide +kernel
theorem dX7_init_137 : decode cX7_init 137 = .ok (.aload_n 0, 1) := by decide +kernel
theorem dX7_init_138 : decode cX7_init 138 = .ok (.sipush 240, 3) := by decide +kernel
theorem dX7_init_141 : decode cX7_init 141 = .ok (.newarray .int, 2) := by decide +kernel
theorem dX7_init_143 : decode cX7_init 143 = .ok (.putfield 72, 3) := by decide +kernel
theorem dX7_init_146 : decode cX7_init 146 = .ok (.aload_n 0, 1) := by decide +kernel
theorem dX7_init_147 : decode cX7_init 147 = .ok (.bipush 40, 2) := by decide +kernel
theorem dX7_init_149 : decode cX7_init 149 = .ok (.newarray .int, 2) := by decide +kernel
theorem dX7_init_151 : decode cX7_init 151 = .ok (.putfield 75, 3) := by decide +kernel
theorem dX7_init_154 : decode cX7_init 154 = .ok (.aload_n 0, 1) := by decide +kernel
theorem dX7_init_155 : decode cX7_init 155 = .ok (.bipush 40, 2) := by decide +kernel
theorem dX7_init_157 : decode cX7_init 157 = .ok (.newarray .int, 2) := by decide +kernel
theorem dX7_init_159 : decode cX7_init 159 = .ok (.putfield 78, 3) := by decide +kernel
theorem dX7_init_162 : decode cX7_init 162 = .ok (.aload_n 0, 1) := by decide +kernel
theorem dX7_init_163 : decode cX7_init 163 = .ok (.bipush 40, 2) := by decide +kernel
theorem dX7_init_165 : decode cX7_init 165 = .ok (.newarray .int, 2) := by decide +kernel
theorem dX7_init_167 : decode cX7_init 167 = .ok (.putfield 81, 3) := by decide +kernel
theorem dX7_init_170 : decode cX7_init 170 = .ok (.aload_n 0, 1) := by decide +kernel
theorem dX7_init_171 : decode cX7_init 171 = .ok (.bipush 40, 2) := by decide +kernel
theorem dX7_init_173 : decode cX7_init 173 = .ok (.newarray .long, 2) := by decide +kernel
theorem dX7_init_175 : decode cX7_init 175 = .ok (.putfield 84, 3) := by decide +kernel
theorem dX7_init_178 : decode cX7_init 178 = .ok (.aload_n 0, 1) := by decide +kernel
theorem dX7_init_179 : decode cX7_init 179 = .ok (.bipush 40, 2) := by decide +kernel
theorem dX7_init_181 : decode cX7_init 181 = .ok (.newarray .char, 2) := by decide +kernel
theorem dX7_init_183 : decode cX7_init 183 = .ok (.putfield 88, 3) := by decide +kernel
theorem dX7_init_186 : decode cX7_init 186 = .ok (.aload_n 0, 1) := by decide +kernel
theorem dX7_init_187 : decode cX7_init 187 = .ok (.bipush 40, 2) := by decide +kernel
theorem dX7_init_189 : decode cX7_init 189 = .ok (.newarray .boolean, 2) := by decide +kernel
theorem dX7_init_191 : decode cX7_init 191 = .ok (.putfield 91, 3) := by decide +kernel
theorem dX7_init_194 : decode cX7_init 194 = .ok (.aload_n 0, 1) := by decide +kernel
theorem dX7_init_195 : decode cX7_init 195 = .ok (.sipush 200, 3) := by decide +kernel
theorem dX7_init_198 : decode cX7_init 198 = .ok (.newarray .int, 2) := by decide +kernel
theorem dX7_init_200 : decode cX7_init 200 = .ok (.putfield 95, 3) := by decide +kernel
theorem dX7_init_203 : decode cX7_init 203 = .ok (.aload_n 0, 1) := by decide +kernel
theorem dX7_init_204 : decode cX7_init 204 = .ok (.sipush 200, 3) := by decide +kernel
theorem dX7_init_207 : decode cX7_init 207 = .ok (.newarray .int, 2) := by decide +kernel
theorem dX7_init_209 : decode cX7_init 209 = .ok (.putfield 98, 3) := by decide +kernel
theorem dX7_init_212 : decode cX7_init 212 = .ok (.aload_n 0, 1) := by decide +kernel
theorem dX7_init_213 : decode cX7_init 213 = .ok (.sipush 400, 3) := by decide +kernel
theorem dX7_init_216 : decode cX7_init 216 = .ok (.newarray .int, 2) := by decide +kernel
theorem dX7_init_218 : decode cX7_init 218 = .ok (.putfield 101, 3) := by decide +kernel
theorem dX7_init_221 : decode cX7_init 221 = .ok (.aload_n 0, 1) := by decide +kernel
theorem dX7_init_222 : decode cX7_init 222 = .ok (.sipush 400, 3) := by decide +kernel
theorem dX7_init_225 : decode cX7_init 225 = .ok (.newarray .int, 2) := by decide +kernel
theorem dX7_init_227 : decode cX7_init 227 = .ok (.putfield 104, 3) := by decide +kernel
theorem dX7_init_230 : decode cX7_init 230 = .ok (.aload_n 0, 1) := by decide +kernel
theorem dX7_init_231 : decode cX7_init 231 = .ok (.bipush 40, 2) := by decide +kernel
theorem dX7_init_233 : decode cX7_init 233 = .ok (.newarray .int, 2) := by decide +kernel
theorem dX7_init_235 : decode cX7_init 235 = .ok (.putfield 107, 3) := by decide +kernel
theorem dX7_init_238 : decode cX7_init 238 = .ok (.aload_n 0, 1) := by decide +kernel
theorem dX7_init_239 : decode cX7_init 239 = .ok (.bipush 40, 2) := by decide +kernel
theorem dX7_init_241 : decode cX7_init 241 = .ok (.newarray .int, 2) := by decide +kernel
theorem dX7_init_243 : decode cX7_init 243 = .ok (.putfield 110, 3) := by decide +kernel
theorem dX7_init_246 : decode cX7_init 246 = .ok (.aload_n 0, 1) := by decide +kernel
theorem dX7_init_247 : decode cX7_init 247 = .ok (.bipush 40, 2) := by decide +kernel
theorem dX7_init_249 : decode cX7_init 249 = .ok (.newarray .int, 2) := by decide +kernel
theorem dX7_init_251 : decode cX7_init 251 = .ok (.putfield 113, 3) := by decide +kernel
theorem dX7_init_254 : decode cX7_init 254 = .ok (.aload_n 0, 1) := by decide +kernel
theorem dX7_init_255 : decode cX7_init 255 = .ok (.bipush 10, 2) := by decide +kernel
theorem dX7_init_257 : decode cX7_init 257 = .ok (.newarray .int, 2) := by decide +kernel
theorem dX7_init_259 : decode cX7_init 259 = .ok (.putfield 116, 3) := by decide +kernel
theorem dX7_init_262 : decode cX7_init 262 = .ok (.aload_n 0, 1) := by decide +kernel
theorem dX7_init_263 : decode cX7_init 263 = .ok (.bipush 30, 2) := by decide +kernel
theorem dX7_init_265 : decode cX7_init 265 = .ok (.newarray .int, 2) := by decide +kernel
theorem dX7_init_267 : decode cX7_init 267 = .ok (.putfield 119, 3) := by decide +kernel
theorem dX7_init_270 : decode cX7_init 270 = .ok (.aload_n 0, 1) := by decide +kernel
theorem dX7_init_271 : decode cX7_init 271 = .ok (.bipush 12, 2) := by decide +kernel
theorem dX7_init_273 : decode cX7_init 273 = .ok (.newarray .int, 2) := by decide +kernel
theorem dX7_init_275 : decode cX7_init 275 = .ok (.putfield 122, 3) := by decide +kernel
theorem dX7_init_278 : decode cX7_init 278 = .ok (.aload_n 0, 1) := by decide +kernel
theorem dX7_init_279 : decode cX7_init 279 = .ok (.bipush 6, 2) := by decide +kernel
theorem dX7_init_281 : decode cX7_init 281 = .ok (.newarray .int, 2) := by decide +kernel
theorem dX7_init_283 : decode cX7_init 283 = .ok (.putfield 125, 3) := by decide +kernel
theorem dX7_init_286 : decode cX7_init 286 = .ok (.aload_n 0, 1) := by decide +kernel
theorem dX7_init_287 : decode cX7_init 287 = .ok (.iconst 0, 1) := by decide +kernel
theorem dX7_init_288 : decode cX7_init 288 = .ok (.putfield 128, 3) := by decide +kernel
theorem dX7_init_291 : decode cX7_init 291 = .ok (.aload_n 0, 1) := by decide +kernel
theorem dX7_init_292 : decode cX7_init 292 = .ok (.iconst 0, 1) := by decide +kernel
theorem dX7_init_293 : decode cX7_init 293 = .ok (.putfield 131, 3) := by decide +kernel
theorem dX7_init_296 : decode cX7_init 296 = .ok (.aload_n 0, 1) := by decide +kernel
theorem dX7_init_297 : decode cX7_init 297 = .ok (.iconst 0, 1) := by decide +kernel
theorem dX7_init_298 : decode cX7_init 298 = .ok (.putfield 134, 3) := by decide +kernel
theorem dX7_init_301 : decode cX7_init 301 = .ok (.aload_n 0, 1) := by decide +kernel
theorem dX7_init_302 : decode cX7_init 302 = .ok (.iconst 0, 1) := by decide +kernel
theorem dX7_init_303 : decode cX7_init 303 = .ok (.putfield 137, 3) := by decide +kernel
theorem dX7_init_306 : decode cX7_init 306 = .ok (.aload_n 0, 1) := by decide +kernel
theorem dX7_init_307 : decode cX7_init 307 = .ok (.iconst 0, 1) := by decide +kernel
theorem dX7_init_308 : decode cX7_init 308 = .ok (.putfield 141, 3) := by decide +kernel
theorem dX7_init_311 : decode cX7_init 311 = .ok (.aload_n 0, 1) := by decide +kernel
theorem dX7_init_312 : decode cX7_init 312 = .ok (.iconst 0, 1) := by decide +kernel
theorem dX7_init_313 : decode cX7_init 313 = .ok (.putfield 144, 3) := by decide +kernel
theorem dX7_init_316 : decode cX7_init 316 = .ok (.aload_n 0, 1) := by decide +kernel
theorem dX7_init_317 : decode cX7_init 317 = .ok (.iconst 0, 1) := by decide +kernel
theorem dX7_init_318 : decode cX7_init 318 = .ok (.putfield 147, 3) := by decide +kernel
theorem dX7_init_321 : decode cX7_init 321 = .ok (.aload_n 0, 1) := by decide +kernel
theorem dX7_init_322 : decode cX7_init 322 = .ok (.bipush 6, 2) := by decide +kernel
theorem dX7_init_324 : decode cX7_init 324 = .ok (.newarray .int, 2) := by decide +kernel
theorem dX7_init_326 : decode cX7_init 326 = .ok (.putfield 150, 3) := by decide +kernel
theorem dX7_init_329 : decode cX7_init 329 = .ok (.return_, 1) := by decide +kernel
theorem dX7_thrown_0 : decode cX7_thrown 0 = .ok (.aload_n 0, 1) := by decide +kernel
theorem dX7_thrown_1 : decode cX7_thrown 1 = .ok (.getfield 37, 3) := by decide +kernel
theorem dX7_thrown_4 : decode cX7_thrown 4 = .ok (.ireturn, 1) := by decide +kernel
theorem dX7_in_0 : decode cX7_in 0 = .ok (.iload_n 0, 1) := by decide +kernel
theorem dX7_in_1 : decode cX7_in 1 = .ok (.iload_n 1, 1) := by decide +kernel
theorem dX7_in_2 : decode cX7_in 2 = .ok (.if_icmp .lt 12, 3) := by decide +kernel
theorem dX7_in_5 : decode cX7_in 5 = .ok (.iload_n 0, 1) := by decide +kernel
theorem dX7_in_6 : decode cX7_in 6 = .ok (.iload_n 2, 1) := by decide +kernel
theorem dX7_in_7 : decode cX7_in 7 = .ok (.if_icmp .gt 7, 3) := by decide +kernel
theorem dX7_in_10 : decode cX7_in 10 = .ok (.iconst 1, 1) := by decide +kernel
theorem dX7_in_11 : decode cX7_in 11 = .ok (.goto 4, 3) := by decide +kernel
theorem dX7_in_14 : decode cX7_in 14 = .ok (.iconst 0, 1) := by decide +kernel
theorem dX7_in_15 : decode cX7_in 15 = .ok (.ireturn, 1) := by decide +kernel
theorem dX7_fails_0 : decode cX7_fails 0 = .ok (.aload_n 0, 1) := by decide +kernel
theorem dX7_fails_1 : decode cX7_fails 1 = .ok (.iload_n 1, 1) := by decide +kernel
theorem dX7_fails_2 : decode cX7_fails 2 = .ok (.putfield 37, 3) := by decide +kernel
theorem dX7_fails_5 : decode cX7_fails 5 = .ok (.iconst 0, 1) := by decide +kernel
theorem dX7_fails_6 : decode cX7_fails 6 = .ok (.ireturn, 1) := by decide +kernel
theorem dX7_tells_0 : decode cX7_tells 0 = .ok (.aload_n 0, 1) := by decide +kernel
theorem dX7_tells_1 : decode cX7_tells 1 = .ok (.iconst 0, 1) := by decide +kernel
theorem dX7_tells_2 : decode cX7_tells 2 = .ok (.putfield 37, 3) := by decide +kernel
theorem dX7_tells_5 : decode cX7_tells 5 = .ok (.iload_n 1, 1) := by decide +kernel
theorem dX7_tells_6 : decode cX7_tells 6 = .ok (.ireturn, 1) := by decide +kernel
theorem dX7_isOneOf_0 : decode cX7_isOneOf 0 = .ok (.iload_n 0, 1) := by decide +kernel
theorem dX7_isOneOf_1 : decode cX7_isOneOf 1 = .ok (.iload_n 1, 1) := by decide +kernel
theorem dX7_isOneOf_2 : decode cX7_isOneOf 2 = .ok (.if_icmp .eq 19, 3) := by decide +kernel
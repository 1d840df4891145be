theorem dX6_takeWorks_30 : decode cX6_takeWorks 30 = .ok (.invokevirtual 390, 3) := by decide +kernel
theorem dX6_takeWorks_33 : decode cX6_takeWorks 33 = .ok (.ifCond .eq 44, 3) := by decide +kernel
theorem dX6_takeWorks_36 : decode cX6_takeWorks 36 = .ok (.aload_n 0, 1) := by decide +kernel
theorem dX6_takeWorks_37 : decode cX6_takeWorks 37 = .ok (.getfield 45, 3) := by decide +kernel
theorem dX6_takeWorks_40 : decode cX6_takeWorks 40 = .ok (.aload_n 3, 1) := by decide +kernel
theorem dX6_takeWorks_41 : decode cX6_takeWorks 41 = .ok (.getfield 226, 3) := by decide +kernel
theorem dX6_takeWorks_44 : decode cX6_takeWorks 44 = .ok (.iaload, 1) := by decide +kernel
theorem dX6_takeWorks_45 : decode cX6_takeWorks 45 = .ok (.istore 4, 2) := by decide +kernel
theorem dX6_takeWorks_47 : decode cX6_takeWorks 47 = .ok (.iload 4, 2) := by decide +kernel
theorem dX6_takeWorks_49 : decode cX6_takeWorks 49 = .ok (.iconst (-1), 1) := by decide +kernel
theorem dX6_takeWorks_50 : decode cX6_takeWorks 50 = .ok (.if_icmp .eq 17, 3) := by decide +kernel
theorem dX6_takeWorks_53 : decode cX6_takeWorks 53 = .ok (.aload_n 3, 1) := by decide +kernel
theorem dX6_takeWorks_54 : decode cX6_takeWorks 54 = .ok (.aload_n 0, 1) := by decide +kernel
theorem dX6_takeWorks_55 : decode cX6_takeWorks 55 = .ok (.getfield 37, 3) := by decide +kernel
theorem dX6_takeWorks_58 : decode cX6_takeWorks 58 = .ok (.iload 4, 2) := by decide +kernel
theorem dX6_takeWorks_60 : decode cX6_takeWorks 60 = .ok (.aaload, 1) := by decide +kernel
theorem dX6_takeWorks_61 : decode cX6_takeWorks 61 = .ok (.invokevirtual 457, 3) := by decide +kernel
theorem dX6_takeWorks_64 : decode cX6_takeWorks 64 = .ok (.ifCond .eq 13, 3) := by decide +kernel
theorem dX6_takeWorks_67 : decode cX6_takeWorks 67 = .ok (.aload_n 0, 1) := by decide +kernel
theorem dX6_takeWorks_68 : decode cX6_takeWorks 68 = .ok (.getfield 45, 3) := by decide +kernel
theorem dX6_takeWorks_71 : decode cX6_takeWorks 71 = .ok (.aload_n 3, 1) := by decide +kernel
theorem dX6_takeWorks_72 : decode cX6_takeWorks 72 = .ok (.getfield 226, 3) := by decide +kernel
theorem dX6_takeWorks_75 : decode cX6_takeWorks 75 = .ok (.iload_n 2, 1) := by decide +kernel
theorem dX6_takeWorks_76 : decode cX6_takeWorks 76 = .ok (.iastore, 1) := by decide +kernel
theorem dX6_takeWorks_77 : decode cX6_takeWorks 77 = .ok (.iinc 2 1, 3) := by decide +kernel
theorem dX6_takeWorks_80 : decode cX6_takeWorks 80 = .ok (.goto (-74), 3) := by decide +kernel
theorem dX6_takeWorks_83 : decode cX6_takeWorks 83 = .ok (.return_, 1) := by decide +kernel
theorem dX6_takeNone_0 : decode cX6_takeNone 0 = .ok (.iconst 0, 1) := by decide +kernel
theorem dX6_takeNone_1 : decode cX6_takeNone 1 = .ok (.istore_n 1, 1) := by decide +kernel
theorem dX6_takeNone_2 : decode cX6_takeNone 2 = .ok (.iload_n 1, 1) := by decide +kernel
theorem dX6_takeNone_3 : decode cX6_takeNone 3 = .ok (.bipush 8, 2) := by decide +kernel
theorem dX6_takeNone_5 : decode cX6_takeNone 5 = .ok (.if_icmp .ge 16, 3) := by decide +kernel
theorem dX6_takeNone_8 : decode cX6_takeNone 8 = .ok (.aload_n 0, 1) := by decide +kernel
theorem dX6_takeNone_9 : decode cX6_takeNone 9 = .ok (.getfield 45, 3) := by decide +kernel
theorem dX6_takeNone_12 : decode cX6_takeNone 12 = .ok (.iload_n 1, 1) := by decide +kernel
theorem dX6_takeNone_13 : decode cX6_takeNone 13 = .ok (.iconst (-1), 1) := by decide +kernel
theorem dX6_takeNone_14 : decode cX6_takeNone 14 = .ok (.iastore, 1) := by decide +kernel
theorem dX6_takeNone_15 : decode cX6_takeNone 15 = .ok (.iinc 1 1, 3) := by decide +kernel
theorem dX6_takeNone_18 : decode cX6_takeNone 18 = .ok (.goto (-16), 3) := by decide +kernel
theorem dX6_takeNone_21 : decode cX6_takeNone 21 = .ok (.return_, 1) := by decide +kernel
theorem dX6_takenPoints_0 : decode cX6_takenPoints 0 = .ok (.fconst 0, 1) := by decide +kernel
theorem dX6_takenPoints_1 : decode cX6_takenPoints 1 = .ok (.fstore_n 1, 1) := by decide +kernel
theorem dX6_takenPoints_2 : decode cX6_takenPoints 2 = .ok (.iconst 0, 1) := by decide +kernel
theorem dX6_takenPoints_3 : decode cX6_takenPoints 3 = .ok (.istore_n 2, 1) := by decide +kernel
theorem dX6_takenPoints_4 : decode cX6_takenPoints 4 = .ok (.iload_n 2, 1) := by decide +kernel
theorem dX6_takenPoints_5 : decode cX6_takenPoints 5 = .ok (.aload_n 0, 1) := by decide +kernel
theorem dX6_takenPoints_6 : decode cX6_takenPoints 6 = .ok (.getfield 58, 3) := by decide +kernel
theorem dX6_takenPoints_9 : decode cX6_takenPoints 9 = .ok (.if_icmp .ge 72, 3) := by decide +kernel
theorem dX6_takenPoints_12 : decode cX6_takenPoints 12 = .ok (.aload_n 0, 1) := by decide +kernel
theorem dX6_takenPoints_13 : decode cX6_takenPoints 13 = .ok (.getfield 45, 3) := by decide +kernel
theorem dX6_takenPoints_16 : decode cX6_takenPoints 16 = .ok (.iload_n 2, 1) := by decide +kernel
theorem dX6_takenPoints_17 : decode cX6_takenPoints 17 = .ok (.iaload, 1) := by decide +kernel
theorem dX6_takenPoints_18 : decode cX6_takenPoints 18 = .ok (.istore_n 3, 1) := by decide +kernel
theorem dX6_takenPoints_19 : decode cX6_takenPoints 19 = .ok (.iload_n 3, 1) := by decide +kernel
theorem dX6_takenPoints_20 : decode cX6_takenPoints 20 = .ok (.iconst (-1), 1) := by decide +kernel
theorem dX6_takenPoints_21 : decode cX6_takenPoints 21 = .ok (.if_icmp .eq 54, 3) := by decide +kernel
theorem dX6_takenPoints_24 : decode cX6_takenPoints 24 = .ok (.aload_n 0, 1) := by decide +kernel
theorem dX6_takenPoints_25 : decode cX6_takenPoints 25 = .ok (.getfield 25, 3) := by decide +kernel
theorem dX6_takenPoints_28 : decode cX6_takenPoints 28 = .ok (.iload_n 2, 1) := by decide +kernel
theorem dX6_takenPoints_29 : decode cX6_takenPoints 29 = .ok (.aaload, 1) := by decide +kernel
theorem dX6_takenPoints_30 : decode cX6_takenPoints 30 = .ok (.getfield 139, 3) := by decide +kernel
theorem dX6_takenPoints_33 : decode cX6_takenPoints 33 = .ok (.aload_n 0, 1) := by decide +kernel
theorem dX6_takenPoints_34 : decode cX6_takenPoints 34 = .ok (.getfield 37, 3) := by decide +kernel
theorem dX6_takenPoints_37 : decode cX6_takenPoints 37 = .ok (.iload_n 3, 1) := by decide +kernel
theorem dX6_takenPoints_38 : decode cX6_takenPoints 38 = .ok (.aaload, 1) := by decide +kernel
theorem dX6_takenPoints_39 : decode cX6_takenPoints 39 = .ok (.invokevirtual 302, 3) := by decide +kernel
theorem dX6_takenPoints_42 : decode cX6_takenPoints 42 = .ok (.imul, 1) := by decide +kernel
theorem dX6_takenPoints_43 : decode cX6_takenPoints 43 = .ok (.istore 4, 2) := by decide +kernel
theorem dX6_takenPoints_45 : decode cX6_takenPoints 45 = .ok (.aload_n 0, 1) := by decide +kernel
theorem dX6_takenPoints_46 : decode cX6_takenPoints 46 = .ok (.getfield 37, 3) := by decide +kernel
theorem dX6_takenPoints_49 : decode cX6_takenPoints 49 = .ok (.iload_n 3, 1) := by decide +kernel
theorem dX6_takenPoints_50 : decode cX6_takenPoints 50 = .ok (.aaload, 1) := by decide +kernel
theorem dX6_takenPoints_51 : decode cX6_takenPoints 51 = .ok (.invokevirtual 305, 3) := by decide +kernel
theorem dX6_takenPoints_54 : decode cX6_takenPoints 54 = .ok (.istore 5, 2) := by decide +kernel
theorem dX6_takenPoints_56 : decode cX6_takenPoints 56 = .ok (.fload_n 1, 1) := by decide +kernel
theorem dX6_takenPoints_57 : decode cX6_takenPoints 57 = .ok (.iload 5, 2) := by decide +kernel
theorem dX6_takenPoints_59 : decode cX6_takenPoints 59 = .ok (.ifCond .ne 7, 3) := by decide +kernel
theorem dX6_takenPoints_62 : decode cX6_takenPoints 62 = .ok (.fconst 0, 1) := by decide +kernel
theorem dX6_takenPoints_63 : decode cX6_takenPoints 63 = .ok (.goto 10, 3) := by decide +kernel
theorem dX6_takenPoints_66 : decode cX6_takenPoints 66 = .ok (.iload 4, 2) := by decide +kernel
theorem dX6_takenPoints_68 : decode cX6_takenPoints 68 = .ok (.i2f, 1) := by decide +kernel
theorem dX6_takenPoints_69 : decode cX6_takenPoints 69 = .ok (.iload 5, 2) := by decide +kernel
theorem dX6_takenPoints_71 : decode cX6_takenPoints 71 = .ok (.i2f, 1) := by decide +kernel
theorem dX6_takenPoints_72 : decode cX6_takenPoints 72 = .ok (.fdiv, 1) := by decide +kernel
theorem dX6_takenPoints_73 : decode cX6_takenPoints 73 = .ok (.fadd, 1) := by decide +kernel
theorem dX6_takenPoints_74 : decode cX6_takenPoints 74 = .ok (.fstore_n 1, 1) := by decide +kernel
theorem dX6_takenPoints_75 : decode cX6_takenPoints 75 = .ok (.iinc 2 1, 3) := by decide +kernel
theorem dX6_takenPoints_78 : decode cX6_takenPoints 78 = .ok (.goto (-74), 3) := by decide +kernel
theorem dX6_takenPoints_81 : decode cX6_takenPoints 81 = .ok (.fload_n 1, 1) := by decide +kernel
theorem dX6_takenPoints_82 : decode cX6_takenPoints 82 = .ok (.freturn, 1) := by decide +kernel
theorem dX6_takenBelt_0 : decode cX6_takenBelt 0 = .ok (.iconst 0, 1) := by decide +kernel
theorem dX6_takenBelt_1 : decode cX6_takenBelt 1 = .ok (.istore_n 1, 1) := by decide +kernel
theorem dX6_takenBelt_2 : decode cX6_takenBelt 2 = .ok (.iconst 0, 1) := by decide +kernel
theorem dX6_takenBelt_3 : decode cX6_takenBelt 3 = .ok (.istore_n 2, 1) := by decide +kernel
theorem dX6_takenBelt_4 : decode cX6_takenBelt 4 = .ok (.iload_n 2, 1) := by decide +kernel
theorem dX6_takenBelt_5 : decode cX6_takenBelt 5 = .ok (.aload_n 0, 1) := by decide +kernel
theorem dX6_takenBelt_6 : decode cX6_takenBelt 6 = .ok (.getfield 58, 3) := by decide +kernel
theorem dX6_takenBelt_9 : decode cX6_takenBelt 9 = .ok (.if_icmp .ge 27, 3) := by decide +kernel
theorem dX6_takenBelt_12 : decode cX6_takenBelt 12 = .ok (.iload_n 1, 1) := by decide +kernel
theorem dX6_takenBelt_13 : decode cX6_takenBelt 13 = .ok (.aload_n 0, 1) := by decide +kernel
theorem dX6_takenBelt_14 : decode cX6_takenBelt 14 = .ok (.getfield 45, 3) := by decide +kernel
theorem dX6_takenBelt_17 : decode cX6_takenBelt 17 = .ok (.iload_n 2, 1) := by decide +kernel
theorem dX6_takenBelt_18 : decode cX6_takenBelt 18 = .ok (.iaload, 1) := by decide +kernel
theorem dX6_takenBelt_19 : decode cX6_takenBelt 19 = .ok (.iconst (-1), 1) := by decide +kernel
theorem dX6_takenBelt_20 : decode cX6_takenBelt 20 = .ok (.if_icmp .ne 7, 3) := by decide +kernel
theorem dX6_takenBelt_23 : decode cX6_takenBelt 23 = .ok (.iconst 0, 1) := by decide +kernel
theorem dX6_takenBelt_24 : decode cX6_takenBelt 24 = .ok (.goto 4, 3) := by decide +kernel
theorem dX6_takenBelt_27 : decode cX6_takenBelt 27 = .ok (.iconst 1, 1) := by decide +kernel
theorem dX6_takenBelt_28 : decode cX6_takenBelt 28 = .ok (.iadd, 1) := by decide +kernel
theorem dX6_takenBelt_29 : decode cX6_takenBelt 29 = .ok (.istore_n 1, 1) := by decide +kernel
theorem dX6_takenBelt_30 : decode cX6_takenBelt 30 = .ok (.iinc 2 1, 3) := by decide +kernel
theorem dX6_takenBelt_33 : decode cX6_takenBelt 33 = .ok (.goto (-29), 3) := by decide +kernel
theorem dX6_takenBelt_36 : decode cX6_takenBelt 36 = .ok (.aload_n 0, 1) := by decide +kernel
theorem dX6_takenBelt_37 : decode cX6_takenBelt 37 = .ok (.invokevirtual 447, 3) := by decide +kernel
theorem dX6_takenBelt_40 : decode cX6_takenBelt 40 = .ok (.fstore_n 2, 1) := by decide +kernel
theorem dX6_takenBelt_41 : decode cX6_takenBelt 41 = .ok (.iconst 0, 1) := by decide +kernel
theorem dX6_takenBelt_42 : decode cX6_takenBelt 42 = .ok (.istore_n 3, 1) := by decide +kernel
theorem dX6_takenBelt_43 : decode cX6_takenBelt 43 = .ok (.iconst 1, 1) := by decide +kernel
theorem dX6_takenBelt_44 : decode cX6_takenBelt 44 = .ok (.istore 4, 2) := by decide +kernel
theorem dX6_takenBelt_46 : decode cX6_takenBelt 46 = .ok (.iload 4, 2) := by decide +kernel
theorem dX6_takenBelt_48 : decode cX6_takenBelt 48 = .ok (.iconst 5, 1) := by decide +kernel
theorem dX6_takenBelt_49 : decode cX6_takenBelt 49 = .ok (.if_icmp .gt 33, 3) := by decide +kernel
theorem dX6_takenBelt_52 : decode cX6_takenBelt 52 = .ok (.iload_n 1, 1) := by decide +kernel
theorem dX6_takenBelt_53 : decode cX6_takenBelt 53 = .ok (.iload 4, 2) := by decide +kernel
theorem dX6_takenBelt_55 : decode cX6_takenBelt 55 = .ok (.if_icmp .lt 21, 3) := by decide +kernel
theorem dX6_takenBelt_58 : decode cX6_takenBelt 58 = .ok (.fload_n 2, 1) := by decide +kernel
theorem dX6_takenBelt_59 : decode cX6_takenBelt 59 = .ok (.iconst 2, 1) := by decide +kernel
theorem dX6_takenBelt_60 : decode cX6_takenBelt 60 = .ok (.iload 4, 2) := by decide +kernel
theorem dX6_takenBelt_62 : decode cX6_takenBelt 62 = .ok (.imul, 1) := by decide +kernel
theorem dX6_takenBelt_63 : decode cX6_takenBelt 63 = .ok (.iload 4, 2) := by decide +kernel
theorem dX6_takenBelt_65 : decode cX6_takenBelt 65 = .ok (.iconst 1, 1) := by decide +kernel
theorem dX6_takenBelt_66 : decode cX6_takenBelt 66 = .ok (.iadd, 1) := by decide +kernel
theorem dX6_takenBelt_67 : decode cX6_takenBelt 67 = .ok (.imul, 1) := by decide +kernel
theorem dX6_takenBelt_68 : decode cX6_takenBelt 68 = .ok (.i2f, 1) := by decide +kernel
theorem dX6_takenBelt_69 : decode cX6_takenBelt 69 = .ok (.fcmp .l, 1) := by decide +kernel
theorem dX6_takenBelt_70 : decode cX6_takenBelt 70 = .ok (.ifCond .lt 6, 3) := by decide +kernel
theorem dX6_takenBelt_73 : decode cX6_takenBelt 73 = .ok (.iload 4, 2) := by decide +kernel
theorem dX6_takenBelt_75 : decode cX6_takenBelt 75 = .ok (.istore_n 3, 1) := by decide +kernel
theorem dX6_takenBelt_76 : decode cX6_takenBelt 76 = .ok (.iinc 4 1, 3) := by decide +kernel
theorem dX6_takenBelt_79 : decode cX6_takenBelt 79 = .ok (.goto (-33), 3) := by decide +kernel
theorem dX6_takenBelt_82 : decode cX6_takenBelt 82 = .ok (.iload_n 3, 1) := by decide +kernel
theorem dX6_takenBelt_83 : decode cX6_takenBelt 83 = .ok (.ireturn, 1) := by decide +kernel
theorem dX6_isRankedBefore_0 : decode cX6_isRankedBefore 0 = .ok (.aload_n 0, 1) := by decide +kernel
theorem dX6_isRankedBefore_1 : decode cX6_isRankedBefore 1 = .ok (.iload_n 1, 1) := by decide +kernel
theorem dX6_isRankedBefore_2 : decode cX6_isRankedBefore 2 = .ok (.invokevirtual 295, 3) := by decide +kernel
theorem dX6_isRankedBefore_5 : decode cX6_isRankedBefore 5 = .ok (.istore_n 3, 1) := by decide +kernel
theorem dX6_isRankedBefore_6 : decode cX6_isRankedBefore 6 = .ok (.aload_n 0, 1) := by decide +kernel
theorem dX6_isRankedBefore_7 : decode cX6_isRankedBefore 7 = .ok (.iload_n 2, 1) := by decide +kernel
theorem dX6_isRankedBefore_8 : decode cX6_isRankedBefore 8 = .ok (.invokevirtual 295, 3) := by decide +kernel
theorem dX6_isRankedBefore_11 : decode cX6_isRankedBefore 11 = .ok (.istore 4, 2) := by decide +kernel
theorem dX6_isRankedBefore_13 : decode cX6_isRankedBefore 13 = .ok (.iload_n 3, 1) := by decide +kernel
theorem dX6_isRankedBefore_14 : decode cX6_isRankedBefore 14 = .ok (.iload 4, 2) := by decide +kernel
theorem dX6_isRankedBefore_16 : decode cX6_isRankedBefore 16 = .ok (.if_icmp .eq 15, 3) := by decide +kernel
theorem dX6_isRankedBefore_19 : decode cX6_isRankedBefore 19 = .ok (.iload_n 3, 1) := by decide +kernel
theorem dX6_isRankedBefore_20 : decode cX6_isRankedBefore 20 = .ok (.iload 4, 2) := by decide +kernel
theorem dX6_isRankedBefore_22 : decode cX6_isRankedBefore 22 = .ok (.if_icmp .le 7, 3) := by decide +kernel
theorem dX6_isRankedBefore_25 : decode cX6_isRankedBefore 25 = .ok (.iconst 1, 1) := by decide +kernel
theorem dX6_isRankedBefore_26 : decode cX6_isRankedBefore 26 = .ok (.goto 4, 3) := by decide +kernel
theorem dX6_isRankedBefore_29 : decode cX6_isRankedBefore 29 = .ok (.iconst 0, 1) := by decide +kernel
theorem dX6_isRankedBefore_30 : decode cX6_isRankedBefore 30 = .ok (.ireturn, 1) := by decide +kernel
theorem dX6_isRankedBefore_31 : decode cX6_isRankedBefore 31 = .ok (.aload_n 0, 1) := by decide +kernel
theorem dX6_isRankedBefore_32 : decode cX6_isRankedBefore 32 = .ok (.iload_n 1, 1) := by decide +kernel
theorem dX6_isRankedBefore_33 : decode cX6_isRankedBefore 33 = .ok (.invokevirtual 327, 3) := by decide +kernel
theorem dX6_isRankedBefore_36 : decode cX6_isRankedBefore 36 = .ok (.fstore 5, 2) := by decide +kernel
theorem dX6_isRankedBefore_38 : decode cX6_isRankedBefore 38 = .ok (.aload_n 0, 1) := by decide +kernel
theorem dX6_isRankedBefore_39 : decode cX6_isRankedBefore 39 = .ok (.iload_n 2, 1) := by decide +kernel
theorem dX6_isRankedBefore_40 : decode cX6_isRankedBefore 40 = .ok (.invokevirtual 327, 3) := by decide +kernel
theorem dX6_isRankedBefore_43 : decode cX6_isRankedBefore 43 = .ok (.fstore 6, 2) := by decide +kernel
theorem dX6_isRankedBefore_45 : decode cX6_isRankedBefore 45 = .ok (.fload 5, 2) := by decide +kernel
theorem dX6_isRankedBefore_47 : decode cX6_isRankedBefore 47 = .ok (.fload 6, 2) := by decide +kernel
theorem dX6_isRankedBefore_49 : decode cX6_isRankedBefore 49 = .ok (.fcmp .l, 1) := by decide +kernel
theorem dX6_isRankedBefore_50 : decode cX6_isRankedBefore 50 = .ok (.ifCond .eq 17, 3) := by decide +kernel
theorem dX6_isRankedBefore_53 : decode cX6_isRankedBefore 53 = .ok (.fload 5, 2) := by decide +kernel
theorem dX6_isRankedBefore_55 : decode cX6_isRankedBefore 55 = .ok (.fload 6, 2) := by decide +kernel
theorem dX6_isRankedBefore_57 : decode cX6_isRankedBefore 57 = .ok (.fcmp .l, 1) := by decide +kernel
theorem dX6_isRankedBefore_58 : decode cX6_isRankedBefore 58 = .ok (.ifCond .le 7, 3) := by decide +kernel
theorem dX6_isRankedBefore_61 : decode cX6_isRankedBefore 61 = .ok (.iconst 1, 1) := by decide +kernel
theorem dX6_isRankedBefore_62 : decode cX6_isRankedBefore 62 = .ok (.goto 4, 3) := by decide +kernel
theorem dX6_isRankedBefore_65 : decode cX6_isRankedBefore 65 = .ok (.iconst 0, 1) := by decide +kernel
theorem dX6_isRankedBefore_66 : decode cX6_isRankedBefore 66 = .ok (.ireturn, 1) := by decide +kernel
theorem dX6_isRankedBefore_67 : decode cX6_isRankedBefore 67 = .ok (.iload_n 1, 1) := by decide +kernel
theorem dX6_isRankedBefore_68 : decode cX6_isRankedBefore 68 = .ok (.iload_n 2, 1) := by decide +kernel
theorem dX6_isRankedBefore_69 : decode cX6_isRankedBefore 69 = .ok (.if_icmp .ge 7, 3) := by decide +kernel
theorem dX6_isRankedBefore_72 : decode cX6_isRankedBefore 72 = .ok (.iconst 1, 1) := by decide +kernel
theorem dX6_isRankedBefore_73 : decode cX6_isRankedBefore 73 = .ok (.goto 4, 3) := by decide +kernel
theorem dX6_isRankedBefore_76 : decode cX6_isRankedBefore 76 = .ok (.iconst 0, 1) := by decide +kernel
theorem dX6_isRankedBefore_77 : decode cX6_isRankedBefore 77 = .ok (.ireturn, 1) := by decide +kernel
theorem dX6_isTheBody_0 : decode cX6_isTheBody 0 = .ok (.aload_n 1, 1) := by decide +kernel
theorem dX6_isTheBody_1 : decode cX6_isTheBody 1 = .ok (.getfield 105, 3) := by decide +kernel
theorem dX6_isTheBody_4 : decode cX6_isTheBody 4 = .ok (.aload_n 2, 1) := by decide +kernel
theorem dX6_isTheBody_5 : decode cX6_isTheBody 5 = .ok (.getfield 229, 3) := by decide +kernel
theorem dX6_isTheBody_8 : decode cX6_isTheBody 8 = .ok (.if_icmp .ne 15, 3) := by decide +kernel
theorem dX6_isTheBody_11 : decode cX6_isTheBody 11 = .ok (.aload_n 1, 1) := by decide +kernel
theorem dX6_isTheBody_12 : decode cX6_isTheBody 12 = .ok (.invokevirtual 461, 3) := by decide +kernel
theorem dX6_isTheBody_15 : decode cX6_isTheBody 15 = .ok (.aload_n 2, 1) := by decide +kernel
theorem dX6_isTheBody_16 : decode cX6_isTheBody 16 = .ok (.getfield 242, 3) := by decide +kernel
theorem dX6_isTheBody_19 : decode cX6_isTheBody 19 = .ok (.lcmp, 1) := by decide +kernel
theorem dX6_isTheBody_20 : decode cX6_isTheBody 20 = .ok (.ifCond .eq 5, 3) := by decide +kernel
theorem dX6_isTheBody_23 : decode cX6_isTheBody 23 = .ok (.iconst 0, 1) := by decide +kernel
theorem dX6_isTheBody_24 : decode cX6_isTheBody 24 = .ok (.ireturn, 1) := by decide +kernel
theorem dX6_isTheBody_25 : decode cX6_isTheBody 25 = .ok (.aload_n 0, 1) := by decide +kernel
theorem dX6_isTheBody_26 : decode cX6_isTheBody 26 = .ok (.getfield 25, 3) := by decide +kernel
theorem dX6_isTheBody_29 : decode cX6_isTheBody 29 = .ok (.aload_n 2, 1) := by decide +kernel
theorem dX6_isTheBody_30 : decode cX6_isTheBody 30 = .ok (.getfield 226, 3) := by decide +kernel
theorem dX6_isTheBody_33 : decode cX6_isTheBody 33 = .ok (.aaload, 1) := by decide +kernel
theorem dX6_isTheBody_34 : decode cX6_isTheBody 34 = .ok (.astore_n 3, 1) := by decide +kernel
theorem dX6_isTheBody_35 : decode cX6_isTheBody 35 = .ok (.iconst 0, 1) := by decide +kernel
theorem dX6_isTheBody_36 : decode cX6_isTheBody 36 = .ok (.istore 4, 2) := by decide +kernel
theorem dX6_isTheBody_38 : decode cX6_isTheBody 38 = .ok (.iload 4, 2) := by decide +kernel
theorem dX6_isTheBody_40 : decode cX6_isTheBody 40 = .ok (.aload_n 2, 1) := by decide +kernel
theorem dX6_isTheBody_41 : decode cX6_isTheBody 41 = .ok (.getfield 432, 3) := by decide +kernel
theorem dX6_isTheBody_44 : decode cX6_isTheBody 44 = .ok (.if_icmp .ge 71, 3) := by decide +kernel
theorem dX6_isTheBody_47 : decode cX6_isTheBody 47 = .ok (.iload 4, 2) := by decide +kernel
theorem dX6_isTheBody_49 : decode cX6_isTheBody 49 = .ok (.aload_n 3, 1) := by decide +kernel
theorem dX6_isTheBody_50 : decode cX6_isTheBody 50 = .ok (.getfield 146, 3) := by decide +kernel
theorem dX6_isTheBody_53 : decode cX6_isTheBody 53 = .ok (.if_icmp .ge 62, 3) := by decide +kernel
theorem dX6_isTheBody_56 : decode cX6_isTheBody 56 = .ok (.aload_n 3, 1) := by decide +kernel
theorem dX6_isTheBody_57 : decode cX6_isTheBody 57 = .ok (.getfield 151, 3) := by decide +kernel
theorem dX6_isTheBody_60 : decode cX6_isTheBody 60 = .ok (.iload 4, 2) := by decide +kernel
theorem dX6_isTheBody_62 : decode cX6_isTheBody 62 = .ok (.aaload, 1) := by decide +kernel
theorem dX6_isTheBody_63 : decode cX6_isTheBody 63 = .ok (.getfield 421, 3) := by decide +kernel
theorem dX6_isTheBody_66 : decode cX6_isTheBody 66 = .ok (.aload_n 2, 1) := by decide +kernel
theorem dX6_isTheBody_67 : decode cX6_isTheBody 67 = .ok (.getfield 444, 3) := by decide +kernel
theorem dX6_isTheBody_70 : decode cX6_isTheBody 70 = .ok (.if_icmp .le 7, 3) := by decide +kernel
theorem dX6_isTheBody_73 : decode cX6_isTheBody 73 = .ok (.iconst 1, 1) := by decide +kernel
theorem dX6_isTheBody_74 : decode cX6_isTheBody 74 = .ok (.goto 4, 3) := by decide +kernel
theorem dX6_isTheBody_77 : decode cX6_isTheBody 77 = .ok (.iconst 0, 1) := by decide +kernel
theorem dX6_isTheBody_78 : decode cX6_isTheBody 78 = .ok (.istore 5, 2) := by decide +kernel
theorem dX6_isTheBody_80 : decode cX6_isTheBody 80 = .ok (.iload 5, 2) := by decide +kernel
theorem dX6_isTheBody_82 : decode cX6_isTheBody 82 = .ok (.ifCond .ne 27, 3) := by decide +kernel
theorem dX6_isTheBody_85 : decode cX6_isTheBody 85 = .ok (.aload_n 0, 1) := by decide +kernel
theorem dX6_isTheBody_86 : decode cX6_isTheBody 86 = .ok (.aload_n 1, 1) := by decide +kernel
theorem dX6_isTheBody_87 : decode cX6_isTheBody 87 = .ok (.aload_n 3, 1) := by decide +kernel
theorem dX6_isTheBody_88 : decode cX6_isTheBody 88 = .ok (.getfield 151, 3) := by decide +kernel
theorem dX6_isTheBody_91 : decode cX6_isTheBody 91 = .ok (.iload 4, 2) := by decide +kernel
theorem dX6_isTheBody_93 : decode cX6_isTheBody 93 = .ok (.aaload, 1) := by decide +kernel
theorem dX6_isTheBody_94 : decode cX6_isTheBody 94 = .ok (.invokevirtual 428, 3) := by decide +kernel
theorem dX6_isTheBody_97 : decode cX6_isTheBody 97 = .ok (.aload_n 2, 1) := by decide +kernel
theorem dX6_isTheBody_98 : decode cX6_isTheBody 98 = .ok (.getfield 435, 3) := by decide +kernel
theorem dX6_isTheBody_101 : decode cX6_isTheBody 101 = .ok (.iload 4, 2) := by decide +kernel
theorem dX6_isTheBody_103 : decode cX6_isTheBody 103 = .ok (.iaload, 1) := by decide +kernel
theorem dX6_isTheBody_104 : decode cX6_isTheBody 104 = .ok (.if_icmp .eq 5, 3) := by decide +kernel
theorem dX6_isTheBody_107 : decode cX6_isTheBody 107 = .ok (.iconst 0, 1) := by decide +kernel
theorem dX6_isTheBody_108 : decode cX6_isTheBody 108 = .ok (.ireturn, 1) := by decide +kernel
theorem dX6_isTheBody_109 : decode cX6_isTheBody 109 = .ok (.iinc 4 1, 3) := by decide +kernel
theorem dX6_isTheBody_112 : decode cX6_isTheBody 112 = .ok (.goto (-74), 3) := by decide +kernel
theorem dX6_isTheBody_115 : decode cX6_isTheBody 115 = .ok (.iconst 1, 1) := by decide +kernel
theorem dX6_isTheBody_116 : decode cX6_isTheBody 116 = .ok (.ireturn, 1) := by decide +kernel
theorem dX6_closeByBody_0 : decode cX6_closeByBody 0 = .ok (.aload_n 0, 1) := by decide +kernel
theorem dX6_closeByBody_1 : decode cX6_closeByBody 1 = .ok (.getfield 37, 3) := by decide +kernel
theorem dX6_closeByBody_4 : decode cX6_closeByBody 4 = .ok (.iload_n 1, 1) := by decide +kernel
theorem dX6_closeByBody_5 : decode cX6_closeByBody 5 = .ok (.aaload, 1) := by decide +kernel
theorem dX6_closeByBody_6 : decode cX6_closeByBody 6 = .ok (.astore 4, 2) := by decide +kernel
theorem dX6_closeByBody_8 : decode cX6_closeByBody 8 = .ok (.aload_n 0, 1) := by decide +kernel
theorem dX6_closeByBody_9 : decode cX6_closeByBody 9 = .ok (.iload_n 1, 1) := by decide +kernel
theorem dX6_closeByBody_10 : decode cX6_closeByBody 10 = .ok (.invokevirtual 375, 3) := by decide +kernel
theorem dX6_closeByBody_13 : decode cX6_closeByBody 13 = .ok (.aload 4, 2) := by decide +kernel
theorem dX6_closeByBody_15 : decode cX6_closeByBody 15 = .ok (.aload_n 2, 1) := by decide +kernel
theorem dX6_closeByBody_16 : decode cX6_closeByBody 16 = .ok (.invokevirtual 465, 3) := by decide +kernel
theorem dX6_closeByBody_19 : decode cX6_closeByBody 19 = .ok (.aload_n 0, 1) := by decide +kernel
theorem dX6_closeByBody_20 : decode cX6_closeByBody 20 = .ok (.aload 4, 2) := by decide +kernel
theorem dX6_closeByBody_22 : decode cX6_closeByBody 22 = .ok (.invokevirtual 424, 3) := by decide +kernel
theorem dX6_closeByBody_25 : decode cX6_closeByBody 25 = .ok (.istore 5, 2) := by decide +kernel
theorem dX6_closeByBody_27 : decode cX6_closeByBody 27 = .ok (.aload 4, 2) := by decide +kernel
theorem dX6_closeByBody_29 : decode cX6_closeByBody 29 = .ok (.iload 5, 2) := by decide +kernel
theorem dX6_closeByBody_31 : decode cX6_closeByBody 31 = .ok (.putfield 238, 3) := by decide +kernel
theorem dX6_closeByBody_34 : decode cX6_closeByBody 34 = .ok (.aload_n 0, 1) := by decide +kernel
theorem dX6_closeByBody_35 : decode cX6_closeByBody 35 = .ok (.invokevirtual 215, 3) := by decide +kernel
theorem dX6_closeByBody_38 : decode cX6_closeByBody 38 = .ok (.pop, 1) := by decide +kernel
theorem dX6_closeByBody_39 : decode cX6_closeByBody 39 = .ok (.iload 5, 2) := by decide +kernel
theorem dX6_closeByBody_41 : decode cX6_closeByBody 41 = .ok (.bipush 115, 2) := by decide +kernel
theorem dX6_closeByBody_43 : decode cX6_closeByBody 43 = .ok (.if_icmp .ne 16, 3) := by decide +kernel
theorem dX6_closeByBody_46 : decode cX6_closeByBody 46 = .ok (.aload_n 3, 1) := by decide +kernel
theorem dX6_closeByBody_47 : decode cX6_closeByBody 47 = .ok (.dup, 1) := by decide +kernel
theorem dX6_closeByBody_48 : decode cX6_closeByBody 48 = .ok (.getfield 331, 3) := by decide +kernel
theorem dX6_closeByBody_51 : decode cX6_closeByBody 51 = .ok (.iconst 3, 1) := by decide +kernel
theorem dX6_closeByBody_52 : decode cX6_closeByBody 52 = .ok (.iadd, 1) := by decide +kernel
theorem dX6_closeByBody_53 : decode cX6_closeByBody 53 = .ok (.putfield 331, 3) := by decide +kernel
theorem dX6_closeByBody_56 : decode cX6_closeByBody 56 = .ok (.bipush 115, 2) := by decide +kernel
theorem dX6_closeByBody_58 : decode cX6_closeByBody 58 = .ok (.ireturn, 1) := by decide +kernel
theorem dX6_closeByBody_59 : decode cX6_closeByBody 59 = .ok (.aload_n 0, 1) := by decide +kernel
theorem dX6_closeByBody_60 : decode cX6_closeByBody 60 = .ok (.getfield 31, 3) := by decide +kernel
theorem dX6_closeByBody_63 : decode cX6_closeByBody 63 = .ok (.aload 4, 2) := by decide +kernel
theorem dX6_closeByBody_65 : decode cX6_closeByBody 65 = .ok (.getfield 344, 3) := by decide +kernel
theorem dX6_closeByBody_68 : decode cX6_closeByBody 68 = .ok (.aaload, 1) := by decide +kernel
theorem dX6_closeByBody_69 : decode cX6_closeByBody 69 = .ok (.dup, 1) := by decide +kernel
theorem dX6_closeByBody_70 : decode cX6_closeByBody 70 = .ok (.getfield 331, 3) := by decide +kernel
theorem dX6_closeByBody_73 : decode cX6_closeByBody 73 = .ok (.iconst 5, 1) := by decide +kernel
theorem dX6_closeByBody_74 : decode cX6_closeByBody 74 = .ok (.iadd, 1) := by decide +kernel
theorem dX6_closeByBody_75 : decode cX6_closeByBody 75 = .ok (.putfield 331, 3) := by decide +kernel
theorem dX6_closeByBody_78 : decode cX6_closeByBody 78 = .ok (.aload 4, 2) := by decide +kernel
theorem dX6_closeByBody_80 : decode cX6_closeByBody 80 = .ok (.getfield 252, 3) := by decide +kernel
theorem dX6_closeByBody_83 : decode cX6_closeByBody 83 = .ok (.ifCond .eq 9, 3) := by decide +kernel
theorem dX6_closeByBody_86 : decode cX6_closeByBody 86 = .ok (.aload_n 0, 1) := by decide +kernel
theorem dX6_closeByBody_87 : decode cX6_closeByBody 87 = .ok (.aload 4, 2) := by decide +kernel
theorem dX6_closeByBody_89 : decode cX6_closeByBody 89 = .ok (.invokevirtual 266, 3) := by decide +kernel
theorem dX6_closeByBody_92 : decode cX6_closeByBody 92 = .ok (.bipush 98, 2) := by decide +kernel
theorem dX6_closeByBody_94 : decode cX6_closeByBody 94 = .ok (.ireturn, 1) := by decide +kernel
theorem dX6_closeChallenge_0 : decode cX6_closeChallenge 0 = .ok (.iconst 0, 1) := by decide +kernel
theorem dX6_closeChallenge_1 : decode cX6_closeChallenge 1 = .ok (.istore_n 2, 1) := by decide +kernel
theorem dX6_closeChallenge_2 : decode cX6_closeChallenge 2 = .ok (.iconst 0, 1) := by decide +kernel
theorem dX6_closeChallenge_3 : decode cX6_closeChallenge 3 = .ok (.istore_n 3, 1) := by decide +kernel
theorem dX6_closeChallenge_4 : decode cX6_closeChallenge 4 = .ok (.iload_n 3, 1) := by decide +kernel
theorem dX6_closeChallenge_5 : decode cX6_closeChallenge 5 = .ok (.aload_n 0, 1) := by decide +kernel
theorem dX6_closeChallenge_6 : decode cX6_closeChallenge 6 = .ok (.getfield 68, 3) := by decide +kernel
theorem dX6_closeChallenge_9 : decode cX6_closeChallenge 9 = .ok (.if_icmp .ge 34, 3) := by decide +kernel
theorem dX6_closeChallenge_12 : decode cX6_closeChallenge 12 = .ok (.aload_n 0, 1) := by decide +kernel
theorem dX6_closeChallenge_13 : decode cX6_closeChallenge 13 = .ok (.getfield 41, 3) := by decide +kernel
theorem dX6_closeChallenge_16 : decode cX6_closeChallenge 16 = .ok (.iload_n 3, 1) := by decide +kernel
theorem dX6_closeChallenge_17 : decode cX6_closeChallenge 17 = .ok (.iaload, 1) := by decide +kernel
theorem dX6_closeChallenge_18 : decode cX6_closeChallenge 18 = .ok (.iload_n 1, 1) := by decide +kernel
theorem dX6_closeChallenge_19 : decode cX6_closeChallenge 19 = .ok (.if_icmp .eq 18, 3) := by decide +kernel
theorem dX6_closeChallenge_22 : decode cX6_closeChallenge 22 = .ok (.aload_n 0, 1) := by decide +kernel
theorem dX6_closeChallenge_23 : decode cX6_closeChallenge 23 = .ok (.getfield 41, 3) := by decide +kernel
theorem dX6_closeChallenge_26 : decode cX6_closeChallenge 26 = .ok (.iload_n 2, 1) := by decide +kernel
theorem dX6_closeChallenge_27 : decode cX6_closeChallenge 27 = .ok (.aload_n 0, 1) := by decide +kernel
theorem dX6_closeChallenge_28 : decode cX6_closeChallenge 28 = .ok (.getfield 41, 3) := by decide +kernel
theorem dX6_closeChallenge_31 : decode cX6_closeChallenge 31 = .ok (.iload_n 3, 1) := by decide +kernel
theorem dX6_closeChallenge_32 : decode cX6_closeChallenge 32 = .ok (.iaload, 1) := by decide +kernel
theorem dX6_closeChallenge_33 : decode cX6_closeChallenge 33 = .ok (.iastore, 1) := by decide +kernel
theorem dX6_closeChallenge_34 : decode cX6_closeChallenge 34 = .ok (.iinc 2 1, 3) := by decide +kernel
theorem dX6_closeChallenge_37 : decode cX6_closeChallenge 37 = .ok (.iinc 3 1, 3) := by decide +kernel
theorem dX6_closeChallenge_40 : decode cX6_closeChallenge 40 = .ok (.goto (-36), 3) := by decide +kernel
theorem dX6_closeChallenge_43 : decode cX6_closeChallenge 43 = .ok (.aload_n 0, 1) := by decide +kernel
theorem dX6_closeChallenge_44 : decode cX6_closeChallenge 44 = .ok (.iload_n 2, 1) := by decide +kernel
theorem dX6_closeChallenge_45 : decode cX6_closeChallenge 45 = .ok (.putfield 68, 3) := by decide +kernel
theorem dX6_closeChallenge_48 : decode cX6_closeChallenge 48 = .ok (.return_, 1) := by decide +kernel
theorem dX6_areBodiesSound_0 : decode cX6_areBodiesSound 0 = .ok (.iconst 0, 1) := by decide +kernel
theorem dX6_areBodiesSound_1 : decode cX6_areBodiesSound 1 = .ok (.istore_n 1, 1) := by decide +kernel
theorem dX6_areBodiesSound_2 : decode cX6_areBodiesSound 2 = .ok (.iload_n 1, 1) := by decide +kernel
theorem dX6_areBodiesSound_3 : decode cX6_areBodiesSound 3 = .ok (.aload_n 0, 1) := by decide +kernel
theorem dX6_areBodiesSound_4 : decode cX6_areBodiesSound 4 = .ok (.getfield 65, 3) := by decide +kernel
theorem dX6_areBodiesSound_7 : decode cX6_areBodiesSound 7 = .ok (.if_icmp .ge 52, 3) := by decide +kernel
theorem dX6_areBodiesSound_10 : decode cX6_areBodiesSound 10 = .ok (.aload_n 0, 1) := by decide +kernel
theorem dX6_areBodiesSound_11 : decode cX6_areBodiesSound 11 = .ok (.getfield 37, 3) := by decide +kernel
theorem dX6_areBodiesSound_14 : decode cX6_areBodiesSound 14 = .ok (.iload_n 1, 1) := by decide +kernel
theorem dX6_areBodiesSound_15 : decode cX6_areBodiesSound 15 = .ok (.aaload, 1) := by decide +kernel
theorem dX6_areBodiesSound_16 : decode cX6_areBodiesSound 16 = .ok (.astore_n 2, 1) := by decide +kernel
theorem dX6_areBodiesSound_17 : decode cX6_areBodiesSound 17 = .ok (.aload_n 2, 1) := by decide +kernel
theorem dX6_areBodiesSound_18 : decode cX6_areBodiesSound 18 = .ok (.getfield 252, 3) := by decide +kernel
theorem dX6_areBodiesSound_21 : decode cX6_areBodiesSound 21 = .ok (.ifCond .eq 32, 3) := by decide +kernel
theorem dX6_areBodiesSound_24 : decode cX6_areBodiesSound 24 = .ok (.aload_n 2, 1) := by decide +kernel
theorem dX6_areBodiesSound_25 : decode cX6_areBodiesSound 25 = .ok (.getfield 255, 3) := by decide +kernel
theorem dX6_areBodiesSound_28 : decode cX6_areBodiesSound 28 = .ok (.invokevirtual 461, 3) := by decide +kernel
theorem dX6_areBodiesSound_31 : decode cX6_areBodiesSound 31 = .ok (.aload_n 2, 1) := by decide +kernel
theorem dX6_areBodiesSound_32 : decode cX6_areBodiesSound 32 = .ok (.getfield 242, 3) := by decide +kernel
theorem dX6_areBodiesSound_35 : decode cX6_areBodiesSound 35 = .ok (.lcmp, 1) := by decide +kernel
theorem dX6_areBodiesSound_36 : decode cX6_areBodiesSound 36 = .ok (.ifCond .ne 15, 3) := by decide +kernel
theorem dX6_areBodiesSound_39 : decode cX6_areBodiesSound 39 = .ok (.aload_n 2, 1) := by decide +kernel
theorem dX6_areBodiesSound_40 : decode cX6_areBodiesSound 40 = .ok (.getfield 238, 3) := by decide +kernel
theorem dX6_areBodiesSound_43 : decode cX6_areBodiesSound 43 = .ok (.aload_n 0, 1) := by decide +kernel
theorem dX6_areBodiesSound_44 : decode cX6_areBodiesSound 44 = .ok (.aload_n 2, 1) := by decide +kernel
theorem dX6_areBodiesSound_45 : decode cX6_areBodiesSound 45 = .ok (.invokevirtual 424, 3) := by decide +kernel
theorem dX6_areBodiesSound_48 : decode cX6_areBodiesSound 48 = .ok (.if_icmp .eq 5, 3) := by decide +kernel
theorem dX6_areBodiesSound_51 : decode cX6_areBodiesSound 51 = .ok (.iconst 0, 1) := by decide +kernel
theorem dX6_areBodiesSound_52 : decode cX6_areBodiesSound 52 = .ok (.ireturn, 1) := by decide +kernel
theorem dX6_areBodiesSound_53 : decode cX6_areBodiesSound 53 = .ok (.iinc 1 1, 3) := by decide +kernel
theorem dX6_areBodiesSound_56 : decode cX6_areBodiesSound 56 = .ok (.goto (-54), 3) := by decide +kernel
theorem dX6_areBodiesSound_59 : decode cX6_areBodiesSound 59 = .ok (.iconst 1, 1) := by decide +kernel
theorem dX6_areBodiesSound_60 : decode cX6_areBodiesSound 60 = .ok (.ireturn, 1) := by decide +kernel
theorem dX6_areBeltsSound_0 : decode cX6_areBeltsSound 0 = .ok (.iconst 0, 1) := by decide +kernel
theorem dX6_areBeltsSound_1 : decode cX6_areBeltsSound 1 = .ok (.istore_n 1, 1) := by decide +kernel
theorem dX6_areBeltsSound_2 : decode cX6_areBeltsSound 2 = .ok (.iload_n 1, 1) := by decide +kernel
theorem dX6_areBeltsSound_3 : decode cX6_areBeltsSound 3 = .ok (.aload_n 0, 1) := by decide +kernel
theorem dX6_areBeltsSound_4 : decode cX6_areBeltsSound 4 = .ok (.getfield 65, 3) := by decide +kernel
theorem dX6_areBeltsSound_7 : decode cX6_areBeltsSound 7 = .ok (.if_icmp .ge 23, 3) := by decide +kernel
theorem dX6_areBeltsSound_10 : decode cX6_areBeltsSound 10 = .ok (.aload_n 0, 1) := by decide +kernel
theorem dX6_areBeltsSound_11 : decode cX6_areBeltsSound 11 = .ok (.getfield 37, 3) := by decide +kernel
theorem dX6_areBeltsSound_14 : decode cX6_areBeltsSound 14 = .ok (.iload_n 1, 1) := by decide +kernel
theorem dX6_areBeltsSound_15 : decode cX6_areBeltsSound 15 = .ok (.aaload, 1) := by decide +kernel
theorem dX6_areBeltsSound_16 : decode cX6_areBeltsSound 16 = .ok (.invokevirtual 469, 3) := by decide +kernel
theorem dX6_areBeltsSound_19 : decode cX6_areBeltsSound 19 = .ok (.ifCond .ne 5, 3) := by decide +kernel
theorem dX6_areBeltsSound_22 : decode cX6_areBeltsSound 22 = .ok (.iconst 0, 1) := by decide +kernel
theorem dX6_areBeltsSound_23 : decode cX6_areBeltsSound 23 = .ok (.ireturn, 1) := by decide +kernel
theorem dX6_areBeltsSound_24 : decode cX6_areBeltsSound 24 = .ok (.iinc 1 1, 3) := by decide +kernel
theorem dX6_areBeltsSound_27 : decode cX6_areBeltsSound 27 = .ok (.goto (-25), 3) := by decide +kernel
theorem dX6_areBeltsSound_30 : decode cX6_areBeltsSound 30 = .ok (.iconst 0, 1) := by decide +kernel
theorem dX6_areBeltsSound_31 : decode cX6_areBeltsSound 31 = .ok (.istore_n 1, 1) := by decide +kernel
theorem dX6_areBeltsSound_32 : decode cX6_areBeltsSound 32 = .ok (.iload_n 1, 1) := by decide +kernel
theorem dX6_areBeltsSound_33 : decode cX6_areBeltsSound 33 = .ok (.aload_n 0, 1) := by decide +kernel
theorem dX6_areBeltsSound_34 : decode cX6_areBeltsSound 34 = .ok (.getfield 62, 3) := by decide +kernel
theorem dX6_areBeltsSound_37 : decode cX6_areBeltsSound 37 = .ok (.if_icmp .ge 24, 3) := by decide +kernel
theorem dX6_areBeltsSound_40 : decode cX6_areBeltsSound 40 = .ok (.aload_n 0, 1) := by decide +kernel
theorem dX6_areBeltsSound_41 : decode cX6_areBeltsSound 41 = .ok (.iload_n 1, 1) := by decide +kernel
theorem dX6_areBeltsSound_42 : decode cX6_areBeltsSound 42 = .ok (.invokevirtual 295, 3) := by decide +kernel
theorem dX6_areBeltsSound_45 : decode cX6_areBeltsSound 45 = .ok (.aload_n 0, 1) := by decide +kernel
theorem dX6_areBeltsSound_46 : decode cX6_areBeltsSound 46 = .ok (.iload_n 1, 1) := by decide +kernel
theorem dX6_areBeltsSound_47 : decode cX6_areBeltsSound 47 = .ok (.invokevirtual 472, 3) := by decide +kernel
theorem dX6_areBeltsSound_50 : decode cX6_areBeltsSound 50 = .ok (.if_icmp .eq 5, 3) := by decide +kernel
theorem dX6_areBeltsSound_53 : decode cX6_areBeltsSound 53 = .ok (.iconst 0, 1) := by decide +kernel
theorem dX6_areBeltsSound_54 : decode cX6_areBeltsSound 54 = .ok (.ireturn, 1) := by decide +kernel
theorem dX6_areBeltsSound_55 : decode cX6_areBeltsSound 55 = .ok (.iinc 1 1, 3) := by decide +kernel
theorem dX6_areBeltsSound_58 : decode cX6_areBeltsSound 58 = .ok (.goto (-26), 3) := by decide +kernel
theorem dX6_areBeltsSound_61 : decode cX6_areBeltsSound 61 = .ok (.iconst 1, 1) := by decide +kernel
theorem dX6_areBeltsSound_62 : decode cX6_areBeltsSound 62 = .ok (.ireturn, 1) := by decide +kernel
theorem dX6_beltFromBehind_0 : decode cX6_beltFromBehind 0 = .ok (.aload_n 0, 1) := by decide +kernel
theorem dX6_beltFromBehind_1 : decode cX6_beltFromBehind 1 = .ok (.invokevirtual 454, 3) := by decide +kernel
theorem dX6_beltFromBehind_4 : decode cX6_beltFromBehind 4 = .ok (.aload_n 0, 1) := by decide +kernel
theorem dX6_beltFromBehind_5 : decode cX6_beltFromBehind 5 = .ok (.getfield 65, 3) := by decide +kernel
theorem dX6_beltFromBehind_8 : decode cX6_beltFromBehind 8 = .ok (.iconst 1, 1) := by decide +kernel
theorem dX6_beltFromBehind_9 : decode cX6_beltFromBehind 9 = .ok (.isub, 1) := by decide +kernel
theorem dX6_beltFromBehind_10 : decode cX6_beltFromBehind 10 = .ok (.istore_n 2, 1) := by decide +kernel
theorem dX6_beltFromBehind_11 : decode cX6_beltFromBehind 11 = .ok (.iload_n 2, 1) := by decide +kernel
theorem dX6_beltFromBehind_12 : decode cX6_beltFromBehind 12 = .ok (.ifCond .lt 72, 3) := by decide +kernel
theorem dX6_beltFromBehind_15 : decode cX6_beltFromBehind 15 = .ok (.aload_n 0, 1) := by decide +kernel
theorem dX6_beltFromBehind_16 : decode cX6_beltFromBehind 16 = .ok (.getfield 37, 3) := by decide +kernel
theorem dX6_beltFromBehind_19 : decode cX6_beltFromBehind 19 = .ok (.iload_n 2, 1) := by decide +kernel
theorem dX6_beltFromBehind_20 : decode cX6_beltFromBehind 20 = .ok (.aaload, 1) := by decide +kernel
theorem dX6_beltFromBehind_21 : decode cX6_beltFromBehind 21 = .ok (.astore_n 3, 1) := by decide +kernel
theorem dX6_beltFromBehind_22 : decode cX6_beltFromBehind 22 = .ok (.aload_n 3, 1) := by decide +kernel
theorem dX6_beltFromBehind_23 : decode cX6_beltFromBehind 23 = .ok (.getfield 223, 3) := by decide +kernel
theorem dX6_beltFromBehind_26 : decode cX6_beltFromBehind 26 = .ok (.iload_n 1, 1) := by decide +kernel
theorem dX6_beltFromBehind_27 : decode cX6_beltFromBehind 27 = .ok (.if_icmp .ne 51, 3) := by decide +kernel
theorem dX6_beltFromBehind_30 : decode cX6_beltFromBehind 30 = .ok (.aload_n 3, 1) := by decide +kernel
theorem dX6_beltFromBehind_31 : decode cX6_beltFromBehind 31 = .ok (.invokevirtual 390, 3) := by decide +kernel
theorem dX6_beltFromBehind_34 : decode cX6_beltFromBehind 34 = .ok (.ifCond .eq 44, 3) := by decide +kernel
theorem dX6_beltFromBehind_37 : decode cX6_beltFromBehind 37 = .ok (.aload_n 0, 1) := by decide +kernel
theorem dX6_beltFromBehind_38 : decode cX6_beltFromBehind 38 = .ok (.getfield 45, 3) := by decide +kernel
theorem dX6_beltFromBehind_41 : decode cX6_beltFromBehind 41 = .ok (.aload_n 3, 1) := by decide +kernel
theorem dX6_beltFromBehind_42 : decode cX6_beltFromBehind 42 = .ok (.getfield 226, 3) := by decide +kernel
theorem dX6_beltFromBehind_45 : decode cX6_beltFromBehind 45 = .ok (.iaload, 1) := by decide +kernel
theorem dX6_beltFromBehind_46 : decode cX6_beltFromBehind 46 = .ok (.istore 4, 2) := by decide +kernel
theorem dX6_beltFromBehind_48 : decode cX6_beltFromBehind 48 = .ok (.iload 4, 2) := by decide +kernel
theorem dX6_beltFromBehind_50 : decode cX6_beltFromBehind 50 = .ok (.iconst (-1), 1) := by decide +kernel
theorem dX6_beltFromBehind_51 : decode cX6_beltFromBehind 51 = .ok (.if_icmp .eq 17, 3) := by decide +kernel
theorem dX6_beltFromBehind_54 : decode cX6_beltFromBehind 54 = .ok (.aload_n 0, 1) := by decide +kernel
theorem dX6_beltFromBehind_55 : decode cX6_beltFromBehind 55 = .ok (.getfield 37, 3) := by decide +kernel
theorem dX6_beltFromBehind_58 : decode cX6_beltFromBehind 58 = .ok (.iload 4, 2) := by decide +kernel
theorem dX6_beltFromBehind_60 : decode cX6_beltFromBehind 60 = .ok (.aaload, 1) := by decide +kernel
theorem dX6_beltFromBehind_61 : decode cX6_beltFromBehind 61 = .ok (.aload_n 3, 1) := by decide +kernel
theorem dX6_beltFromBehind_62 : decode cX6_beltFromBehind 62 = .ok (.invokevirtual 457, 3) := by decide +kernel
theorem dX6_beltFromBehind_65 : decode cX6_beltFromBehind 65 = .ok (.ifCond .ne 13, 3) := by decide +kernel
theorem dX6_beltFromBehind_68 : decode cX6_beltFromBehind 68 = .ok (.aload_n 0, 1) := by decide +kernel
theorem dX6_beltFromBehind_69 : decode cX6_beltFromBehind 69 = .ok (.getfield 45, 3) := by decide +kernel
theorem dX6_beltFromBehind_72 : decode cX6_beltFromBehind 72 = .ok (.aload_n 3, 1) := by decide +kernel
theorem dX6_beltFromBehind_73 : decode cX6_beltFromBehind 73 = .ok (.getfield 226, 3) := by decide +kernel
theorem dX6_beltFromBehind_76 : decode cX6_beltFromBehind 76 = .ok (.iload_n 2, 1) := by decide +kernel
theorem dX6_beltFromBehind_77 : decode cX6_beltFromBehind 77 = .ok (.iastore, 1) := by decide +kernel
theorem dX6_beltFromBehind_78 : decode cX6_beltFromBehind 78 = .ok (.iinc 2 (-1), 3) := by decide +kernel
theorem dX6_beltFromBehind_81 : decode cX6_beltFromBehind 81 = .ok (.goto (-70), 3) := by decide +kernel
theorem dX6_beltFromBehind_84 : decode cX6_beltFromBehind 84 = .ok (.aload_n 0, 1) := by decide +kernel
theorem dX6_beltFromBehind_85 : decode cX6_beltFromBehind 85 = .ok (.invokevirtual 451, 3) := by decide +kernel
theorem dX6_beltFromBehind_88 : decode cX6_beltFromBehind 88 = .ok (.ireturn, 1) := by decide +kernel
theorem dX6_areChallengesSound_0 : decode cX6_areChallengesSound 0 = .ok (.iconst 0, 1) := by decide +kernel
theorem dX6_areChallengesSound_1 : decode cX6_areChallengesSound 1 = .ok (.istore_n 1, 1) := by decide +kernel
theorem dX6_areChallengesSound_2 : decode cX6_areChallengesSound 2 = .ok (.iconst 0, 1) := by decide +kernel
theorem dX6_areChallengesSound_3 : decode cX6_areChallengesSound 3 = .ok (.istore_n 2, 1) := by decide +kernel
theorem dX6_areChallengesSound_4 : decode cX6_areChallengesSound 4 = .ok (.iload_n 2, 1) := by decide +kernel
theorem dX6_areChallengesSound_5 : decode cX6_areChallengesSound 5 = .ok (.aload_n 0, 1) := by decide +kernel
theorem dX6_areChallengesSound_6 : decode cX6_areChallengesSound 6 = .ok (.getfield 65, 3) := by decide +kernel
theorem dX6_areChallengesSound_9 : decode cX6_areChallengesSound 9 = .ok (.if_icmp .ge 26, 3) := by decide +kernel
theorem dX6_areChallengesSound_12 : decode cX6_areChallengesSound 12 = .ok (.aload_n 0, 1) := by decide +kernel
theorem dX6_areChallengesSound_13 : decode cX6_areChallengesSound 13 = .ok (.getfield 37, 3) := by decide +kernel
theorem dX6_areChallengesSound_16 : decode cX6_areChallengesSound 16 = .ok (.iload_n 2, 1) := by decide +kernel
theorem dX6_areChallengesSound_17 : decode cX6_areChallengesSound 17 = .ok (.aaload, 1) := by decide +kernel
theorem dX6_areChallengesSound_18 : decode cX6_areChallengesSound 18 = .ok (.getfield 238, 3) := by decide +kernel
theorem dX6_areChallengesSound_21 : decode cX6_areChallengesSound 21 = .ok (.bipush 99, 2) := by decide +kernel
theorem dX6_areChallengesSound_23 : decode cX6_areChallengesSound 23 = .ok (.if_icmp .ne 6, 3) := by decide +kernel
theorem dX6_areChallengesSound_26 : decode cX6_areChallengesSound 26 = .ok (.iinc 1 1, 3) := by decide +kernel
theorem dX6_areChallengesSound_29 : decode cX6_areChallengesSound 29 = .ok (.iinc 2 1, 3) := by decide +kernel
theorem dX6_areChallengesSound_32 : decode cX6_areChallengesSound 32 = .ok (.goto (-28), 3) := by decide +kernel
theorem dX6_areChallengesSound_35 : decode cX6_areChallengesSound 35 = .ok (.iconst 0, 1) := by decide +kernel
theorem dX6_areChallengesSound_36 : decode cX6_areChallengesSound 36 = .ok (.istore_n 2, 1) := by decide +kernel
theorem dX6_areChallengesSound_37 : decode cX6_areChallengesSound 37 = .ok (.iload_n 2, 1) := by decide +kernel
theorem dX6_areChallengesSound_38 : decode cX6_areChallengesSound 38 = .ok (.aload_n 0, 1) := by decide +kernel
theorem dX6_areChallengesSound_39 : decode cX6_areChallengesSound 39 = .ok (.getfield 68, 3) := by decide +kernel
theorem dX6_areChallengesSound_42 : decode cX6_areChallengesSound 42 = .ok (.if_icmp .ge 38, 3) := by decide +kernel
theorem dX6_areChallengesSound_45 : decode cX6_areChallengesSound 45 = .ok (.aload_n 0, 1) := by decide +kernel
theorem dX6_areChallengesSound_46 : decode cX6_areChallengesSound 46 = .ok (.getfield 37, 3) := by decide +kernel
theorem dX6_areChallengesSound_49 : decode cX6_areChallengesSound 49 = .ok (.aload_n 0, 1) := by decide +kernel
theorem dX6_areChallengesSound_50 : decode cX6_areChallengesSound 50 = .ok (.getfield 41, 3) := by decide +kernel
theorem dX6_areChallengesSound_53 : decode cX6_areChallengesSound 53 = .ok (.iload_n 2, 1) := by decide +kernel
theorem dX6_areChallengesSound_54 : decode cX6_areChallengesSound 54 = .ok (.iaload, 1) := by decide +kernel
theorem dX6_areChallengesSound_55 : decode cX6_areChallengesSound 55 = .ok (.aaload, 1) := by decide +kernel
theorem dX6_areChallengesSound_56 : decode cX6_areChallengesSound 56 = .ok (.getfield 238, 3) := by decide +kernel
theorem dX6_areChallengesSound_59 : decode cX6_areChallengesSound 59 = .ok (.bipush 99, 2) := by decide +kernel
theorem dX6_areChallengesSound_61 : decode cX6_areChallengesSound 61 = .ok (.if_icmp .ne 11, 3) := by decide +kernel
theorem dX6_areChallengesSound_64 : decode cX6_areChallengesSound 64 = .ok (.aload_n 0, 1) := by decide +kernel
theorem dX6_areChallengesSound_65 : decode cX6_areChallengesSound 65 = .ok (.iload_n 2, 1) := by decide +kernel
theorem dX6_areChallengesSound_66 : decode cX6_areChallengesSound 66 = .ok (.invokevirtual 475, 3) := by decide +kernel
theorem dX6_areChallengesSound_69 : decode cX6_areChallengesSound 69 = .ok (.ifCond .eq 5, 3) := by decide +kernel
theorem dX6_areChallengesSound_72 : decode cX6_areChallengesSound 72 = .ok (.iconst 0, 1) := by decide +kernel
theorem dX6_areChallengesSound_73 : decode cX6_areChallengesSound 73 = .ok (.ireturn, 1) := by decide +kernel
theorem dX6_areChallengesSound_74 : decode cX6_areChallengesSound 74 = .ok (.iinc 2 1, 3) := by decide +kernel
theorem dX6_areChallengesSound_77 : decode cX6_areChallengesSound 77 = .ok (.goto (-40), 3) := by decide +kernel
theorem dX6_areChallengesSound_80 : decode cX6_areChallengesSound 80 = .ok (.iload_n 1, 1) := by decide +kernel
theorem dX6_areChallengesSound_81 : decode cX6_areChallengesSound 81 = .ok (.aload_n 0, 1) := by decide +kernel
theorem dX6_areChallengesSound_82 : decode cX6_areChallengesSound 82 = .ok (.getfield 68, 3) := by decide +kernel
theorem dX6_areChallengesSound_85 : decode cX6_areChallengesSound 85 = .ok (.if_icmp .ne 7, 3) := by decide +kernel
theorem dX6_areChallengesSound_88 : decode cX6_areChallengesSound 88 = .ok (.iconst 1, 1) := by decide +kernel
theorem dX6_areChallengesSound_89 : decode cX6_areChallengesSound 89 = .ok (.goto 4, 3) := by decide +kernel
theorem dX6_areChallengesSound_92 : decode cX6_areChallengesSound 92 = .ok (.iconst 0, 1) := by decide +kernel
theorem dX6_areChallengesSound_93 : decode cX6_areChallengesSound 93 = .ok (.ireturn, 1) := by decide +kernel
theorem dX6_isOpenTwice_0 : decode cX6_isOpenTwice 0 = .ok (.iconst 0, 1) := by decide +kernel
theorem dX6_isOpenTwice_1 : decode cX6_isOpenTwice 1 = .ok (.istore_n 2, 1) := by decide +kernel
theorem dX6_isOpenTwice_2 : decode cX6_isOpenTwice 2 = .ok (.iload_n 2, 1) := by decide +kernel
theorem dX6_isOpenTwice_3 : decode cX6_isOpenTwice 3 = .ok (.iload_n 1, 1) := by decide +kernel
theorem dX6_isOpenTwice_4 : decode cX6_isOpenTwice 4 = .ok (.if_icmp .ge 26, 3) := by decide +kernel
theorem dX6_isOpenTwice_7 : decode cX6_isOpenTwice 7 = .ok (.aload_n 0, 1) := by decide +kernel
theorem dX6_isOpenTwice_8 : decode cX6_isOpenTwice 8 = .ok (.getfield 41, 3) := by decide +kernel
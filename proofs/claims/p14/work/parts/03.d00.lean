theorem dX0_init_0 : decode cX0_init 0 = .ok (.aload_n 0, 1) := by decide +kernel
theorem dX0_init_1 : decode cX0_init 1 = .ok (.invokespecial 3, 3) := by decide +kernel
theorem dX0_init_4 : decode cX0_init 4 = .ok (.aload_n 0, 1) := by decide +kernel
theorem dX0_init_5 : decode cX0_init 5 = .ok (.iconst 5, 1) := by decide +kernel
theorem dX0_init_6 : decode cX0_init 6 = .ok (.anewarray 9, 3) := by decide +kernel
theorem dX0_init_9 : decode cX0_init 9 = .ok (.putfield 11, 3) := by decide +kernel
theorem dX0_init_12 : decode cX0_init 12 = .ok (.aload_n 0, 1) := by decide +kernel
theorem dX0_init_13 : decode cX0_init 13 = .ok (.iconst 0, 1) := by decide +kernel
theorem dX0_init_14 : decode cX0_init 14 = .ok (.putfield 17, 3) := by decide +kernel
theorem dX0_init_17 : decode cX0_init 17 = .ok (.aload_n 0, 1) := by decide +kernel
theorem dX0_init_18 : decode cX0_init 18 = .ok (.iconst 0, 1) := by decide +kernel
theorem dX0_init_19 : decode cX0_init 19 = .ok (.putfield 21, 3) := by decide +kernel
theorem dX0_init_22 : decode cX0_init 22 = .ok (.iconst 0, 1) := by decide +kernel
theorem dX0_init_23 : decode cX0_init 23 = .ok (.istore_n 1, 1) := by decide +kernel
theorem dX0_init_24 : decode cX0_init 24 = .ok (.iload_n 1, 1) := by decide +kernel
theorem dX0_init_25 : decode cX0_init 25 = .ok (.iconst 5, 1) := by decide +kernel
theorem dX0_init_26 : decode cX0_init 26 = .ok (.if_icmp .ge 22, 3) := by decide +kernel
theorem dX0_init_29 : decode cX0_init 29 = .ok (.aload_n 0, 1) := by decide +kernel
theorem dX0_init_30 : decode cX0_init 30 = .ok (.getfield 11, 3) := by decide +kernel
theorem dX0_init_33 : decode cX0_init 33 = .ok (.iload_n 1, 1) := by decide +kernel
theorem dX0_init_34 : decode cX0_init 34 = .ok (.new 9, 3) := by decide +kernel
theorem dX0_init_37 : decode cX0_init 37 = .ok (.dup, 1) := by decide +kernel
theorem dX0_init_38 : decode cX0_init 38 = .ok (.invokespecial 24, 3) := by decide +kernel
theorem dX0_init_41 : decode cX0_init 41 = .ok (.aastore, 1) := by decide +kernel
theorem dX0_init_42 : decode cX0_init 42 = .ok (.iinc 1 1, 3) := by decide +kernel
theorem dX0_init_45 : decode cX0_init 45 = .ok (.goto (-21), 3) := by decide +kernel
theorem dX0_init_48 : decode cX0_init 48 = .ok (.return_, 1) := by decide +kernel
theorem dX1_init_0 : decode cX1_init 0 = .ok (.aload_n 0, 1) := by decide +kernel
theorem dX1_init_1 : decode cX1_init 1 = .ok (.invokespecial 3, 3) := by decide +kernel
theorem dX1_init_4 : decode cX1_init 4 = .ok (.aload_n 0, 1) := by decide +kernel
theorem dX1_init_5 : decode cX1_init 5 = .ok (.bipush 12, 2) := by decide +kernel
theorem dX1_init_7 : decode cX1_init 7 = .ok (.newarray .int, 2) := by decide +kernel
theorem dX1_init_9 : decode cX1_init 9 = .ok (.putfield 9, 3) := by decide +kernel
theorem dX1_init_12 : decode cX1_init 12 = .ok (.aload_n 0, 1) := by decide +kernel
theorem dX1_init_13 : decode cX1_init 13 = .ok (.bipush 6, 2) := by decide +kernel
theorem dX1_init_15 : decode cX1_init 15 = .ok (.newarray .int, 2) := by decide +kernel
theorem dX1_init_17 : decode cX1_init 17 = .ok (.putfield 15, 3) := by decide +kernel
theorem dX1_init_20 : decode cX1_init 20 = .ok (.aload_n 0, 1) := by decide +kernel
theorem dX1_init_21 : decode cX1_init 21 = .ok (.bipush 24, 2) := by decide +kernel
theorem dX1_init_23 : decode cX1_init 23 = .ok (.newarray .int, 2) := by decide +kernel
theorem dX1_init_25 : decode cX1_init 25 = .ok (.putfield 18, 3) := by decide +kernel
theorem dX1_init_28 : decode cX1_init 28 = .ok (.aload_n 0, 1) := by decide +kernel
theorem dX1_init_29 : decode cX1_init 29 = .ok (.bipush 24, 2) := by decide +kernel
theorem dX1_init_31 : decode cX1_init 31 = .ok (.newarray .int, 2) := by decide +kernel
theorem dX1_init_33 : decode cX1_init 33 = .ok (.putfield 21, 3) := by decide +kernel
theorem dX1_init_36 : decode cX1_init 36 = .ok (.aload_n 0, 1) := by decide +kernel
theorem dX1_init_37 : decode cX1_init 37 = .ok (.iconst 0, 1) := by decide +kernel
theorem dX1_init_38 : decode cX1_init 38 = .ok (.putfield 24, 3) := by decide +kernel
theorem dX1_init_41 : decode cX1_init 41 = .ok (.aload_n 0, 1) := by decide +kernel
theorem dX1_init_42 : decode cX1_init 42 = .ok (.iconst 0, 1) := by decide +kernel
theorem dX1_init_43 : decode cX1_init 43 = .ok (.putfield 28, 3) := by decide +kernel
theorem dX1_init_46 : decode cX1_init 46 = .ok (.aload_n 0, 1) := by decide +kernel
theorem dX1_init_47 : decode cX1_init 47 = .ok (.iconst 0, 1) := by decide +kernel
theorem dX1_init_48 : decode cX1_init 48 = .ok (.putfield 31, 3) := by decide +kernel
theorem dX1_init_51 : decode cX1_init 51 = .ok (.aload_n 0, 1) := by decide +kernel
theorem dX1_init_52 : decode cX1_init 52 = .ok (.iconst 0, 1) := by decide +kernel
theorem dX1_init_53 : decode cX1_init 53 = .ok (.putfield 34, 3) := by decide +kernel
theorem dX1_init_56 : decode cX1_init 56 = .ok (.aload_n 0, 1) := by decide +kernel
theorem dX1_init_57 : decode cX1_init 57 = .ok (.iconst 0, 1) := by decide +kernel
theorem dX1_init_58 : decode cX1_init 58 = .ok (.putfield 37, 3) := by decide +kernel
theorem dX1_init_61 : decode cX1_init 61 = .ok (.return_, 1) := by decide +kernel
theorem dX1_execute_0 : decode cX1_execute 0 = .ok (.aload_n 0, 1) := by decide +kernel
theorem dX1_execute_1 : decode cX1_execute 1 = .ok (.aload_n 1, 1) := by decide +kernel
theorem dX1_execute_2 : decode cX1_execute 2 = .ok (.invokevirtual 40, 3) := by decide +kernel
theorem dX1_execute_5 : decode cX1_execute 5 = .ok (.aload_n 0, 1) := by decide +kernel
theorem dX1_execute_6 : decode cX1_execute 6 = .ok (.iconst 0, 1) := by decide +kernel
theorem dX1_execute_7 : decode cX1_execute 7 = .ok (.putfield 24, 3) := by decide +kernel
theorem dX1_execute_10 : decode cX1_execute 10 = .ok (.aload_n 0, 1) := by decide +kernel
theorem dX1_execute_11 : decode cX1_execute 11 = .ok (.iconst 0, 1) := by decide +kernel
theorem dX1_execute_12 : decode cX1_execute 12 = .ok (.putfield 28, 3) := by decide +kernel
theorem dX1_execute_15 : decode cX1_execute 15 = .ok (.aload_n 0, 1) := by decide +kernel
theorem dX1_execute_16 : decode cX1_execute 16 = .ok (.iconst 0, 1) := by decide +kernel
theorem dX1_execute_17 : decode cX1_execute 17 = .ok (.putfield 31, 3) := by decide +kernel
theorem dX1_execute_20 : decode cX1_execute 20 = .ok (.aload_n 0, 1) := by decide +kernel
theorem dX1_execute_21 : decode cX1_execute 21 = .ok (.iconst 0, 1) := by decide +kernel
theorem dX1_execute_22 : decode cX1_execute 22 = .ok (.putfield 34, 3) := by decide +kernel
theorem dX1_execute_25 : decode cX1_execute 25 = .ok (.aload_n 0, 1) := by decide +kernel
theorem dX1_execute_26 : decode cX1_execute 26 = .ok (.iconst 0, 1) := by decide +kernel
theorem dX1_execute_27 : decode cX1_execute 27 = .ok (.putfield 37, 3) := by decide +kernel
theorem dX1_execute_30 : decode cX1_execute 30 = .ok (.iconst 0, 1) := by decide +kernel
theorem dX1_execute_31 : decode cX1_execute 31 = .ok (.istore_n 3, 1) := by decide +kernel
theorem dX1_execute_32 : decode cX1_execute 32 = .ok (.iload_n 3, 1) := by decide +kernel
theorem dX1_execute_33 : decode cX1_execute 33 = .ok (.sipush 300, 3) := by decide +kernel
theorem dX1_execute_36 : decode cX1_execute 36 = .ok (.if_icmp .gt 76, 3) := by decide +kernel
theorem dX1_execute_39 : decode cX1_execute 39 = .ok (.aload_n 0, 1) := by decide +kernel
theorem dX1_execute_40 : decode cX1_execute 40 = .ok (.getfield 37, 3) := by decide +kernel
theorem dX1_execute_43 : decode cX1_execute 43 = .ok (.aload_n 1, 1) := by decide +kernel
theorem dX1_execute_44 : decode cX1_execute 44 = .ok (.getfield 44, 3) := by decide +kernel
theorem dX1_execute_47 : decode cX1_execute 47 = .ok (.if_icmp .ge 65, 3) := by decide +kernel
theorem dX1_execute_50 : decode cX1_execute 50 = .ok (.aload_n 1, 1) := by decide +kernel
theorem dX1_execute_51 : decode cX1_execute 51 = .ok (.getfield 49, 3) := by decide +kernel
theorem dX1_execute_54 : decode cX1_execute 54 = .ok (.aload_n 0, 1) := by decide +kernel
theorem dX1_execute_55 : decode cX1_execute 55 = .ok (.getfield 37, 3) := by decide +kernel
theorem dX1_execute_58 : decode cX1_execute 58 = .ok (.caload, 1) := by decide +kernel
theorem dX1_execute_59 : decode cX1_execute 59 = .ok (.istore 4, 2) := by decide +kernel
theorem dX1_execute_61 : decode cX1_execute 61 = .ok (.aload_n 0, 1) := by decide +kernel
theorem dX1_execute_62 : decode cX1_execute 62 = .ok (.iload 4, 2) := by decide +kernel
theorem dX1_execute_64 : decode cX1_execute 64 = .ok (.aload_n 2, 1) := by decide +kernel
theorem dX1_execute_65 : decode cX1_execute 65 = .ok (.invokevirtual 53, 3) := by decide +kernel
theorem dX1_execute_68 : decode cX1_execute 68 = .ok (.istore 5, 2) := by decide +kernel
theorem dX1_execute_70 : decode cX1_execute 70 = .ok (.iload 5, 2) := by decide +kernel
theorem dX1_execute_72 : decode cX1_execute 72 = .ok (.bipush 32, 2) := by decide +kernel
theorem dX1_execute_74 : decode cX1_execute 74 = .ok (.if_icmp .eq 6, 3) := by decide +kernel
theorem dX1_execute_77 : decode cX1_execute 77 = .ok (.iload 5, 2) := by decide +kernel
theorem dX1_execute_79 : decode cX1_execute 79 = .ok (.ireturn, 1) := by decide +kernel
theorem dX1_execute_80 : decode cX1_execute 80 = .ok (.aload_n 0, 1) := by decide +kernel
theorem dX1_execute_81 : decode cX1_execute 81 = .ok (.iload 4, 2) := by decide +kernel
theorem dX1_execute_83 : decode cX1_execute 83 = .ok (.aload_n 1, 1) := by decide +kernel
theorem dX1_execute_84 : decode cX1_execute 84 = .ok (.getfield 57, 3) := by decide +kernel
theorem dX1_execute_87 : decode cX1_execute 87 = .ok (.aload_n 0, 1) := by decide +kernel
theorem dX1_execute_88 : decode cX1_execute 88 = .ok (.getfield 37, 3) := by decide +kernel
theorem dX1_execute_91 : decode cX1_execute 91 = .ok (.iaload, 1) := by decide +kernel
theorem dX1_execute_92 : decode cX1_execute 92 = .ok (.aload_n 2, 1) := by decide +kernel
theorem dX1_execute_93 : decode cX1_execute 93 = .ok (.invokevirtual 60, 3) := by decide +kernel
theorem dX1_execute_96 : decode cX1_execute 96 = .ok (.aload_n 0, 1) := by decide +kernel
theorem dX1_execute_97 : decode cX1_execute 97 = .ok (.dup, 1) := by decide +kernel
theorem dX1_execute_98 : decode cX1_execute 98 = .ok (.getfield 31, 3) := by decide +kernel
theorem dX1_execute_101 : decode cX1_execute 101 = .ok (.iconst 1, 1) := by decide +kernel
theorem dX1_execute_102 : decode cX1_execute 102 = .ok (.iadd, 1) := by decide +kernel
theorem dX1_execute_103 : decode cX1_execute 103 = .ok (.putfield 31, 3) := by decide +kernel
theorem dX1_execute_106 : decode cX1_execute 106 = .ok (.iinc 3 1, 3) := by decide +kernel
theorem dX1_execute_109 : decode cX1_execute 109 = .ok (.goto (-77), 3) := by decide +kernel
theorem dX1_execute_112 : decode cX1_execute 112 = .ok (.aload_n 0, 1) := by decide +kernel
theorem dX1_execute_113 : decode cX1_execute 113 = .ok (.aload_n 2, 1) := by decide +kernel
theorem dX1_execute_114 : decode cX1_execute 114 = .ok (.invokevirtual 64, 3) := by decide +kernel
theorem dX1_execute_117 : decode cX1_execute 117 = .ok (.ifCond .eq 8, 3) := by decide +kernel
theorem dX1_execute_120 : decode cX1_execute 120 = .ok (.bipush 111, 2) := by decide +kernel
theorem dX1_execute_122 : decode cX1_execute 122 = .ok (.goto 5, 3) := by decide +kernel
theorem dX1_execute_125 : decode cX1_execute 125 = .ok (.bipush 119, 2) := by decide +kernel
theorem dX1_execute_127 : decode cX1_execute 127 = .ok (.ireturn, 1) := by decide +kernel
theorem dX1_pairBrackets_0 : decode cX1_pairBrackets 0 = .ok (.iconst 0, 1) := by decide +kernel
theorem dX1_pairBrackets_1 : decode cX1_pairBrackets 1 = .ok (.istore_n 2, 1) := by decide +kernel
theorem dX1_pairBrackets_2 : decode cX1_pairBrackets 2 = .ok (.iconst 0, 1) := by decide +kernel
theorem dX1_pairBrackets_3 : decode cX1_pairBrackets 3 = .ok (.istore_n 3, 1) := by decide +kernel
theorem dX1_pairBrackets_4 : decode cX1_pairBrackets 4 = .ok (.iload_n 3, 1) := by decide +kernel
theorem dX1_pairBrackets_5 : decode cX1_pairBrackets 5 = .ok (.aload_n 1, 1) := by decide +kernel
theorem dX1_pairBrackets_6 : decode cX1_pairBrackets 6 = .ok (.getfield 44, 3) := by decide +kernel
theorem dX1_pairBrackets_9 : decode cX1_pairBrackets 9 = .ok (.if_icmp .ge 82, 3) := by decide +kernel
theorem dX1_pairBrackets_12 : decode cX1_pairBrackets 12 = .ok (.aload_n 0, 1) := by decide +kernel
theorem dX1_pairBrackets_13 : decode cX1_pairBrackets 13 = .ok (.getfield 18, 3) := by decide +kernel
theorem dX1_pairBrackets_16 : decode cX1_pairBrackets 16 = .ok (.iload_n 3, 1) := by decide +kernel
theorem dX1_pairBrackets_17 : decode cX1_pairBrackets 17 = .ok (.iload_n 3, 1) := by decide +kernel
theorem dX1_pairBrackets_18 : decode cX1_pairBrackets 18 = .ok (.iastore, 1) := by decide +kernel
theorem dX1_pairBrackets_19 : decode cX1_pairBrackets 19 = .ok (.aload_n 1, 1) := by decide +kernel
theorem dX1_pairBrackets_20 : decode cX1_pairBrackets 20 = .ok (.getfield 49, 3) := by decide +kernel
theorem dX1_pairBrackets_23 : decode cX1_pairBrackets 23 = .ok (.iload_n 3, 1) := by decide +kernel
theorem dX1_pairBrackets_24 : decode cX1_pairBrackets 24 = .ok (.caload, 1) := by decide +kernel
theorem dX1_pairBrackets_25 : decode cX1_pairBrackets 25 = .ok (.bipush 91, 2) := by decide +kernel
theorem dX1_pairBrackets_27 : decode cX1_pairBrackets 27 = .ok (.if_icmp .ne 16, 3) := by decide +kernel
theorem dX1_pairBrackets_30 : decode cX1_pairBrackets 30 = .ok (.aload_n 0, 1) := by decide +kernel
theorem dX1_pairBrackets_31 : decode cX1_pairBrackets 31 = .ok (.getfield 21, 3) := by decide +kernel
theorem dX1_pairBrackets_34 : decode cX1_pairBrackets 34 = .ok (.iload_n 2, 1) := by decide +kernel
theorem dX1_pairBrackets_35 : decode cX1_pairBrackets 35 = .ok (.iload_n 3, 1) := by decide +kernel
theorem dX1_pairBrackets_36 : decode cX1_pairBrackets 36 = .ok (.iastore, 1) := by decide +kernel
theorem dX1_pairBrackets_37 : decode cX1_pairBrackets 37 = .ok (.iinc 2 1, 3) := by decide +kernel
theorem dX1_pairBrackets_40 : decode cX1_pairBrackets 40 = .ok (.goto 45, 3) := by decide +kernel
theorem dX1_pairBrackets_43 : decode cX1_pairBrackets 43 = .ok (.aload_n 1, 1) := by decide +kernel
theorem dX1_pairBrackets_44 : decode cX1_pairBrackets 44 = .ok (.getfield 49, 3) := by decide +kernel
theorem dX1_pairBrackets_47 : decode cX1_pairBrackets 47 = .ok (.iload_n 3, 1) := by decide +kernel
theorem dX1_pairBrackets_48 : decode cX1_pairBrackets 48 = .ok (.caload, 1) := by decide +kernel
theorem dX1_pairBrackets_49 : decode cX1_pairBrackets 49 = .ok (.bipush 93, 2) := by decide +kernel
theorem dX1_pairBrackets_51 : decode cX1_pairBrackets 51 = .ok (.if_icmp .ne 34, 3) := by decide +kernel
theorem dX1_pairBrackets_54 : decode cX1_pairBrackets 54 = .ok (.iload_n 2, 1) := by decide +kernel
theorem dX1_pairBrackets_55 : decode cX1_pairBrackets 55 = .ok (.ifCond .le 30, 3) := by decide +kernel
theorem dX1_pairBrackets_58 : decode cX1_pairBrackets 58 = .ok (.iinc 2 (-1), 3) := by decide +kernel
theorem dX1_pairBrackets_61 : decode cX1_pairBrackets 61 = .ok (.aload_n 0, 1) := by decide +kernel
theorem dX1_pairBrackets_62 : decode cX1_pairBrackets 62 = .ok (.getfield 18, 3) := by decide +kernel
theorem dX1_pairBrackets_65 : decode cX1_pairBrackets 65 = .ok (.iload_n 3, 1) := by decide +kernel
theorem dX1_pairBrackets_66 : decode cX1_pairBrackets 66 = .ok (.aload_n 0, 1) := by decide +kernel
theorem dX1_pairBrackets_67 : decode cX1_pairBrackets 67 = .ok (.getfield 21, 3) := by decide +kernel
theorem dX1_pairBrackets_70 : decode cX1_pairBrackets 70 = .ok (.iload_n 2, 1) := by decide +kernel
theorem dX1_pairBrackets_71 : decode cX1_pairBrackets 71 = .ok (.iaload, 1) := by decide +kernel
theorem dX1_pairBrackets_72 : decode cX1_pairBrackets 72 = .ok (.iastore, 1) := by decide +kernel
theorem dX1_pairBrackets_73 : decode cX1_pairBrackets 73 = .ok (.aload_n 0, 1) := by decide +kernel
theorem dX1_pairBrackets_74 : decode cX1_pairBrackets 74 = .ok (.getfield 18, 3) := by decide +kernel
theorem dX1_pairBrackets_77 : decode cX1_pairBrackets 77 = .ok (.aload_n 0, 1) := by decide +kernel
theorem dX1_pairBrackets_78 : decode cX1_pairBrackets 78 = .ok (.getfield 21, 3) := by decide +kernel
theorem dX1_pairBrackets_81 : decode cX1_pairBrackets 81 = .ok (.iload_n 2, 1) := by decide +kernel
theorem dX1_pairBrackets_82 : decode cX1_pairBrackets 82 = .ok (.iaload, 1) := by decide +kernel
theorem dX1_pairBrackets_83 : decode cX1_pairBrackets 83 = .ok (.iload_n 3, 1) := by decide +kernel
theorem dX1_pairBrackets_84 : decode cX1_pairBrackets 84 = .ok (.iastore, 1) := by decide +kernel
theorem dX1_pairBrackets_85 : decode cX1_pairBrackets 85 = .ok (.iinc 3 1, 3) := by decide +kernel
theorem dX1_pairBrackets_88 : decode cX1_pairBrackets 88 = .ok (.goto (-84), 3) := by decide +kernel
theorem dX1_pairBrackets_91 : decode cX1_pairBrackets 91 = .ok (.return_, 1) := by decide +kernel
theorem dX1_errorOf_0 : decode cX1_errorOf 0 = .ok (.aload_n 0, 1) := by decide +kernel
theorem dX1_errorOf_1 : decode cX1_errorOf 1 = .ok (.getfield 31, 3) := by decide +kernel
theorem dX1_errorOf_4 : decode cX1_errorOf 4 = .ok (.sipush 300, 3) := by decide +kernel
theorem dX1_errorOf_7 : decode cX1_errorOf 7 = .ok (.if_icmp .lt 6, 3) := by decide +kernel
theorem dX1_errorOf_10 : decode cX1_errorOf 10 = .ok (.bipush 116, 2) := by decide +kernel
theorem dX1_errorOf_12 : decode cX1_errorOf 12 = .ok (.ireturn, 1) := by decide +kernel
theorem dX1_errorOf_13 : decode cX1_errorOf 13 = .ok (.aload_n 0, 1) := by decide +kernel
theorem dX1_errorOf_14 : decode cX1_errorOf 14 = .ok (.getfield 24, 3) := by decide +kernel
theorem dX1_errorOf_17 : decode cX1_errorOf 17 = .ok (.iload_n 1, 1) := by decide +kernel
theorem dX1_errorOf_18 : decode cX1_errorOf 18 = .ok (.invokestatic 68, 3) := by decide +kernel
theorem dX1_errorOf_21 : decode cX1_errorOf 21 = .ok (.if_icmp .ge 6, 3) := by decide +kernel
theorem dX1_errorOf_24 : decode cX1_errorOf 24 = .ok (.bipush 117, 2) := by decide +kernel
theorem dX1_errorOf_26 : decode cX1_errorOf 26 = .ok (.ireturn, 1) := by decide +kernel
theorem dX1_errorOf_27 : decode cX1_errorOf 27 = .ok (.iload_n 1, 1) := by decide +kernel
theorem dX1_errorOf_28 : decode cX1_errorOf 28 = .ok (.bipush 105, 2) := by decide +kernel
theorem dX1_errorOf_30 : decode cX1_errorOf 30 = .ok (.if_icmp .ne 17, 3) := by decide +kernel
theorem dX1_errorOf_33 : decode cX1_errorOf 33 = .ok (.aload_n 0, 1) := by decide +kernel
theorem dX1_errorOf_34 : decode cX1_errorOf 34 = .ok (.getfield 34, 3) := by decide +kernel
theorem dX1_errorOf_37 : decode cX1_errorOf 37 = .ok (.aload_n 2, 1) := by decide +kernel
theorem dX1_errorOf_38 : decode cX1_errorOf 38 = .ok (.getfield 72, 3) := by decide +kernel
theorem dX1_errorOf_41 : decode cX1_errorOf 41 = .ok (.if_icmp .lt 6, 3) := by decide +kernel
theorem dX1_errorOf_44 : decode cX1_errorOf 44 = .ok (.bipush 101, 2) := by decide +kernel
theorem dX1_errorOf_46 : decode cX1_errorOf 46 = .ok (.ireturn, 1) := by decide +kernel
theorem dX1_errorOf_47 : decode cX1_errorOf 47 = .ok (.iload_n 1, 1) := by decide +kernel
theorem dX1_errorOf_48 : decode cX1_errorOf 48 = .ok (.bipush 37, 2) := by decide +kernel
theorem dX1_errorOf_50 : decode cX1_errorOf 50 = .ok (.if_icmp .ne 14, 3) := by decide +kernel
theorem dX1_errorOf_53 : decode cX1_errorOf 53 = .ok (.aload_n 0, 1) := by decide +kernel
theorem dX1_errorOf_54 : decode cX1_errorOf 54 = .ok (.iconst 0, 1) := by decide +kernel
theorem dX1_errorOf_55 : decode cX1_errorOf 55 = .ok (.invokevirtual 77, 3) := by decide +kernel
theorem dX1_errorOf_58 : decode cX1_errorOf 58 = .ok (.ifCond .ne 6, 3) := by decide +kernel
theorem dX1_errorOf_61 : decode cX1_errorOf 61 = .ok (.bipush 122, 2) := by decide +kernel
theorem dX1_errorOf_63 : decode cX1_errorOf 63 = .ok (.ireturn, 1) := by decide +kernel
theorem dX1_errorOf_64 : decode cX1_errorOf 64 = .ok (.iload_n 1, 1) := by decide +kernel
theorem dX1_errorOf_65 : decode cX1_errorOf 65 = .ok (.bipush 110, 2) := by decide +kernel
theorem dX1_errorOf_67 : decode cX1_errorOf 67 = .ok (.if_icmp .eq 15, 3) := by decide +kernel
theorem dX1_errorOf_70 : decode cX1_errorOf 70 = .ok (.iload_n 1, 1) := by decide +kernel
theorem dX1_errorOf_71 : decode cX1_errorOf 71 = .ok (.bipush 105, 2) := by decide +kernel
theorem dX1_errorOf_73 : decode cX1_errorOf 73 = .ok (.if_icmp .eq 9, 3) := by decide +kernel
theorem dX1_errorOf_76 : decode cX1_errorOf 76 = .ok (.iload_n 1, 1) := by decide +kernel
theorem dX1_errorOf_77 : decode cX1_errorOf 77 = .ok (.bipush 100, 2) := by decide +kernel
theorem dX1_errorOf_79 : decode cX1_errorOf 79 = .ok (.if_icmp .ne 7, 3) := by decide +kernel
theorem dX1_errorOf_82 : decode cX1_errorOf 82 = .ok (.iconst 1, 1) := by decide +kernel
theorem dX1_errorOf_83 : decode cX1_errorOf 83 = .ok (.goto 4, 3) := by decide +kernel
theorem dX1_errorOf_86 : decode cX1_errorOf 86 = .ok (.iconst 0, 1) := by decide +kernel
theorem dX1_errorOf_87 : decode cX1_errorOf 87 = .ok (.istore_n 3, 1) := by decide +kernel
theorem dX1_errorOf_88 : decode cX1_errorOf 88 = .ok (.iload_n 3, 1) := by decide +kernel
theorem dX1_errorOf_89 : decode cX1_errorOf 89 = .ok (.ifCond .eq 15, 3) := by decide +kernel
theorem dX1_errorOf_92 : decode cX1_errorOf 92 = .ok (.aload_n 0, 1) := by decide +kernel
theorem dX1_errorOf_93 : decode cX1_errorOf 93 = .ok (.getfield 24, 3) := by decide +kernel
theorem dX1_errorOf_96 : decode cX1_errorOf 96 = .ok (.bipush 12, 2) := by decide +kernel
theorem dX1_errorOf_98 : decode cX1_errorOf 98 = .ok (.if_icmp .lt 6, 3) := by decide +kernel
theorem dX1_errorOf_101 : decode cX1_errorOf 101 = .ok (.bipush 118, 2) := by decide +kernel
theorem dX1_errorOf_103 : decode cX1_errorOf 103 = .ok (.ireturn, 1) := by decide +kernel
theorem dX1_errorOf_104 : decode cX1_errorOf 104 = .ok (.iload_n 1, 1) := by decide +kernel
theorem dX1_errorOf_105 : decode cX1_errorOf 105 = .ok (.bipush 111, 2) := by decide +kernel
theorem dX1_errorOf_107 : decode cX1_errorOf 107 = .ok (.if_icmp .ne 15, 3) := by decide +kernel
theorem dX1_errorOf_110 : decode cX1_errorOf 110 = .ok (.aload_n 0, 1) := by decide +kernel
theorem dX1_errorOf_111 : decode cX1_errorOf 111 = .ok (.getfield 28, 3) := by decide +kernel
theorem dX1_errorOf_114 : decode cX1_errorOf 114 = .ok (.bipush 6, 2) := by decide +kernel
theorem dX1_errorOf_116 : decode cX1_errorOf 116 = .ok (.if_icmp .lt 6, 3) := by decide +kernel
theorem dX1_errorOf_119 : decode cX1_errorOf 119 = .ok (.bipush 108, 2) := by decide +kernel
theorem dX1_errorOf_121 : decode cX1_errorOf 121 = .ok (.ireturn, 1) := by decide +kernel
theorem dX1_errorOf_122 : decode cX1_errorOf 122 = .ok (.bipush 32, 2) := by decide +kernel
theorem dX1_errorOf_124 : decode cX1_errorOf 124 = .ok (.ireturn, 1) := by decide +kernel
theorem dX1_neededBy_0 : decode cX1_neededBy 0 = .ok (.iload_n 0, 1) := by decide +kernel
theorem dX1_neededBy_1 : decode cX1_neededBy 1 = .ok (.tableswitch 107 91 112 #[105, 107, 105, 107, 107, 107, 107, 107, 107, 105, 107, 107, 107, 107, 103, 107, 107, 107, 107, 103, 105, 105], 103) := by decide +kernel
theorem dX1_neededBy_104 : decode cX1_neededBy 104 = .ok (.iconst 0, 1) := by decide +kernel
theorem dX1_neededBy_105 : decode cX1_neededBy 105 = .ok (.ireturn, 1) := by decide +kernel
theorem dX1_neededBy_106 : decode cX1_neededBy 106 = .ok (.iconst 1, 1) := by decide +kernel
theorem dX1_neededBy_107 : decode cX1_neededBy 107 = .ok (.ireturn, 1) := by decide +kernel
theorem dX1_neededBy_108 : decode cX1_neededBy 108 = .ok (.iconst 2, 1) := by decide +kernel
theorem dX1_neededBy_109 : decode cX1_neededBy 109 = .ok (.ireturn, 1) := by decide +kernel
theorem dX1_perform_0 : decode cX1_perform 0 = .ok (.aload_n 0, 1) := by decide +kernel
theorem dX1_perform_1 : decode cX1_perform 1 = .ok (.iconst 0, 1) := by decide +kernel
theorem dX1_perform_2 : decode cX1_perform 2 = .ok (.invokevirtual 77, 3) := by decide +kernel
theorem dX1_perform_5 : decode cX1_perform 5 = .ok (.istore 4, 2) := by decide +kernel
theorem dX1_perform_7 : decode cX1_perform 7 = .ok (.aload_n 0, 1) := by decide +kernel
theorem dX1_perform_8 : decode cX1_perform 8 = .ok (.iconst 1, 1) := by decide +kernel
theorem dX1_perform_9 : decode cX1_perform 9 = .ok (.invokevirtual 77, 3) := by decide +kernel
theorem dX1_perform_12 : decode cX1_perform 12 = .ok (.istore 5, 2) := by decide +kernel
theorem dX1_perform_14 : decode cX1_perform 14 = .ok (.aload_n 0, 1) := by decide +kernel
theorem dX1_perform_15 : decode cX1_perform 15 = .ok (.getfield 37, 3) := by decide +kernel
theorem dX1_perform_18 : decode cX1_perform 18 = .ok (.iconst 1, 1) := by decide +kernel
theorem dX1_perform_19 : decode cX1_perform 19 = .ok (.iadd, 1) := by decide +kernel
theorem dX1_perform_20 : decode cX1_perform 20 = .ok (.istore 6, 2) := by decide +kernel
theorem dX1_perform_22 : decode cX1_perform 22 = .ok (.iload_n 1, 1) := by decide +kernel
theorem dX1_perform_23 : decode cX1_perform 23 = .ok (.lookupswitch 287 #[(37, 166), (42, 153), (43, 127), (45, 140), (91, 235), (93, 261), (100, 188), (105, 114), (110, 105), (111, 222), (112, 215), (115, 198)], 105) := by decide +kernel
theorem dX1_perform_128 : decode cX1_perform 128 = .ok (.aload_n 0, 1) := by decide +kernel
theorem dX1_perform_129 : decode cX1_perform 129 = .ok (.iconst 0, 1) := by decide +kernel
theorem dX1_perform_130 : decode cX1_perform 130 = .ok (.iload_n 2, 1) := by decide +kernel
theorem dX1_perform_131 : decode cX1_perform 131 = .ok (.invokevirtual 81, 3) := by decide +kernel
theorem dX1_perform_134 : decode cX1_perform 134 = .ok (.goto 176, 3) := by decide +kernel
theorem dX1_perform_137 : decode cX1_perform 137 = .ok (.aload_n 0, 1) := by decide +kernel
theorem dX1_perform_138 : decode cX1_perform 138 = .ok (.iconst 0, 1) := by decide +kernel
theorem dX1_perform_139 : decode cX1_perform 139 = .ok (.aload_n 0, 1) := by decide +kernel
theorem dX1_perform_140 : decode cX1_perform 140 = .ok (.aload_n 3, 1) := by decide +kernel
theorem dX1_perform_141 : decode cX1_perform 141 = .ok (.invokevirtual 85, 3) := by decide +kernel
theorem dX1_perform_144 : decode cX1_perform 144 = .ok (.invokevirtual 81, 3) := by decide +kernel
theorem dX1_perform_147 : decode cX1_perform 147 = .ok (.goto 163, 3) := by decide +kernel
theorem dX1_perform_150 : decode cX1_perform 150 = .ok (.aload_n 0, 1) := by decide +kernel
theorem dX1_perform_151 : decode cX1_perform 151 = .ok (.iconst 2, 1) := by decide +kernel
theorem dX1_perform_152 : decode cX1_perform 152 = .ok (.iload 5, 2) := by decide +kernel
theorem dX1_perform_154 : decode cX1_perform 154 = .ok (.iload 4, 2) := by decide +kernel
theorem dX1_perform_156 : decode cX1_perform 156 = .ok (.iadd, 1) := by decide +kernel
theorem dX1_perform_157 : decode cX1_perform 157 = .ok (.invokevirtual 81, 3) := by decide +kernel
theorem dX1_perform_160 : decode cX1_perform 160 = .ok (.goto 150, 3) := by decide +kernel
theorem dX1_perform_163 : decode cX1_perform 163 = .ok (.aload_n 0, 1) := by decide +kernel
theorem dX1_perform_164 : decode cX1_perform 164 = .ok (.iconst 2, 1) := by decide +kernel
theorem dX1_perform_165 : decode cX1_perform 165 = .ok (.iload 5, 2) := by decide +kernel
theorem dX1_perform_167 : decode cX1_perform 167 = .ok (.iload 4, 2) := by decide +kernel
theorem dX1_perform_169 : decode cX1_perform 169 = .ok (.isub, 1) := by decide +kernel
theorem dX1_perform_170 : decode cX1_perform 170 = .ok (.invokevirtual 81, 3) := by decide +kernel
theorem dX1_perform_173 : decode cX1_perform 173 = .ok (.goto 137, 3) := by decide +kernel
theorem dX1_perform_176 : decode cX1_perform 176 = .ok (.aload_n 0, 1) := by decide +kernel
theorem dX1_perform_177 : decode cX1_perform 177 = .ok (.iconst 2, 1) := by decide +kernel
theorem dX1_perform_178 : decode cX1_perform 178 = .ok (.iload 5, 2) := by decide +kernel
theorem dX1_perform_180 : decode cX1_perform 180 = .ok (.iload 4, 2) := by decide +kernel
theorem dX1_perform_182 : decode cX1_perform 182 = .ok (.imul, 1) := by decide +kernel
theorem dX1_perform_183 : decode cX1_perform 183 = .ok (.invokevirtual 81, 3) := by decide +kernel
theorem dX1_perform_186 : decode cX1_perform 186 = .ok (.goto 124, 3) := by decide +kernel
theorem dX1_perform_189 : decode cX1_perform 189 = .ok (.aload_n 0, 1) := by decide +kernel
theorem dX1_perform_190 : decode cX1_perform 190 = .ok (.iconst 2, 1) := by decide +kernel
theorem dX1_perform_191 : decode cX1_perform 191 = .ok (.iload 4, 2) := by decide +kernel
theorem dX1_perform_193 : decode cX1_perform 193 = .ok (.ifCond .ne 7, 3) := by decide +kernel
theorem dX1_perform_196 : decode cX1_perform 196 = .ok (.iconst 0, 1) := by decide +kernel
theorem dX1_perform_197 : decode cX1_perform 197 = .ok (.goto 8, 3) := by decide +kernel
theorem dX1_perform_200 : decode cX1_perform 200 = .ok (.iload 5, 2) := by decide +kernel
theorem dX1_perform_202 : decode cX1_perform 202 = .ok (.iload 4, 2) := by decide +kernel
theorem dX1_perform_204 : decode cX1_perform 204 = .ok (.irem, 1) := by decide +kernel
theorem dX1_perform_205 : decode cX1_perform 205 = .ok (.invokevirtual 81, 3) := by decide +kernel
theorem dX1_perform_208 : decode cX1_perform 208 = .ok (.goto 102, 3) := by decide +kernel
theorem dX1_perform_211 : decode cX1_perform 211 = .ok (.aload_n 0, 1) := by decide +kernel
theorem dX1_perform_212 : decode cX1_perform 212 = .ok (.iconst 0, 1) := by decide +kernel
theorem dX1_perform_213 : decode cX1_perform 213 = .ok (.iload 4, 2) := by decide +kernel
theorem dX1_perform_215 : decode cX1_perform 215 = .ok (.invokevirtual 81, 3) := by decide +kernel
theorem dX1_perform_218 : decode cX1_perform 218 = .ok (.goto 92, 3) := by decide +kernel
theorem dX1_perform_221 : decode cX1_perform 221 = .ok (.aload_n 0, 1) := by decide +kernel
theorem dX1_perform_222 : decode cX1_perform 222 = .ok (.iconst 2, 1) := by decide +kernel
theorem dX1_perform_223 : decode cX1_perform 223 = .ok (.iload 4, 2) := by decide +kernel
theorem dX1_perform_225 : decode cX1_perform 225 = .ok (.invokevirtual 81, 3) := by decide +kernel
theorem dX1_perform_228 : decode cX1_perform 228 = .ok (.aload_n 0, 1) := by decide +kernel
theorem dX1_perform_229 : decode cX1_perform 229 = .ok (.iconst 0, 1) := by decide +kernel
theorem dX1_perform_230 : decode cX1_perform 230 = .ok (.iload 5, 2) := by decide +kernel
theorem dX1_perform_232 : decode cX1_perform 232 = .ok (.invokevirtual 81, 3) := by decide +kernel
theorem dX1_perform_235 : decode cX1_perform 235 = .ok (.goto 75, 3) := by decide +kernel
theorem dX1_perform_238 : decode cX1_perform 238 = .ok (.aload_n 0, 1) := by decide +kernel
theorem dX1_perform_239 : decode cX1_perform 239 = .ok (.invokevirtual 89, 3) := by decide +kernel
theorem dX1_perform_242 : decode cX1_perform 242 = .ok (.goto 68, 3) := by decide +kernel
theorem dX1_perform_245 : decode cX1_perform 245 = .ok (.aload_n 0, 1) := by decide +kernel
theorem dX1_perform_246 : decode cX1_perform 246 = .ok (.invokevirtual 89, 3) := by decide +kernel
theorem dX1_perform_249 : decode cX1_perform 249 = .ok (.aload_n 0, 1) := by decide +kernel
theorem dX1_perform_250 : decode cX1_perform 250 = .ok (.iload 4, 2) := by decide +kernel
theorem dX1_perform_252 : decode cX1_perform 252 = .ok (.invokevirtual 92, 3) := by decide +kernel
theorem dX1_perform_255 : decode cX1_perform 255 = .ok (.goto 55, 3) := by decide +kernel
theorem dX1_perform_258 : decode cX1_perform 258 = .ok (.iload 4, 2) := by decide +kernel
theorem dX1_perform_260 : decode cX1_perform 260 = .ok (.ifCond .ne 17, 3) := by decide +kernel
theorem dX1_perform_263 : decode cX1_perform 263 = .ok (.aload_n 0, 1) := by decide +kernel
theorem dX1_perform_264 : decode cX1_perform 264 = .ok (.getfield 18, 3) := by decide +kernel
theorem dX1_perform_267 : decode cX1_perform 267 = .ok (.aload_n 0, 1) := by decide +kernel
theorem dX1_perform_268 : decode cX1_perform 268 = .ok (.getfield 37, 3) := by decide +kernel
theorem dX1_perform_271 : decode cX1_perform 271 = .ok (.iaload, 1) := by decide +kernel
theorem dX1_perform_272 : decode cX1_perform 272 = .ok (.iconst 1, 1) := by decide +kernel
theorem dX1_perform_273 : decode cX1_perform 273 = .ok (.iadd, 1) := by decide +kernel
theorem dX1_perform_274 : decode cX1_perform 274 = .ok (.goto 5, 3) := by decide +kernel
theorem dX1_perform_277 : decode cX1_perform 277 = .ok (.iload 6, 2) := by decide +kernel
theorem dX1_perform_279 : decode cX1_perform 279 = .ok (.istore 6, 2) := by decide +kernel
theorem dX1_perform_281 : decode cX1_perform 281 = .ok (.goto 29, 3) := by decide +kernel
theorem dX1_perform_284 : decode cX1_perform 284 = .ok (.iload 4, 2) := by decide +kernel
theorem dX1_perform_286 : decode cX1_perform 286 = .ok (.ifCond .eq 17, 3) := by decide +kernel
theorem dX1_perform_289 : decode cX1_perform 289 = .ok (.aload_n 0, 1) := by decide +kernel
theorem dX1_perform_290 : decode cX1_perform 290 = .ok (.getfield 18, 3) := by decide +kernel
theorem dX1_perform_293 : decode cX1_perform 293 = .ok (.aload_n 0, 1) := by decide +kernel
theorem dX1_perform_294 : decode cX1_perform 294 = .ok (.getfield 37, 3) := by decide +kernel
theorem dX1_perform_297 : decode cX1_perform 297 = .ok (.iaload, 1) := by decide +kernel
theorem dX1_perform_298 : decode cX1_perform 298 = .ok (.iconst 1, 1) := by decide +kernel
theorem dX1_perform_299 : decode cX1_perform 299 = .ok (.iadd, 1) := by decide +kernel
theorem dX1_perform_300 : decode cX1_perform 300 = .ok (.goto 5, 3) := by decide +kernel
theorem dX1_perform_303 : decode cX1_perform 303 = .ok (.iload 6, 2) := by decide +kernel
theorem dX1_perform_305 : decode cX1_perform 305 = .ok (.istore 6, 2) := by decide +kernel
theorem dX1_perform_307 : decode cX1_perform 307 = .ok (.goto 3, 3) := by decide +kernel
theorem dX1_perform_310 : decode cX1_perform 310 = .ok (.aload_n 0, 1) := by decide +kernel
theorem dX1_perform_311 : decode cX1_perform 311 = .ok (.iload 6, 2) := by decide +kernel
theorem dX1_perform_313 : decode cX1_perform 313 = .ok (.putfield 37, 3) := by decide +kernel
theorem dX1_perform_316 : decode cX1_perform 316 = .ok (.return_, 1) := by decide +kernel
theorem dX1_numberUnder_0 : decode cX1_numberUnder 0 = .ok (.aload_n 0, 1) := by decide +kernel
theorem dX1_numberUnder_1 : decode cX1_numberUnder 1 = .ok (.getfield 24, 3) := by decide +kernel
theorem dX1_numberUnder_4 : decode cX1_numberUnder 4 = .ok (.iconst 1, 1) := by decide +kernel
theorem dX1_numberUnder_5 : decode cX1_numberUnder 5 = .ok (.isub, 1) := by decide +kernel
theorem dX1_numberUnder_6 : decode cX1_numberUnder 6 = .ok (.iload_n 1, 1) := by decide +kernel
theorem dX1_numberUnder_7 : decode cX1_numberUnder 7 = .ok (.isub, 1) := by decide +kernel
theorem dX1_numberUnder_8 : decode cX1_numberUnder 8 = .ok (.istore_n 2, 1) := by decide +kernel
theorem dX1_numberUnder_9 : decode cX1_numberUnder 9 = .ok (.iload_n 2, 1) := by decide +kernel
theorem dX1_numberUnder_10 : decode cX1_numberUnder 10 = .ok (.ifCond .lt 18, 3) := by decide +kernel
theorem dX1_numberUnder_13 : decode cX1_numberUnder 13 = .ok (.iload_n 2, 1) := by decide +kernel
theorem dX1_numberUnder_14 : decode cX1_numberUnder 14 = .ok (.bipush 12, 2) := by decide +kernel
theorem dX1_numberUnder_16 : decode cX1_numberUnder 16 = .ok (.if_icmp .ge 12, 3) := by decide +kernel
theorem dX1_numberUnder_19 : decode cX1_numberUnder 19 = .ok (.aload_n 0, 1) := by decide +kernel
theorem dX1_numberUnder_20 : decode cX1_numberUnder 20 = .ok (.getfield 9, 3) := by decide +kernel
theorem dX1_numberUnder_23 : decode cX1_numberUnder 23 = .ok (.iload_n 2, 1) := by decide +kernel
theorem dX1_numberUnder_24 : decode cX1_numberUnder 24 = .ok (.iaload, 1) := by decide +kernel
theorem dX1_numberUnder_25 : decode cX1_numberUnder 25 = .ok (.goto 4, 3) := by decide +kernel
theorem dX1_numberUnder_28 : decode cX1_numberUnder 28 = .ok (.iconst 0, 1) := by decide +kernel
theorem dX1_numberUnder_29 : decode cX1_numberUnder 29 = .ok (.ireturn, 1) := by decide +kernel
theorem dX1_pop_0 : decode cX1_pop 0 = .ok (.aload_n 0, 1) := by decide +kernel
theorem dX1_pop_1 : decode cX1_pop 1 = .ok (.aload_n 0, 1) := by decide +kernel
theorem dX1_pop_2 : decode cX1_pop 2 = .ok (.getfield 24, 3) := by decide +kernel
theorem dX1_pop_5 : decode cX1_pop 5 = .ok (.ifCond .le 12, 3) := by decide +kernel
theorem dX1_pop_8 : decode cX1_pop 8 = .ok (.aload_n 0, 1) := by decide +kernel
theorem dX1_pop_9 : decode cX1_pop 9 = .ok (.getfield 24, 3) := by decide +kernel
theorem dX1_pop_12 : decode cX1_pop 12 = .ok (.iconst 1, 1) := by decide +kernel
theorem dX1_pop_13 : decode cX1_pop 13 = .ok (.isub, 1) := by decide +kernel
theorem dX1_pop_14 : decode cX1_pop 14 = .ok (.goto 4, 3) := by decide +kernel
theorem dX1_pop_17 : decode cX1_pop 17 = .ok (.iconst 0, 1) := by decide +kernel
theorem dX1_pop_18 : decode cX1_pop 18 = .ok (.putfield 24, 3) := by decide +kernel
theorem dX1_pop_21 : decode cX1_pop 21 = .ok (.return_, 1) := by decide +kernel
theorem dX1_replace_0 : decode cX1_replace 0 = .ok (.aload_n 0, 1) := by decide +kernel
theorem dX1_replace_1 : decode cX1_replace 1 = .ok (.aload_n 0, 1) := by decide +kernel
theorem dX1_replace_2 : decode cX1_replace 2 = .ok (.getfield 24, 3) := by decide +kernel
theorem dX1_replace_5 : decode cX1_replace 5 = .ok (.iload_n 1, 1) := by decide +kernel
theorem dX1_replace_6 : decode cX1_replace 6 = .ok (.if_icmp .lt 12, 3) := by decide +kernel
theorem dX1_replace_9 : decode cX1_replace 9 = .ok (.aload_n 0, 1) := by decide +kernel
theorem dX1_replace_10 : decode cX1_replace 10 = .ok (.getfield 24, 3) := by decide +kernel
theorem dX1_replace_13 : decode cX1_replace 13 = .ok (.iload_n 1, 1) := by decide +kernel
theorem dX1_replace_14 : decode cX1_replace 14 = .ok (.isub, 1) := by decide +kernel
theorem dX1_replace_15 : decode cX1_replace 15 = .ok (.goto 4, 3) := by decide +kernel
theorem dX1_replace_18 : decode cX1_replace 18 = .ok (.iconst 0, 1) := by decide +kernel
theorem dX1_replace_19 : decode cX1_replace 19 = .ok (.putfield 24, 3) := by decide +kernel
theorem dX1_replace_22 : decode cX1_replace 22 = .ok (.aload_n 0, 1) := by decide +kernel
theorem dX1_replace_23 : decode cX1_replace 23 = .ok (.getfield 24, 3) := by decide +kernel
theorem dX1_replace_26 : decode cX1_replace 26 = .ok (.bipush 12, 2) := by decide +kernel
theorem dX1_replace_28 : decode cX1_replace 28 = .ok (.if_icmp .ge 23, 3) := by decide +kernel
theorem dX1_replace_31 : decode cX1_replace 31 = .ok (.aload_n 0, 1) := by decide +kernel
theorem dX1_replace_32 : decode cX1_replace 32 = .ok (.getfield 9, 3) := by decide +kernel
theorem dX1_replace_35 : decode cX1_replace 35 = .ok (.aload_n 0, 1) := by decide +kernel
theorem dX1_replace_36 : decode cX1_replace 36 = .ok (.getfield 24, 3) := by decide +kernel
theorem dX1_replace_39 : decode cX1_replace 39 = .ok (.iload_n 2, 1) := by decide +kernel
theorem dX1_replace_40 : decode cX1_replace 40 = .ok (.iastore, 1) := by decide +kernel
theorem dX1_replace_41 : decode cX1_replace 41 = .ok (.aload_n 0, 1) := by decide +kernel
theorem dX1_replace_42 : decode cX1_replace 42 = .ok (.dup, 1) := by decide +kernel
theorem dX1_replace_43 : decode cX1_replace 43 = .ok (.getfield 24, 3) := by decide +kernel
theorem dX1_replace_46 : decode cX1_replace 46 = .ok (.iconst 1, 1) := by decide +kernel
theorem dX1_replace_47 : decode cX1_replace 47 = .ok (.iadd, 1) := by decide +kernel
theorem dX1_replace_48 : decode cX1_replace 48 = .ok (.putfield 24, 3) := by decide +kernel
theorem dX1_replace_51 : decode cX1_replace 51 = .ok (.return_, 1) := by decide +kernel
theorem dX1_nextInput_0 : decode cX1_nextInput 0 = .ok (.aload_n 0, 1) := by decide +kernel
theorem dX1_nextInput_1 : decode cX1_nextInput 1 = .ok (.getfield 34, 3) := by decide +kernel
theorem dX1_nextInput_4 : decode cX1_nextInput 4 = .ok (.aload_n 1, 1) := by decide +kernel
theorem dX1_nextInput_5 : decode cX1_nextInput 5 = .ok (.getfield 72, 3) := by decide +kernel
theorem dX1_nextInput_8 : decode cX1_nextInput 8 = .ok (.if_icmp .lt 5, 3) := by decide +kernel
theorem dX1_nextInput_11 : decode cX1_nextInput 11 = .ok (.iconst 0, 1) := by decide +kernel
theorem dX1_nextInput_12 : decode cX1_nextInput 12 = .ok (.ireturn, 1) := by decide +kernel
theorem dX1_nextInput_13 : decode cX1_nextInput 13 = .ok (.aload_n 0, 1) := by decide +kernel
theorem dX1_nextInput_14 : decode cX1_nextInput 14 = .ok (.dup, 1) := by decide +kernel
theorem dX1_nextInput_15 : decode cX1_nextInput 15 = .ok (.getfield 34, 3) := by decide +kernel
theorem dX1_nextInput_18 : decode cX1_nextInput 18 = .ok (.iconst 1, 1) := by decide +kernel
theorem dX1_nextInput_19 : decode cX1_nextInput 19 = .ok (.iadd, 1) := by decide +kernel
theorem dX1_nextInput_20 : decode cX1_nextInput 20 = .ok (.putfield 34, 3) := by decide +kernel
theorem dX1_nextInput_23 : decode cX1_nextInput 23 = .ok (.aload_n 1, 1) := by decide +kernel
theorem dX1_nextInput_24 : decode cX1_nextInput 24 = .ok (.getfield 96, 3) := by decide +kernel
theorem dX1_nextInput_27 : decode cX1_nextInput 27 = .ok (.aload_n 0, 1) := by decide +kernel
theorem dX1_nextInput_28 : decode cX1_nextInput 28 = .ok (.getfield 34, 3) := by decide +kernel
theorem dX1_nextInput_31 : decode cX1_nextInput 31 = .ok (.iconst 1, 1) := by decide +kernel
theorem dX1_nextInput_32 : decode cX1_nextInput 32 = .ok (.isub, 1) := by decide +kernel
theorem dX1_nextInput_33 : decode cX1_nextInput 33 = .ok (.iaload, 1) := by decide +kernel
theorem dX1_nextInput_34 : decode cX1_nextInput 34 = .ok (.ireturn, 1) := by decide +kernel
theorem dX1_write_0 : decode cX1_write 0 = .ok (.aload_n 0, 1) := by decide +kernel
theorem dX1_write_1 : decode cX1_write 1 = .ok (.getfield 28, 3) := by decide +kernel
theorem dX1_write_4 : decode cX1_write 4 = .ok (.bipush 6, 2) := by decide +kernel
theorem dX1_write_6 : decode cX1_write 6 = .ok (.if_icmp .ge 23, 3) := by decide +kernel
theorem dX1_write_9 : decode cX1_write 9 = .ok (.aload_n 0, 1) := by decide +kernel
theorem dX1_write_10 : decode cX1_write 10 = .ok (.getfield 15, 3) := by decide +kernel
theorem dX1_write_13 : decode cX1_write 13 = .ok (.aload_n 0, 1) := by decide +kernel
theorem dX1_write_14 : decode cX1_write 14 = .ok (.getfield 28, 3) := by decide +kernel
theorem dX1_write_17 : decode cX1_write 17 = .ok (.iload_n 1, 1) := by decide +kernel
theorem dX1_write_18 : decode cX1_write 18 = .ok (.iastore, 1) := by decide +kernel
theorem dX1_write_19 : decode cX1_write 19 = .ok (.aload_n 0, 1) := by decide +kernel
theorem dX1_write_20 : decode cX1_write 20 = .ok (.dup, 1) := by decide +kernel
theorem dX1_write_21 : decode cX1_write 21 = .ok (.getfield 28, 3) := by decide +kernel
theorem dX1_write_24 : decode cX1_write 24 = .ok (.iconst 1, 1) := by decide +kernel
theorem dX1_write_25 : decode cX1_write 25 = .ok (.iadd, 1) := by decide +kernel
theorem dX1_write_26 : decode cX1_write 26 = .ok (.putfield 28, 3) := by decide +kernel
theorem dX1_write_29 : decode cX1_write 29 = .ok (.return_, 1) := by decide +kernel
theorem dX1_isAsExpected_0 : decode cX1_isAsExpected 0 = .ok (.aload_n 0, 1) := by decide +kernel
theorem dX1_isAsExpected_1 : decode cX1_isAsExpected 1 = .ok (.getfield 28, 3) := by decide +kernel
theorem dX1_isAsExpected_4 : decode cX1_isAsExpected 4 = .ok (.aload_n 1, 1) := by decide +kernel
theorem dX1_isAsExpected_5 : decode cX1_isAsExpected 5 = .ok (.getfield 99, 3) := by decide +kernel
theorem dX1_isAsExpected_8 : decode cX1_isAsExpected 8 = .ok (.if_icmp .eq 5, 3) := by decide +kernel
theorem dX1_isAsExpected_11 : decode cX1_isAsExpected 11 = .ok (.iconst 0, 1) := by decide +kernel
theorem dX1_isAsExpected_12 : decode cX1_isAsExpected 12 = .ok (.ireturn, 1) := by decide +kernel
theorem dX1_isAsExpected_13 : decode cX1_isAsExpected 13 = .ok (.iconst 0, 1) := by decide +kernel
theorem dX1_isAsExpected_14 : decode cX1_isAsExpected 14 = .ok (.istore_n 2, 1) := by decide +kernel
theorem dX1_isAsExpected_15 : decode cX1_isAsExpected 15 = .ok (.iload_n 2, 1) := by decide +kernel
theorem dX1_isAsExpected_16 : decode cX1_isAsExpected 16 = .ok (.aload_n 0, 1) := by decide +kernel
theorem dX1_isAsExpected_17 : decode cX1_isAsExpected 17 = .ok (.getfield 28, 3) := by decide +kernel
theorem dX1_isAsExpected_20 : decode cX1_isAsExpected 20 = .ok (.if_icmp .ge 26, 3) := by decide +kernel
theorem dX1_isAsExpected_23 : decode cX1_isAsExpected 23 = .ok (.aload_n 0, 1) := by decide +kernel
theorem dX1_isAsExpected_24 : decode cX1_isAsExpected 24 = .ok (.getfield 15, 3) := by decide +kernel
theorem dX1_isAsExpected_27 : decode cX1_isAsExpected 27 = .ok (.iload_n 2, 1) := by decide +kernel
theorem dX1_isAsExpected_28 : decode cX1_isAsExpected 28 = .ok (.iaload, 1) := by decide +kernel
theorem dX1_isAsExpected_29 : decode cX1_isAsExpected 29 = .ok (.aload_n 1, 1) := by decide +kernel
theorem dX1_isAsExpected_30 : decode cX1_isAsExpected 30 = .ok (.getfield 102, 3) := by decide +kernel
theorem dX1_isAsExpected_33 : decode cX1_isAsExpected 33 = .ok (.iload_n 2, 1) := by decide +kernel
theorem dX1_isAsExpected_34 : decode cX1_isAsExpected 34 = .ok (.iaload, 1) := by decide +kernel
theorem dX1_isAsExpected_35 : decode cX1_isAsExpected 35 = .ok (.if_icmp .eq 5, 3) := by decide +kernel
theorem dX1_isAsExpected_38 : decode cX1_isAsExpected 38 = .ok (.iconst 0, 1) := by decide +kernel
theorem dX1_isAsExpected_39 : decode cX1_isAsExpected 39 = .ok (.ireturn, 1) := by decide +kernel
theorem dX1_isAsExpected_40 : decode cX1_isAsExpected 40 = .ok (.iinc 2 1, 3) := by decide +kernel
theorem dX1_isAsExpected_43 : decode cX1_isAsExpected 43 = .ok (.goto (-28), 3) := by decide +kernel
theorem dX1_isAsExpected_46 : decode cX1_isAsExpected 46 = .ok (.iconst 1, 1) := by decide +kernel
theorem dX1_isAsExpected_47 : decode cX1_isAsExpected 47 = .ok (.ireturn, 1) := by decide +kernel
theorem dX2_init_0 : decode cX2_init 0 = .ok (.aload_n 0, 1) := by decide +kernel
theorem dX2_init_1 : decode cX2_init 1 = .ok (.invokespecial 3, 3) := by decide +kernel
theorem dX2_init_4 : decode cX2_init 4 = .ok (.aload_n 0, 1) := by decide +kernel
theorem dX2_init_5 : decode cX2_init 5 = .ok (.iconst 3, 1) := by decide +kernel
theorem dX2_init_6 : decode cX2_init 6 = .ok (.anewarray 9, 3) := by decide +kernel
theorem dX2_init_9 : decode cX2_init 9 = .ok (.putfield 11, 3) := by decide +kernel
theorem dX2_init_12 : decode cX2_init 12 = .ok (.aload_n 0, 1) := by decide +kernel
theorem dX2_init_13 : decode cX2_init 13 = .ok (.iconst 3, 1) := by decide +kernel
theorem dX2_init_14 : decode cX2_init 14 = .ok (.newarray .int, 2) := by decide +kernel
theorem dX2_init_16 : decode cX2_init 16 = .ok (.putfield 17, 3) := by decide +kernel
theorem dX2_init_19 : decode cX2_init 19 = .ok (.aload_n 0, 1) := by decide +kernel
theorem dX2_init_20 : decode cX2_init 20 = .ok (.iconst 0, 1) := by decide +kernel
theorem dX2_init_21 : decode cX2_init 21 = .ok (.putfield 21, 3) := by decide +kernel
theorem dX2_init_24 : decode cX2_init 24 = .ok (.aload_n 0, 1) := by decide +kernel
theorem dX2_init_25 : decode cX2_init 25 = .ok (.bipush 10, 2) := by decide +kernel
theorem dX2_init_27 : decode cX2_init 27 = .ok (.putfield 25, 3) := by decide +kernel
theorem dX2_init_30 : decode cX2_init 30 = .ok (.iconst 0, 1) := by decide +kernel
theorem dX2_init_31 : decode cX2_init 31 = .ok (.istore_n 1, 1) := by decide +kernel
theorem dX2_init_32 : decode cX2_init 32 = .ok (.iload_n 1, 1) := by decide +kernel
theorem dX2_init_33 : decode cX2_init 33 = .ok (.iconst 3, 1) := by decide +kernel
theorem dX2_init_34 : decode cX2_init 34 = .ok (.if_icmp .ge 22, 3) := by decide +kernel
theorem dX2_init_37 : decode cX2_init 37 = .ok (.aload_n 0, 1) := by decide +kernel
theorem dX2_init_38 : decode cX2_init 38 = .ok (.getfield 11, 3) := by decide +kernel
theorem dX2_init_41 : decode cX2_init 41 = .ok (.iload_n 1, 1) := by decide +kernel
theorem dX2_init_42 : decode cX2_init 42 = .ok (.new 9, 3) := by decide +kernel
theorem dX2_init_45 : decode cX2_init 45 = .ok (.dup, 1) := by decide +kernel
theorem dX2_init_46 : decode cX2_init 46 = .ok (.invokespecial 28, 3) := by decide +kernel
theorem dX2_init_49 : decode cX2_init 49 = .ok (.aastore, 1) := by decide +kernel
theorem dX2_init_50 : decode cX2_init 50 = .ok (.iinc 1 1, 3) := by decide +kernel
theorem dX2_init_53 : decode cX2_init 53 = .ok (.goto (-21), 3) := by decide +kernel
theorem dX2_init_56 : decode cX2_init 56 = .ok (.return_, 1) := by decide +kernel
theorem dX2_placeOfCopy_0 : decode cX2_placeOfCopy 0 = .ok (.iconst 0, 1) := by decide +kernel
theorem dX2_placeOfCopy_1 : decode cX2_placeOfCopy 1 = .ok (.istore_n 2, 1) := by decide +kernel
theorem dX2_placeOfCopy_2 : decode cX2_placeOfCopy 2 = .ok (.iload_n 2, 1) := by decide +kernel
theorem dX2_placeOfCopy_3 : decode cX2_placeOfCopy 3 = .ok (.aload_n 0, 1) := by decide +kernel
theorem dX2_placeOfCopy_4 : decode cX2_placeOfCopy 4 = .ok (.getfield 21, 3) := by decide +kernel
theorem dX2_placeOfCopy_7 : decode cX2_placeOfCopy 7 = .ok (.if_icmp .ge 21, 3) := by decide +kernel
theorem dX2_placeOfCopy_10 : decode cX2_placeOfCopy 10 = .ok (.aload_n 0, 1) := by decide +kernel
theorem dX2_placeOfCopy_11 : decode cX2_placeOfCopy 11 = .ok (.getfield 17, 3) := by decide +kernel
theorem dX2_placeOfCopy_14 : decode cX2_placeOfCopy 14 = .ok (.iload_n 2, 1) := by decide +kernel
theorem dX2_placeOfCopy_15 : decode cX2_placeOfCopy 15 = .ok (.iaload, 1) := by decide +kernel
theorem dX2_placeOfCopy_16 : decode cX2_placeOfCopy 16 = .ok (.iload_n 1, 1) := by decide +kernel
theorem dX2_placeOfCopy_17 : decode cX2_placeOfCopy 17 = .ok (.if_icmp .ne 5, 3) := by decide +kernel
theorem dX2_placeOfCopy_20 : decode cX2_placeOfCopy 20 = .ok (.iload_n 2, 1) := by decide +kernel
theorem dX2_placeOfCopy_21 : decode cX2_placeOfCopy 21 = .ok (.ireturn, 1) := by decide +kernel
theorem dX2_placeOfCopy_22 : decode cX2_placeOfCopy 22 = .ok (.iinc 2 1, 3) := by decide +kernel
theorem dX2_placeOfCopy_25 : decode cX2_placeOfCopy 25 = .ok (.goto (-23), 3) := by decide +kernel
theorem dX2_placeOfCopy_28 : decode cX2_placeOfCopy 28 = .ok (.iconst (-1), 1) := by decide +kernel
theorem dX2_placeOfCopy_29 : decode cX2_placeOfCopy 29 = .ok (.ireturn, 1) := by decide +kernel
theorem dX2_keepCopy_0 : decode cX2_keepCopy 0 = .ok (.aload_n 0, 1) := by decide +kernel
theorem dX2_keepCopy_1 : decode cX2_keepCopy 1 = .ok (.iload_n 1, 1) := by decide +kernel
theorem dX2_keepCopy_2 : decode cX2_keepCopy 2 = .ok (.invokevirtual 29, 3) := by decide +kernel
theorem dX2_keepCopy_5 : decode cX2_keepCopy 5 = .ok (.istore_n 3, 1) := by decide +kernel
theorem dX2_keepCopy_6 : decode cX2_keepCopy 6 = .ok (.iload_n 3, 1) := by decide +kernel
theorem dX2_keepCopy_7 : decode cX2_keepCopy 7 = .ok (.iconst (-1), 1) := by decide +kernel
theorem dX2_keepCopy_8 : decode cX2_keepCopy 8 = .ok (.if_icmp .ne 26, 3) := by decide +kernel
theorem dX2_keepCopy_11 : decode cX2_keepCopy 11 = .ok (.aload_n 0, 1) := by decide +kernel
theorem dX2_keepCopy_12 : decode cX2_keepCopy 12 = .ok (.getfield 21, 3) := by decide +kernel
theorem dX2_keepCopy_15 : decode cX2_keepCopy 15 = .ok (.iconst 3, 1) := by decide +kernel
theorem dX2_keepCopy_16 : decode cX2_keepCopy 16 = .ok (.if_icmp .ge 18, 3) := by decide +kernel
theorem dX2_keepCopy_19 : decode cX2_keepCopy 19 = .ok (.aload_n 0, 1) := by decide +kernel
theorem dX2_keepCopy_20 : decode cX2_keepCopy 20 = .ok (.getfield 21, 3) := by decide +kernel
theorem dX2_keepCopy_23 : decode cX2_keepCopy 23 = .ok (.istore_n 3, 1) := by decide +kernel
theorem dX2_keepCopy_24 : decode cX2_keepCopy 24 = .ok (.aload_n 0, 1) := by decide +kernel
theorem dX2_keepCopy_25 : decode cX2_keepCopy 25 = .ok (.dup, 1) := by decide +kernel
theorem dX2_keepCopy_26 : decode cX2_keepCopy 26 = .ok (.getfield 21, 3) := by decide +kernel
theorem dX2_keepCopy_29 : decode cX2_keepCopy 29 = .ok (.iconst 1, 1) := by decide +kernel
theorem dX2_keepCopy_30 : decode cX2_keepCopy 30 = .ok (.iadd, 1) := by decide +kernel
theorem dX2_keepCopy_31 : decode cX2_keepCopy 31 = .ok (.putfield 21, 3) := by decide +kernel
theorem dX2_keepCopy_34 : decode cX2_keepCopy 34 = .ok (.iload_n 3, 1) := by decide +kernel
theorem dX2_keepCopy_35 : decode cX2_keepCopy 35 = .ok (.iconst (-1), 1) := by decide +kernel
theorem dX2_keepCopy_36 : decode cX2_keepCopy 36 = .ok (.if_icmp .ne 5, 3) := by decide +kernel
theorem dX2_keepCopy_39 : decode cX2_keepCopy 39 = .ok (.iconst 0, 1) := by decide +kernel
theorem dX2_keepCopy_40 : decode cX2_keepCopy 40 = .ok (.istore_n 3, 1) := by decide +kernel
theorem dX2_keepCopy_41 : decode cX2_keepCopy 41 = .ok (.aload_n 0, 1) := by decide +kernel
theorem dX2_keepCopy_42 : decode cX2_keepCopy 42 = .ok (.getfield 11, 3) := by decide +kernel
theorem dX2_keepCopy_45 : decode cX2_keepCopy 45 = .ok (.iload_n 3, 1) := by decide +kernel
theorem dX2_keepCopy_46 : decode cX2_keepCopy 46 = .ok (.aaload, 1) := by decide +kernel
theorem dX2_keepCopy_47 : decode cX2_keepCopy 47 = .ok (.astore 4, 2) := by decide +kernel
theorem dX2_keepCopy_49 : decode cX2_keepCopy 49 = .ok (.iload_n 3, 1) := by decide +kernel
theorem dX2_keepCopy_50 : decode cX2_keepCopy 50 = .ok (.istore 5, 2) := by decide +kernel
theorem dX2_keepCopy_52 : decode cX2_keepCopy 52 = .ok (.iload 5, 2) := by decide +kernel
theorem dX2_keepCopy_54 : decode cX2_keepCopy 54 = .ok (.iconst 1, 1) := by decide +kernel
theorem dX2_keepCopy_55 : decode cX2_keepCopy 55 = .ok (.iadd, 1) := by decide +kernel
theorem dX2_keepCopy_56 : decode cX2_keepCopy 56 = .ok (.aload_n 0, 1) := by decide +kernel
theorem dX2_keepCopy_57 : decode cX2_keepCopy 57 = .ok (.getfield 21, 3) := by decide +kernel
theorem dX2_keepCopy_60 : decode cX2_keepCopy 60 = .ok (.if_icmp .ge 41, 3) := by decide +kernel
theorem dX2_keepCopy_63 : decode cX2_keepCopy 63 = .ok (.aload_n 0, 1) := by decide +kernel
theorem dX2_keepCopy_64 : decode cX2_keepCopy 64 = .ok (.getfield 11, 3) := by decide +kernel
theorem dX2_keepCopy_67 : decode cX2_keepCopy 67 = .ok (.iload 5, 2) := by decide +kernel
theorem dX2_keepCopy_69 : decode cX2_keepCopy 69 = .ok (.aload_n 0, 1) := by decide +kernel
theorem dX2_keepCopy_70 : decode cX2_keepCopy 70 = .ok (.getfield 11, 3) := by decide +kernel
theorem dX2_keepCopy_73 : decode cX2_keepCopy 73 = .ok (.iload 5, 2) := by decide +kernel
theorem dX2_keepCopy_75 : decode cX2_keepCopy 75 = .ok (.iconst 1, 1) := by decide +kernel
theorem dX2_keepCopy_76 : decode cX2_keepCopy 76 = .ok (.iadd, 1) := by decide +kernel
theorem dX2_keepCopy_77 : decode cX2_keepCopy 77 = .ok (.aaload, 1) := by decide +kernel
theorem dX2_keepCopy_78 : decode cX2_keepCopy 78 = .ok (.aastore, 1) := by decide +kernel
theorem dX2_keepCopy_79 : decode cX2_keepCopy 79 = .ok (.aload_n 0, 1) := by decide +kernel
theorem dX2_keepCopy_80 : decode cX2_keepCopy 80 = .ok (.getfield 17, 3) := by decide +kernel
theorem dX2_keepCopy_83 : decode cX2_keepCopy 83 = .ok (.iload 5, 2) := by decide +kernel
theorem dX2_keepCopy_85 : decode cX2_keepCopy 85 = .ok (.aload_n 0, 1) := by decide +kernel
theorem dX2_keepCopy_86 : decode cX2_keepCopy 86 = .ok (.getfield 17, 3) := by decide +kernel
theorem dX2_keepCopy_89 : decode cX2_keepCopy 89 = .ok (.iload 5, 2) := by decide +kernel
theorem dX2_keepCopy_91 : decode cX2_keepCopy 91 = .ok (.iconst 1, 1) := by decide +kernel
theorem dX2_keepCopy_92 : decode cX2_keepCopy 92 = .ok (.iadd, 1) := by decide +kernel
theorem dX2_keepCopy_93 : decode cX2_keepCopy 93 = .ok (.iaload, 1) := by decide +kernel
theorem dX2_keepCopy_94 : decode cX2_keepCopy 94 = .ok (.iastore, 1) := by decide +kernel
theorem dX2_keepCopy_95 : decode cX2_keepCopy 95 = .ok (.iinc 5 1, 3) := by decide +kernel
theorem dX2_keepCopy_98 : decode cX2_keepCopy 98 = .ok (.goto (-46), 3) := by decide +kernel
theorem dX2_keepCopy_101 : decode cX2_keepCopy 101 = .ok (.aload_n 0, 1) := by decide +kernel
theorem dX2_keepCopy_102 : decode cX2_keepCopy 102 = .ok (.getfield 21, 3) := by decide +kernel
theorem dX2_keepCopy_105 : decode cX2_keepCopy 105 = .ok (.iconst 1, 1) := by decide +kernel
theorem dX2_keepCopy_106 : decode cX2_keepCopy 106 = .ok (.isub, 1) := by decide +kernel
theorem dX2_keepCopy_107 : decode cX2_keepCopy 107 = .ok (.istore 5, 2) := by decide +kernel
theorem dX2_keepCopy_109 : decode cX2_keepCopy 109 = .ok (.aload_n 0, 1) := by decide +kernel
theorem dX2_keepCopy_110 : decode cX2_keepCopy 110 = .ok (.getfield 11, 3) := by decide +kernel
theorem dX2_keepCopy_113 : decode cX2_keepCopy 113 = .ok (.iload 5, 2) := by decide +kernel
theorem dX2_keepCopy_115 : decode cX2_keepCopy 115 = .ok (.aload 4, 2) := by decide +kernel
theorem dX2_keepCopy_117 : decode cX2_keepCopy 117 = .ok (.aastore, 1) := by decide +kernel
theorem dX2_keepCopy_118 : decode cX2_keepCopy 118 = .ok (.aload_n 0, 1) := by decide +kernel
theorem dX2_keepCopy_119 : decode cX2_keepCopy 119 = .ok (.getfield 17, 3) := by decide +kernel
theorem dX2_keepCopy_122 : decode cX2_keepCopy 122 = .ok (.iload 5, 2) := by decide +kernel
theorem dX2_keepCopy_124 : decode cX2_keepCopy 124 = .ok (.iload_n 1, 1) := by decide +kernel
theorem dX2_keepCopy_125 : decode cX2_keepCopy 125 = .ok (.iastore, 1) := by decide +kernel
theorem dX2_keepCopy_126 : decode cX2_keepCopy 126 = .ok (.aload 4, 2) := by decide +kernel
theorem dX2_keepCopy_128 : decode cX2_keepCopy 128 = .ok (.aload_n 2, 1) := by decide +kernel
theorem dX2_keepCopy_129 : decode cX2_keepCopy 129 = .ok (.invokevirtual 33, 3) := by decide +kernel
theorem dX2_keepCopy_132 : decode cX2_keepCopy 132 = .ok (.return_, 1) := by decide +kernel
theorem dX3_init_0 : decode cX3_init 0 = .ok (.aload_n 0, 1) := by decide +kernel
theorem dX3_init_1 : decode cX3_init 1 = .ok (.invokespecial 3, 3) := by decide +kernel
theorem dX3_init_4 : decode cX3_init 4 = .ok (.aload_n 0, 1) := by decide +kernel
theorem dX3_init_5 : decode cX3_init 5 = .ok (.bipush 24, 2) := by decide +kernel
theorem dX3_init_7 : decode cX3_init 7 = .ok (.newarray .char, 2) := by decide +kernel
theorem dX3_init_9 : decode cX3_init 9 = .ok (.putfield 9, 3) := by decide +kernel
theorem dX3_init_12 : decode cX3_init 12 = .ok (.aload_n 0, 1) := by decide +kernel
theorem dX3_init_13 : decode cX3_init 13 = .ok (.bipush 24, 2) := by decide +kernel
theorem dX3_init_15 : decode cX3_init 15 = .ok (.newarray .int, 2) := by decide +kernel
theorem dX3_init_17 : decode cX3_init 17 = .ok (.putfield 15, 3) := by decide +kernel
theorem dX3_init_20 : decode cX3_init 20 = .ok (.aload_n 0, 1) := by decide +kernel
theorem dX3_init_21 : decode cX3_init 21 = .ok (.iconst 0, 1) := by decide +kernel
theorem dX3_init_22 : decode cX3_init 22 = .ok (.putfield 19, 3) := by decide +kernel
theorem dX3_init_25 : decode cX3_init 25 = .ok (.return_, 1) := by decide +kernel
theorem dX3_append_0 : decode cX3_append 0 = .ok (.aload_n 0, 1) := by decide +kernel
theorem dX3_append_1 : decode cX3_append 1 = .ok (.getfield 19, 3) := by decide +kernel
theorem dX3_append_4 : decode cX3_append 4 = .ok (.bipush 24, 2) := by decide +kernel
theorem dX3_append_6 : decode cX3_append 6 = .ok (.if_icmp .ge 33, 3) := by decide +kernel
theorem dX3_append_9 : decode cX3_append 9 = .ok (.aload_n 0, 1) := by decide +kernel
theorem dX3_append_10 : decode cX3_append 10 = .ok (.getfield 9, 3) := by decide +kernel
theorem dX3_append_13 : decode cX3_append 13 = .ok (.aload_n 0, 1) := by decide +kernel
theorem dX3_append_14 : decode cX3_append 14 = .ok (.getfield 19, 3) := by decide +kernel
theorem dX3_append_17 : decode cX3_append 17 = .ok (.iload_n 1, 1) := by decide +kernel
theorem dX3_append_18 : decode cX3_append 18 = .ok (.castore, 1) := by decide +kernel
theorem dX3_append_19 : decode cX3_append 19 = .ok (.aload_n 0, 1) := by decide +kernel
theorem dX3_append_20 : decode cX3_append 20 = .ok (.getfield 15, 3) := by decide +kernel
theorem dX3_append_23 : decode cX3_append 23 = .ok (.aload_n 0, 1) := by decide +kernel
theorem dX3_append_24 : decode cX3_append 24 = .ok (.getfield 19, 3) := by decide +kernel
theorem dX3_append_27 : decode cX3_append 27 = .ok (.iload_n 2, 1) := by decide +kernel
theorem dX3_append_28 : decode cX3_append 28 = .ok (.iastore, 1) := by decide +kernel
theorem dX3_append_29 : decode cX3_append 29 = .ok (.aload_n 0, 1) := by decide +kernel
theorem dX3_append_30 : decode cX3_append 30 = .ok (.dup, 1) := by decide +kernel
theorem dX3_append_31 : decode cX3_append 31 = .ok (.getfield 19, 3) := by decide +kernel
theorem dX3_append_34 : decode cX3_append 34 = .ok (.iconst 1, 1) := by decide +kernel
theorem dX3_append_35 : decode cX3_append 35 = .ok (.iadd, 1) := by decide +kernel
theorem dX3_append_36 : decode cX3_append 36 = .ok (.putfield 19, 3) := by decide +kernel
theorem dX3_append_39 : decode cX3_append 39 = .ok (.return_, 1) := by decide +kernel
theorem dX3_erase_0 : decode cX3_erase 0 = .ok (.aload_n 0, 1) := by decide +kernel
theorem dX3_erase_1 : decode cX3_erase 1 = .ok (.iconst 0, 1) := by decide +kernel
theorem dX3_erase_2 : decode cX3_erase 2 = .ok (.putfield 19, 3) := by decide +kernel
theorem dX3_erase_5 : decode cX3_erase 5 = .ok (.return_, 1) := by decide +kernel
theorem dX3_take_0 : decode cX3_take 0 = .ok (.aload_n 0, 1) := by decide +kernel
theorem dX3_take_1 : decode cX3_take 1 = .ok (.aload_n 1, 1) := by decide +kernel
theorem dX3_take_2 : decode cX3_take 2 = .ok (.getfield 19, 3) := by decide +kernel
theorem dX3_take_5 : decode cX3_take 5 = .ok (.putfield 19, 3) := by decide +kernel
theorem dX3_take_8 : decode cX3_take 8 = .ok (.iconst 0, 1) := by decide +kernel
theorem dX3_take_9 : decode cX3_take 9 = .ok (.istore_n 2, 1) := by decide +kernel
theorem dX3_take_10 : decode cX3_take 10 = .ok (.iload_n 2, 1) := by decide +kernel
theorem dX3_take_11 : decode cX3_take 11 = .ok (.aload_n 0, 1) := by decide +kernel
theorem dX3_take_12 : decode cX3_take 12 = .ok (.getfield 19, 3) := by decide +kernel
theorem dX3_take_15 : decode cX3_take 15 = .ok (.if_icmp .ge 33, 3) := by decide +kernel
theorem dX3_take_18 : decode cX3_take 18 = .ok (.aload_n 0, 1) := by decide +kernel
theorem dX3_take_19 : decode cX3_take 19 = .ok (.getfield 9, 3) := by decide +kernel
theorem dX3_take_22 : decode cX3_take 22 = .ok (.iload_n 2, 1) := by decide +kernel
theorem dX3_take_23 : decode cX3_take 23 = .ok (.aload_n 1, 1) := by decide +kernel
theorem dX3_take_24 : decode cX3_take 24 = .ok (.getfield 9, 3) := by decide +kernel
theorem dX3_take_27 : decode cX3_take 27 = .ok (.iload_n 2, 1) := by decide +kernel
theorem dX3_take_28 : decode cX3_take 28 = .ok (.caload, 1) := by decide +kernel
theorem dX3_take_29 : decode cX3_take 29 = .ok (.castore, 1) := by decide +kernel
theorem dX3_take_30 : decode cX3_take 30 = .ok (.aload_n 0, 1) := by decide +kernel
theorem dX3_take_31 : decode cX3_take 31 = .ok (.getfield 15, 3) := by decide +kernel
theorem dX3_take_34 : decode cX3_take 34 = .ok (.iload_n 2, 1) := by decide +kernel
theorem dX3_take_35 : decode cX3_take 35 = .ok (.aload_n 1, 1) := by decide +kernel
theorem dX3_take_36 : decode cX3_take 36 = .ok (.getfield 15, 3) := by decide +kernel
theorem dX3_take_39 : decode cX3_take 39 = .ok (.iload_n 2, 1) := by decide +kernel
theorem dX3_take_40 : decode cX3_take 40 = .ok (.iaload, 1) := by decide +kernel
theorem dX3_take_41 : decode cX3_take 41 = .ok (.iastore, 1) := by decide +kernel
theorem dX3_take_42 : decode cX3_take 42 = .ok (.iinc 2 1, 3) := by decide +kernel
theorem dX3_take_45 : decode cX3_take 45 = .ok (.goto (-35), 3) := by decide +kernel
theorem dX3_take_48 : decode cX3_take 48 = .ok (.return_, 1) := by decide +kernel
theorem dX3_isWhole_0 : decode cX3_isWhole 0 = .ok (.iconst 0, 1) := by decide +kernel
theorem dX3_isWhole_1 : decode cX3_isWhole 1 = .ok (.istore_n 1, 1) := by decide +kernel
theorem dX3_isWhole_2 : decode cX3_isWhole 2 = .ok (.iconst 0, 1) := by decide +kernel
theorem dX3_isWhole_3 : decode cX3_isWhole 3 = .ok (.istore_n 2, 1) := by decide +kernel
theorem dX3_isWhole_4 : decode cX3_isWhole 4 = .ok (.iload_n 2, 1) := by decide +kernel
theorem dX3_isWhole_5 : decode cX3_isWhole 5 = .ok (.aload_n 0, 1) := by decide +kernel
theorem dX3_isWhole_6 : decode cX3_isWhole 6 = .ok (.getfield 19, 3) := by decide +kernel
theorem dX3_isWhole_9 : decode cX3_isWhole 9 = .ok (.if_icmp .ge 46, 3) := by decide +kernel
theorem dX3_isWhole_12 : decode cX3_isWhole 12 = .ok (.aload_n 0, 1) := by decide +kernel
theorem dX3_isWhole_13 : decode cX3_isWhole 13 = .ok (.getfield 9, 3) := by decide +kernel
theorem dX3_isWhole_16 : decode cX3_isWhole 16 = .ok (.iload_n 2, 1) := by decide +kernel
theorem dX3_isWhole_17 : decode cX3_isWhole 17 = .ok (.caload, 1) := by decide +kernel
theorem dX3_isWhole_18 : decode cX3_isWhole 18 = .ok (.bipush 91, 2) := by decide +kernel
theorem dX3_isWhole_20 : decode cX3_isWhole 20 = .ok (.if_icmp .ne 9, 3) := by decide +kernel
theorem dX3_isWhole_23 : decode cX3_isWhole 23 = .ok (.iinc 1 1, 3) := by decide +kernel
theorem dX3_isWhole_26 : decode cX3_isWhole 26 = .ok (.goto 17, 3) := by decide +kernel
theorem dX3_isWhole_29 : decode cX3_isWhole 29 = .ok (.aload_n 0, 1) := by decide +kernel
theorem dX3_isWhole_30 : decode cX3_isWhole 30 = .ok (.getfield 9, 3) := by decide +kernel
theorem dX3_isWhole_33 : decode cX3_isWhole 33 = .ok (.iload_n 2, 1) := by decide +kernel
theorem dX3_isWhole_34 : decode cX3_isWhole 34 = .ok (.caload, 1) := by decide +kernel
theorem dX3_isWhole_35 : decode cX3_isWhole 35 = .ok (.bipush 93, 2) := by decide +kernel
theorem dX3_isWhole_37 : decode cX3_isWhole 37 = .ok (.if_icmp .ne 6, 3) := by decide +kernel
theorem dX3_isWhole_40 : decode cX3_isWhole 40 = .ok (.iinc 1 (-1), 3) := by decide +kernel
theorem dX3_isWhole_43 : decode cX3_isWhole 43 = .ok (.iload_n 1, 1) := by decide +kernel
theorem dX3_isWhole_44 : decode cX3_isWhole 44 = .ok (.ifCond .ge 5, 3) := by decide +kernel
theorem dX3_isWhole_47 : decode cX3_isWhole 47 = .ok (.iconst 0, 1) := by decide +kernel
theorem dX3_isWhole_48 : decode cX3_isWhole 48 = .ok (.ireturn, 1) := by decide +kernel
theorem dX3_isWhole_49 : decode cX3_isWhole 49 = .ok (.iinc 2 1, 3) := by decide +kernel
theorem dX3_isWhole_52 : decode cX3_isWhole 52 = .ok (.goto (-48), 3) := by decide +kernel
theorem dX3_isWhole_55 : decode cX3_isWhole 55 = .ok (.iload_n 1, 1) := by decide +kernel
theorem dX3_isWhole_56 : decode cX3_isWhole 56 = .ok (.ifCond .ne 7, 3) := by decide +kernel
theorem dX3_isWhole_59 : decode cX3_isWhole 59 = .ok (.iconst 1, 1) := by decide +kernel
theorem dX3_isWhole_60 : decode cX3_isWhole 60 = .ok (.goto 4, 3) := by decide +kernel
theorem dX3_isWhole_63 : decode cX3_isWhole 63 = .ok (.iconst 0, 1) := by decide +kernel
theorem dX3_isWhole_64 : decode cX3_isWhole 64 = .ok (.ireturn, 1) := by decide +kernel
theorem dX3_sumOfAll_0 : decode cX3_sumOfAll 0 = .ok (.ldc2_w 23, 3) := by decide +kernel
theorem dX3_sumOfAll_3 : decode cX3_sumOfAll 3 = .ok (.lstore_n 1, 1) := by decide +kernel
theorem dX3_sumOfAll_4 : decode cX3_sumOfAll 4 = .ok (.iconst 0, 1) := by decide +kernel
theorem dX3_sumOfAll_5 : decode cX3_sumOfAll 5 = .ok (.istore_n 3, 1) := by decide +kernel
theorem dX3_sumOfAll_6 : decode cX3_sumOfAll 6 = .ok (.iload_n 3, 1) := by decide +kernel
theorem dX3_sumOfAll_7 : decode cX3_sumOfAll 7 = .ok (.aload_n 0, 1) := by decide +kernel
theorem dX3_sumOfAll_8 : decode cX3_sumOfAll 8 = .ok (.getfield 19, 3) := by decide +kernel
theorem dX3_sumOfAll_11 : decode cX3_sumOfAll 11 = .ok (.if_icmp .ge 37, 3) := by decide +kernel
theorem dX3_sumOfAll_14 : decode cX3_sumOfAll 14 = .ok (.lload_n 1, 1) := by decide +kernel
theorem dX3_sumOfAll_15 : decode cX3_sumOfAll 15 = .ok (.ldc2_w 25, 3) := by decide +kernel
theorem dX3_sumOfAll_18 : decode cX3_sumOfAll 18 = .ok (.lmul, 1) := by decide +kernel
theorem dX3_sumOfAll_19 : decode cX3_sumOfAll 19 = .ok (.aload_n 0, 1) := by decide +kernel
theorem dX3_sumOfAll_20 : decode cX3_sumOfAll 20 = .ok (.getfield 9, 3) := by decide +kernel
theorem dX3_sumOfAll_23 : decode cX3_sumOfAll 23 = .ok (.iload_n 3, 1) := by decide +kernel
theorem dX3_sumOfAll_24 : decode cX3_sumOfAll 24 = .ok (.caload, 1) := by decide +kernel
theorem dX3_sumOfAll_25 : decode cX3_sumOfAll 25 = .ok (.i2l, 1) := by decide +kernel
theorem dX3_sumOfAll_26 : decode cX3_sumOfAll 26 = .ok (.ladd, 1) := by decide +kernel
theorem dX3_sumOfAll_27 : decode cX3_sumOfAll 27 = .ok (.lstore_n 1, 1) := by decide +kernel
theorem dX3_sumOfAll_28 : decode cX3_sumOfAll 28 = .ok (.lload_n 1, 1) := by decide +kernel
theorem dX3_sumOfAll_29 : decode cX3_sumOfAll 29 = .ok (.ldc2_w 25, 3) := by decide +kernel
theorem dX3_sumOfAll_32 : decode cX3_sumOfAll 32 = .ok (.lmul, 1) := by decide +kernel
theorem dX3_sumOfAll_33 : decode cX3_sumOfAll 33 = .ok (.aload_n 0, 1) := by decide +kernel
theorem dX3_sumOfAll_34 : decode cX3_sumOfAll 34 = .ok (.getfield 15, 3) := by decide +kernel
theorem dX3_sumOfAll_37 : decode cX3_sumOfAll 37 = .ok (.iload_n 3, 1) := by decide +kernel
theorem dX3_sumOfAll_38 : decode cX3_sumOfAll 38 = .ok (.iaload, 1) := by decide +kernel
theorem dX3_sumOfAll_39 : decode cX3_sumOfAll 39 = .ok (.i2l, 1) := by decide +kernel
theorem dX3_sumOfAll_40 : decode cX3_sumOfAll 40 = .ok (.ladd, 1) := by decide +kernel
theorem dX3_sumOfAll_41 : decode cX3_sumOfAll 41 = .ok (.lstore_n 1, 1) := by decide +kernel
theorem dX3_sumOfAll_42 : decode cX3_sumOfAll 42 = .ok (.iinc 3 1, 3) := by decide +kernel
theorem dX3_sumOfAll_45 : decode cX3_sumOfAll 45 = .ok (.goto (-39), 3) := by decide +kernel
theorem dX3_sumOfAll_48 : decode cX3_sumOfAll 48 = .ok (.lload_n 1, 1) := by decide +kernel
theorem dX3_sumOfAll_49 : decode cX3_sumOfAll 49 = .ok (.lreturn, 1) := by decide +kernel
theorem dX4_init_0 : decode cX4_init 0 = .ok (.aload_n 0, 1) := by decide +kernel
theorem dX4_init_1 : decode cX4_init 1 = .ok (.invokespecial 3, 3) := by decide +kernel
theorem dX4_init_4 : decode cX4_init 4 = .ok (.aload_n 0, 1) := by decide +kernel
theorem dX4_init_5 : decode cX4_init 5 = .ok (.iconst 4, 1) := by decide +kernel
theorem dX4_init_6 : decode cX4_init 6 = .ok (.newarray .int, 2) := by decide +kernel
theorem dX4_init_8 : decode cX4_init 8 = .ok (.putfield 9, 3) := by decide +kernel
theorem dX4_init_11 : decode cX4_init 11 = .ok (.aload_n 0, 1) := by decide +kernel
theorem dX4_init_12 : decode cX4_init 12 = .ok (.bipush 6, 2) := by decide +kernel
theorem dX4_init_14 : decode cX4_init 14 = .ok (.newarray .int, 2) := by decide +kernel
theorem dX4_init_16 : decode cX4_init 16 = .ok (.putfield 15, 3) := by decide +kernel
theorem dX4_init_19 : decode cX4_init 19 = .ok (.aload_n 0, 1) := by decide +kernel
theorem dX4_init_20 : decode cX4_init 20 = .ok (.iconst 0, 1) := by decide +kernel
theorem dX4_init_21 : decode cX4_init 21 = .ok (.putfield 18, 3) := by decide +kernel
theorem dX4_init_24 : decode cX4_init 24 = .ok (.aload_n 0, 1) := by decide +kernel
theorem dX4_init_25 : decode cX4_init 25 = .ok (.iconst 0, 1) := by decide +kernel
theorem dX4_init_26 : decode cX4_init 26 = .ok (.putfield 22, 3) := by decide +kernel
theorem dX4_init_29 : decode cX4_init 29 = .ok (.aload_n 0, 1) := by decide +kernel
theorem dX4_init_30 : decode cX4_init 30 = .ok (.iconst 0, 1) := by decide +kernel
theorem dX4_init_31 : decode cX4_init 31 = .ok (.putfield 25, 3) := by decide +kernel
theorem dX4_init_34 : decode cX4_init 34 = .ok (.return_, 1) := by decide +kernel
theorem dX4_addInput_0 : decode cX4_addInput 0 = .ok (.aload_n 0, 1) := by decide +kernel
theorem dX4_addInput_1 : decode cX4_addInput 1 = .ok (.getfield 18, 3) := by decide +kernel
theorem dX4_addInput_4 : decode cX4_addInput 4 = .ok (.iconst 4, 1) := by decide +kernel
theorem dX4_addInput_5 : decode cX4_addInput 5 = .ok (.if_icmp .ge 23, 3) := by decide +kernel
theorem dX4_addInput_8 : decode cX4_addInput 8 = .ok (.aload_n 0, 1) := by decide +kernel
theorem dX4_addInput_9 : decode cX4_addInput 9 = .ok (.getfield 9, 3) := by decide +kernel
theorem dX4_addInput_12 : decode cX4_addInput 12 = .ok (.aload_n 0, 1) := by decide +kernel
theorem dX4_addInput_13 : decode cX4_addInput 13 = .ok (.getfield 18, 3) := by decide +kernel
theorem dX4_addInput_16 : decode cX4_addInput 16 = .ok (.iload_n 1, 1) := by decide +kernel
theorem dX4_addInput_17 : decode cX4_addInput 17 = .ok (.iastore, 1) := by decide +kernel
theorem dX4_addInput_18 : decode cX4_addInput 18 = .ok (.aload_n 0, 1) := by decide +kernel
theorem dX4_addInput_19 : decode cX4_addInput 19 = .ok (.dup, 1) := by decide +kernel
theorem dX4_addInput_20 : decode cX4_addInput 20 = .ok (.getfield 18, 3) := by decide +kernel
theorem dX4_addInput_23 : decode cX4_addInput 23 = .ok (.iconst 1, 1) := by decide +kernel
theorem dX4_addInput_24 : decode cX4_addInput 24 = .ok (.iadd, 1) := by decide +kernel
theorem dX4_addInput_25 : decode cX4_addInput 25 = .ok (.putfield 18, 3) := by decide +kernel
theorem dX4_addInput_28 : decode cX4_addInput 28 = .ok (.aload_n 0, 1) := by decide +kernel
theorem dX4_addInput_29 : decode cX4_addInput 29 = .ok (.getfield 18, 3) := by decide +kernel
theorem dX4_addInput_32 : decode cX4_addInput 32 = .ok (.ireturn, 1) := by decide +kernel
theorem dX4_addExpected_0 : decode cX4_addExpected 0 = .ok (.aload_n 0, 1) := by decide +kernel
theorem dX4_addExpected_1 : decode cX4_addExpected 1 = .ok (.getfield 22, 3) := by decide +kernel
theorem dX4_addExpected_4 : decode cX4_addExpected 4 = .ok (.bipush 6, 2) := by decide +kernel
theorem dX4_addExpected_6 : decode cX4_addExpected 6 = .ok (.if_icmp .ge 23, 3) := by decide +kernel
theorem dX4_addExpected_9 : decode cX4_addExpected 9 = .ok (.aload_n 0, 1) := by decide +kernel
theorem dX4_addExpected_10 : decode cX4_addExpected 10 = .ok (.getfield 15, 3) := by decide +kernel
theorem dX4_addExpected_13 : decode cX4_addExpected 13 = .ok (.aload_n 0, 1) := by decide +kernel
theorem dX4_addExpected_14 : decode cX4_addExpected 14 = .ok (.getfield 22, 3) := by decide +kernel
theorem dX4_addExpected_17 : decode cX4_addExpected 17 = .ok (.iload_n 1, 1) := by decide +kernel
theorem dX4_addExpected_18 : decode cX4_addExpected 18 = .ok (.iastore, 1) := by decide +kernel
theorem dX4_addExpected_19 : decode cX4_addExpected 19 = .ok (.aload_n 0, 1) := by decide +kernel
theorem dX4_addExpected_20 : decode cX4_addExpected 20 = .ok (.dup, 1) := by decide +kernel
theorem dX4_addExpected_21 : decode cX4_addExpected 21 = .ok (.getfield 22, 3) := by decide +kernel
theorem dX4_addExpected_24 : decode cX4_addExpected 24 = .ok (.iconst 1, 1) := by decide +kernel
theorem dX4_addExpected_25 : decode cX4_addExpected 25 = .ok (.iadd, 1) := by decide +kernel
theorem dX4_addExpected_26 : decode cX4_addExpected 26 = .ok (.putfield 22, 3) := by decide +kernel
theorem dX4_addExpected_29 : decode cX4_addExpected 29 = .ok (.aload_n 0, 1) := by decide +kernel
theorem dX4_addExpected_30 : decode cX4_addExpected 30 = .ok (.getfield 22, 3) := by decide +kernel
theorem dX4_addExpected_33 : decode cX4_addExpected 33 = .ok (.ireturn, 1) := by decide +kernel
theorem dX4_erase_0 : decode cX4_erase 0 = .ok (.aload_n 0, 1) := by decide +kernel
theorem dX4_erase_1 : decode cX4_erase 1 = .ok (.iconst 0, 1) := by decide +kernel
theorem dX4_erase_2 : decode cX4_erase 2 = .ok (.putfield 18, 3) := by decide +kernel
theorem dX4_erase_5 : decode cX4_erase 5 = .ok (.aload_n 0, 1) := by decide +kernel
theorem dX4_erase_6 : decode cX4_erase 6 = .ok (.iconst 0, 1) := by decide +kernel
theorem dX4_erase_7 : decode cX4_erase 7 = .ok (.putfield 22, 3) := by decide +kernel
theorem dX4_erase_10 : decode cX4_erase 10 = .ok (.return_, 1) := by decide +kernel
theorem dX4_take_0 : decode cX4_take 0 = .ok (.aload_n 0, 1) := by decide +kernel
theorem dX4_take_1 : decode cX4_take 1 = .ok (.aload_n 1, 1) := by decide +kernel
theorem dX4_take_2 : decode cX4_take 2 = .ok (.getfield 18, 3) := by decide +kernel
theorem dX4_take_5 : decode cX4_take 5 = .ok (.putfield 18, 3) := by decide +kernel
theorem dX4_take_8 : decode cX4_take 8 = .ok (.aload_n 0, 1) := by decide +kernel
theorem dX4_take_9 : decode cX4_take 9 = .ok (.aload_n 1, 1) := by decide +kernel
theorem dX4_take_10 : decode cX4_take 10 = .ok (.getfield 22, 3) := by decide +kernel
theorem dX4_take_13 : decode cX4_take 13 = .ok (.putfield 22, 3) := by decide +kernel
theorem dX4_take_16 : decode cX4_take 16 = .ok (.iconst 0, 1) := by decide +kernel
theorem dX4_take_17 : decode cX4_take 17 = .ok (.istore_n 2, 1) := by decide +kernel
theorem dX4_take_18 : decode cX4_take 18 = .ok (.iload_n 2, 1) := by decide +kernel
theorem dX4_take_19 : decode cX4_take 19 = .ok (.aload_n 0, 1) := by decide +kernel
theorem dX4_take_20 : decode cX4_take 20 = .ok (.getfield 18, 3) := by decide +kernel
theorem dX4_take_23 : decode cX4_take 23 = .ok (.if_icmp .ge 21, 3) := by decide +kernel
theorem dX4_take_26 : decode cX4_take 26 = .ok (.aload_n 0, 1) := by decide +kernel
theorem dX4_take_27 : decode cX4_take 27 = .ok (.getfield 9, 3) := by decide +kernel
theorem dX4_take_30 : decode cX4_take 30 = .ok (.iload_n 2, 1) := by decide +kernel
theorem dX4_take_31 : decode cX4_take 31 = .ok (.aload_n 1, 1) := by decide +kernel
theorem dX4_take_32 : decode cX4_take 32 = .ok (.getfield 9, 3) := by decide +kernel
theorem dX4_take_35 : decode cX4_take 35 = .ok (.iload_n 2, 1) := by decide +kernel
theorem dX4_take_36 : decode cX4_take 36 = .ok (.iaload, 1) := by decide +kernel
theorem dX4_take_37 : decode cX4_take 37 = .ok (.iastore, 1) := by decide +kernel
theorem dX4_take_38 : decode cX4_take 38 = .ok (.iinc 2 1, 3) := by decide +kernel
theorem dX4_take_41 : decode cX4_take 41 = .ok (.goto (-23), 3) := by decide +kernel
theorem dX4_take_44 : decode cX4_take 44 = .ok (.iconst 0, 1) := by decide +kernel
theorem dX4_take_45 : decode cX4_take 45 = .ok (.istore_n 2, 1) := by decide +kernel
theorem dX4_take_46 : decode cX4_take 46 = .ok (.iload_n 2, 1) := by decide +kernel
theorem dX4_take_47 : decode cX4_take 47 = .ok (.aload_n 0, 1) := by decide +kernel
theorem dX4_take_48 : decode cX4_take 48 = .ok (.getfield 22, 3) := by decide +kernel
theorem dX4_take_51 : decode cX4_take 51 = .ok (.if_icmp .ge 21, 3) := by decide +kernel
theorem dX4_take_54 : decode cX4_take 54 = .ok (.aload_n 0, 1) := by decide +kernel
theorem dX4_take_55 : decode cX4_take 55 = .ok (.getfield 15, 3) := by decide +kernel
theorem dX4_take_58 : decode cX4_take 58 = .ok (.iload_n 2, 1) := by decide +kernel
theorem dX4_take_59 : decode cX4_take 59 = .ok (.aload_n 1, 1) := by decide +kernel
theorem dX4_take_60 : decode cX4_take 60 = .ok (.getfield 15, 3) := by decide +kernel
theorem dX4_take_63 : decode cX4_take 63 = .ok (.iload_n 2, 1) := by decide +kernel
theorem dX4_take_64 : decode cX4_take 64 = .ok (.iaload, 1) := by decide +kernel
theorem dX4_take_65 : decode cX4_take 65 = .ok (.iastore, 1) := by decide +kernel
theorem dX4_take_66 : decode cX4_take 66 = .ok (.iinc 2 1, 3) := by decide +kernel
theorem dX4_take_69 : decode cX4_take 69 = .ok (.goto (-23), 3) := by decide +kernel
theorem dX4_take_72 : decode cX4_take 72 = .ok (.return_, 1) := by decide +kernel
theorem dX5_init_0 : decode cX5_init 0 = .ok (.aload_n 0, 1) := by decide +kernel
theorem dX5_init_1 : decode cX5_init 1 = .ok (.invokespecial 3, 3) := by decide +kernel
theorem dX5_init_4 : decode cX5_init 4 = .ok (.aload_n 0, 1) := by decide +kernel
theorem dX5_init_5 : decode cX5_init 5 = .ok (.new 9, 3) := by decide +kernel
theorem dX5_init_8 : decode cX5_init 8 = .ok (.dup, 1) := by decide +kernel
theorem dX5_init_9 : decode cX5_init 9 = .ok (.invokespecial 11, 3) := by decide +kernel
theorem dX5_init_12 : decode cX5_init 12 = .ok (.putfield 12, 3) := by decide +kernel
theorem dX5_init_15 : decode cX5_init 15 = .ok (.aload_n 0, 1) := by decide +kernel
theorem dX5_init_16 : decode cX5_init 16 = .ok (.iconst 5, 1) := by decide +kernel
theorem dX5_init_17 : decode cX5_init 17 = .ok (.newarray .int, 2) := by decide +kernel
theorem dX5_init_19 : decode cX5_init 19 = .ok (.putfield 18, 3) := by decide +kernel
theorem dX5_init_22 : decode cX5_init 22 = .ok (.aload_n 0, 1) := by decide +kernel
theorem dX5_init_23 : decode cX5_init 23 = .ok (.bipush 10, 2) := by decide +kernel
theorem dX5_init_25 : decode cX5_init 25 = .ok (.newarray .int, 2) := by decide +kernel
theorem dX5_init_27 : decode cX5_init 27 = .ok (.putfield 22, 3) := by decide +kernel
theorem dX5_init_30 : decode cX5_init 30 = .ok (.aload_n 0, 1) := by decide +kernel
theorem dX5_init_31 : decode cX5_init 31 = .ok (.bipush 10, 2) := by decide +kernel
theorem dX5_init_33 : decode cX5_init 33 = .ok (.newarray .int, 2) := by decide +kernel
theorem dX5_init_35 : decode cX5_init 35 = .ok (.putfield 25, 3) := by decide +kernel
theorem dX5_init_38 : decode cX5_init 38 = .ok (.aload_n 0, 1) := by decide +kernel
theorem dX5_init_39 : decode cX5_init 39 = .ok (.iconst 0, 1) := by decide +kernel
theorem dX5_init_40 : decode cX5_init 40 = .ok (.putfield 28, 3) := by decide +kernel
theorem dX5_init_43 : decode cX5_init 43 = .ok (.aload_n 0, 1) := by decide +kernel
theorem dX5_init_44 : decode cX5_init 44 = .ok (.iconst 0, 1) := by decide +kernel
theorem dX5_init_45 : decode cX5_init 45 = .ok (.putfield 32, 3) := by decide +kernel
theorem dX5_init_48 : decode cX5_init 48 = .ok (.aload_n 0, 1) := by decide +kernel
theorem dX5_init_49 : decode cX5_init 49 = .ok (.iconst 0, 1) := by decide +kernel
theorem dX5_init_50 : decode cX5_init 50 = .ok (.putfield 35, 3) := by decide +kernel
theorem dX5_init_53 : decode cX5_init 53 = .ok (.aload_n 0, 1) := by decide +kernel
theorem dX5_init_54 : decode cX5_init 54 = .ok (.iconst 0, 1) := by decide +kernel
theorem dX5_init_55 : decode cX5_init 55 = .ok (.putfield 38, 3) := by decide +kernel
theorem dX5_init_58 : decode cX5_init 58 = .ok (.aload_n 0, 1) := by decide +kernel
theorem dX5_init_59 : decode cX5_init 59 = .ok (.iconst 0, 1) := by decide +kernel
theorem dX5_init_60 : decode cX5_init 60 = .ok (.putfield 41, 3) := by decide +kernel
theorem dX5_init_63 : decode cX5_init 63 = .ok (.aload_n 0, 1) := by decide +kernel
theorem dX5_init_64 : decode cX5_init 64 = .ok (.iconst 0, 1) := by decide +kernel
theorem dX5_init_65 : decode cX5_init 65 = .ok (.putfield 44, 3) := by decide +kernel
theorem dX5_init_68 : decode cX5_init 68 = .ok (.aload_n 0, 1) := by decide +kernel
theorem dX5_init_69 : decode cX5_init 69 = .ok (.lconst 0, 1) := by decide +kernel
theorem dX5_init_70 : decode cX5_init 70 = .ok (.putfield 47, 3) := by decide +kernel
theorem dX5_init_73 : decode cX5_init 73 = .ok (.aload_n 0, 1) := by decide +kernel
theorem dX5_init_74 : decode cX5_init 74 = .ok (.bipush 115, 2) := by decide +kernel
theorem dX5_init_76 : decode cX5_init 76 = .ok (.putfield 51, 3) := by decide +kernel
theorem dX5_init_79 : decode cX5_init 79 = .ok (.aload_n 0, 1) := by decide +kernel
theorem dX5_init_80 : decode cX5_init 80 = .ok (.iconst 0, 1) := by decide +kernel
theorem dX5_init_81 : decode cX5_init 81 = .ok (.putfield 55, 3) := by decide +kernel
theorem dX5_init_84 : decode cX5_init 84 = .ok (.aload_n 0, 1) := by decide +kernel
theorem dX5_init_85 : decode cX5_init 85 = .ok (.iconst 0, 1) := by decide +kernel
theorem dX5_init_86 : decode cX5_init 86 = .ok (.putfield 59, 3) := by decide +kernel
theorem dX5_init_89 : decode cX5_init 89 = .ok (.aload_n 0, 1) := by decide +kernel
theorem dX5_init_90 : decode cX5_init 90 = .ok (.iconst 0, 1) := by decide +kernel
theorem dX5_init_91 : decode cX5_init 91 = .ok (.putfield 62, 3) := by decide +kernel
theorem dX5_init_94 : decode cX5_init 94 = .ok (.aload_n 0, 1) := by decide +kernel
theorem dX5_init_95 : decode cX5_init 95 = .ok (.iconst 0, 1) := by decide +kernel
theorem dX5_init_96 : decode cX5_init 96 = .ok (.putfield 65, 3) := by decide +kernel
theorem dX5_init_99 : decode cX5_init 99 = .ok (.aload_n 0, 1) := by decide +kernel
theorem dX5_init_100 : decode cX5_init 100 = .ok (.iconst 0, 1) := by decide +kernel
theorem dX5_init_101 : decode cX5_init 101 = .ok (.putfield 68, 3) := by decide +kernel
theorem dX5_init_104 : decode cX5_init 104 = .ok (.return_, 1) := by decide +kernel
theorem dX5_begin_0 : decode cX5_begin 0 = .ok (.aload_n 0, 1) := by decide +kernel
theorem dX5_begin_1 : decode cX5_begin 1 = .ok (.iload_n 1, 1) := by decide +kernel
theorem dX5_begin_2 : decode cX5_begin 2 = .ok (.putfield 38, 3) := by decide +kernel
theorem dX5_begin_5 : decode cX5_begin 5 = .ok (.aload_n 0, 1) := by decide +kernel
theorem dX5_begin_6 : decode cX5_begin 6 = .ok (.iload_n 2, 1) := by decide +kernel
theorem dX5_begin_7 : decode cX5_begin 7 = .ok (.putfield 41, 3) := by decide +kernel
theorem dX5_begin_10 : decode cX5_begin 10 = .ok (.aload_n 0, 1) := by decide +kernel
theorem dX5_begin_11 : decode cX5_begin 11 = .ok (.aload_n 3, 1) := by decide +kernel
theorem dX5_begin_12 : decode cX5_begin 12 = .ok (.getfield 71, 3) := by decide +kernel
theorem dX5_begin_15 : decode cX5_begin 15 = .ok (.putfield 44, 3) := by decide +kernel
theorem dX5_begin_18 : decode cX5_begin 18 = .ok (.aload_n 0, 1) := by decide +kernel
theorem dX5_begin_19 : decode cX5_begin 19 = .ok (.aload_n 3, 1) := by decide +kernel
theorem dX5_begin_20 : decode cX5_begin 20 = .ok (.invokevirtual 72, 3) := by decide +kernel
theorem dX5_begin_23 : decode cX5_begin 23 = .ok (.putfield 47, 3) := by decide +kernel
theorem dX5_begin_26 : decode cX5_begin 26 = .ok (.aload_n 0, 1) := by decide +kernel
theorem dX5_begin_27 : decode cX5_begin 27 = .ok (.bipush 115, 2) := by decide +kernel
theorem dX5_begin_29 : decode cX5_begin 29 = .ok (.putfield 51, 3) := by decide +kernel
theorem dX5_begin_32 : decode cX5_begin 32 = .ok (.aload_n 0, 1) := by decide +kernel
theorem dX5_begin_33 : decode cX5_begin 33 = .ok (.aload_n 3, 1) := by decide +kernel
theorem dX5_begin_34 : decode cX5_begin 34 = .ok (.invokevirtual 76, 3) := by decide +kernel
theorem dX5_begin_37 : decode cX5_begin 37 = .ok (.return_, 1) := by decide +kernel
theorem dX5_regain_0 : decode cX5_regain 0 = .ok (.aload_n 0, 1) := by decide +kernel
theorem dX5_regain_1 : decode cX5_regain 1 = .ok (.getfield 12, 3) := by decide +kernel
theorem dX5_regain_4 : decode cX5_regain 4 = .ok (.aload_n 1, 1) := by decide +kernel
theorem dX5_regain_5 : decode cX5_regain 5 = .ok (.invokevirtual 80, 3) := by decide +kernel
theorem dX5_regain_8 : decode cX5_regain 8 = .ok (.aload_n 0, 1) := by decide +kernel
theorem dX5_regain_9 : decode cX5_regain 9 = .ok (.iconst 1, 1) := by decide +kernel
theorem dX5_regain_10 : decode cX5_regain 10 = .ok (.putfield 55, 3) := by decide +kernel
theorem dX5_regain_13 : decode cX5_regain 13 = .ok (.return_, 1) := by decide +kernel
theorem dX5_isCounted_0 : decode cX5_isCounted 0 = .ok (.aload_n 0, 1) := by decide +kernel
theorem dX5_isCounted_1 : decode cX5_isCounted 1 = .ok (.getfield 51, 3) := by decide +kernel
theorem dX5_isCounted_4 : decode cX5_isCounted 4 = .ok (.bipush 115, 2) := by decide +kernel
theorem dX5_isCounted_6 : decode cX5_isCounted 6 = .ok (.if_icmp .eq 21, 3) := by decide +kernel
theorem dX5_isCounted_9 : decode cX5_isCounted 9 = .ok (.aload_n 0, 1) := by decide +kernel
theorem dX5_isCounted_10 : decode cX5_isCounted 10 = .ok (.getfield 51, 3) := by decide +kernel
theorem dX5_isCounted_13 : decode cX5_isCounted 13 = .ok (.bipush 112, 2) := by decide +kernel
theorem dX5_isCounted_15 : decode cX5_isCounted 15 = .ok (.if_icmp .eq 12, 3) := by decide +kernel
theorem dX5_isCounted_18 : decode cX5_isCounted 18 = .ok (.aload_n 0, 1) := by decide +kernel
theorem dX5_isCounted_19 : decode cX5_isCounted 19 = .ok (.getfield 51, 3) := by decide +kernel
theorem dX5_isCounted_22 : decode cX5_isCounted 22 = .ok (.bipush 99, 2) := by decide +kernel
theorem dX5_isCounted_24 : decode cX5_isCounted 24 = .ok (.if_icmp .ne 7, 3) := by decide +kernel
theorem dX5_isCounted_27 : decode cX5_isCounted 27 = .ok (.iconst 1, 1) := by decide +kernel
theorem dX5_isCounted_28 : decode cX5_isCounted 28 = .ok (.goto 4, 3) := by decide +kernel
theorem dX5_isCounted_31 : decode cX5_isCounted 31 = .ok (.iconst 0, 1) := by decide +kernel
theorem dX5_isCounted_32 : decode cX5_isCounted 32 = .ok (.ireturn, 1) := by decide +kernel
theorem dX5_takeVote_0 : decode cX5_takeVote 0 = .ok (.aload_n 0, 1) := by decide +kernel
theorem dX5_takeVote_1 : decode cX5_takeVote 1 = .ok (.dup, 1) := by decide +kernel
theorem dX5_takeVote_2 : decode cX5_takeVote 2 = .ok (.getfield 28, 3) := by decide +kernel
theorem dX5_takeVote_5 : decode cX5_takeVote 5 = .ok (.aload_n 0, 1) := by decide +kernel
theorem dX5_takeVote_6 : decode cX5_takeVote 6 = .ok (.getfield 22, 3) := by decide +kernel
theorem dX5_takeVote_9 : decode cX5_takeVote 9 = .ok (.iload_n 1, 1) := by decide +kernel
theorem dX5_takeVote_10 : decode cX5_takeVote 10 = .ok (.iaload, 1) := by decide +kernel
theorem dX5_takeVote_11 : decode cX5_takeVote 11 = .ok (.ifCond .ne 7, 3) := by decide +kernel
theorem dX5_takeVote_14 : decode cX5_takeVote 14 = .ok (.iconst 1, 1) := by decide +kernel
theorem dX5_takeVote_15 : decode cX5_takeVote 15 = .ok (.goto 4, 3) := by decide +kernel
theorem dX5_takeVote_18 : decode cX5_takeVote 18 = .ok (.iconst 0, 1) := by decide +kernel
theorem dX5_takeVote_19 : decode cX5_takeVote 19 = .ok (.iadd, 1) := by decide +kernel
theorem dX5_takeVote_20 : decode cX5_takeVote 20 = .ok (.putfield 28, 3) := by decide +kernel
theorem dX5_takeVote_23 : decode cX5_takeVote 23 = .ok (.aload_n 0, 1) := by decide +kernel
theorem dX5_takeVote_24 : decode cX5_takeVote 24 = .ok (.dup, 1) := by decide +kernel
theorem dX5_takeVote_25 : decode cX5_takeVote 25 = .ok (.getfield 32, 3) := by decide +kernel
theorem dX5_takeVote_28 : decode cX5_takeVote 28 = .ok (.iload_n 3, 1) := by decide +kernel
theorem dX5_takeVote_29 : decode cX5_takeVote 29 = .ok (.aload_n 0, 1) := by decide +kernel
theorem dX5_takeVote_30 : decode cX5_takeVote 30 = .ok (.getfield 25, 3) := by decide +kernel
theorem dX5_takeVote_33 : decode cX5_takeVote 33 = .ok (.iload_n 1, 1) := by decide +kernel
theorem dX5_takeVote_34 : decode cX5_takeVote 34 = .ok (.iaload, 1) := by decide +kernel
theorem dX5_takeVote_35 : decode cX5_takeVote 35 = .ok (.isub, 1) := by decide +kernel
theorem dX5_takeVote_36 : decode cX5_takeVote 36 = .ok (.iadd, 1) := by decide +kernel
theorem dX5_takeVote_37 : decode cX5_takeVote 37 = .ok (.putfield 32, 3) := by decide +kernel
theorem dX5_takeVote_40 : decode cX5_takeVote 40 = .ok (.aload_n 0, 1) := by decide +kernel
theorem dX5_takeVote_41 : decode cX5_takeVote 41 = .ok (.dup, 1) := by decide +kernel
theorem dX5_takeVote_42 : decode cX5_takeVote 42 = .ok (.getfield 35, 3) := by decide +kernel
theorem dX5_takeVote_45 : decode cX5_takeVote 45 = .ok (.iload_n 2, 1) := by decide +kernel
theorem dX5_takeVote_46 : decode cX5_takeVote 46 = .ok (.iload_n 3, 1) := by decide +kernel
theorem dX5_takeVote_47 : decode cX5_takeVote 47 = .ok (.imul, 1) := by decide +kernel
theorem dX5_takeVote_48 : decode cX5_takeVote 48 = .ok (.aload_n 0, 1) := by decide +kernel
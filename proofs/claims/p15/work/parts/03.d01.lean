theorem dX2_keepCopy_80 : decode cX2_keepCopy 80 = .ok (.getfield 17, 3) := by decide +kernel
theorem dX2_keepCopy_83 : decode cX2_keepCopy 83 = .ok (.iload 5, 2) := by decide +kernel
theorem dX2_keepCopy_85 : decode cX2_keepCopy 85 = .ok (.aload_n 0, 1) := by decide +kernel
theorem dX2_keepCopy_86 : decode cX2_keepCopy 86 = .ok (.getfield 17, 3) := by decide +kernel
theorem dX2_keepCopy_89 : decode cX2_keepCopy 89 = .ok (.iload 5, 2) := by decide +kernel
theorem dX2_keepCopy_91 : decode cX2_keepCopy 91 = .ok (.iconst 1, 1) := by decide +kernel
theorem dX2_keepCopy_92 : decode cX2_keepCopy 92 = .ok (.iadd, 1) := by decide +kernel
theorem dX2_keepCopy_93 : decode cX2_keepCopy 93 = .ok (.iaload, 1) := by decide +kernel
theorem dX2_keepCopy_94 : decode cX2_keepCopy 94 = .ok (.iastore, 1) := by decide +kernel
theorem dX2_keepCopy_95 : decode cX2_keepCopy 95 = .ok (.iinc 5 1, 3) := by decide +kernel
theorem dX2_keepCopy_98 : decode cX2_keepCopy 98 = .ok (.goto (-46), 3) := by decide +kernel
theorem dX2_keepCopy_101 : decode cX2_keepCopy 101 = .ok (.aload_n 0, 1) := by decide +kernel
theorem dX2_keepCopy_102 : decode cX2_keepCopy 102 = .ok (.getfield 21, 3) := by decide +kernel
theorem dX2_keepCopy_105 : decode cX2_keepCopy 105 = .ok (.iconst 1, 1) := by decide +kernel
theorem dX2_keepCopy_106 : decode cX2_keepCopy 106 = .ok (.isub, 1) := by decide +kernel
theorem dX2_keepCopy_107 : decode cX2_keepCopy 107 = .ok (.istore 5, 2) := by decide +kernel
theorem dX2_keepCopy_109 : decode cX2_keepCopy 109 = .ok (.aload_n 0, 1) := by decide +kernel
theorem dX2_keepCopy_110 : decode cX2_keepCopy 110 = .ok (.getfield 11, 3) := by decide +kernel
theorem dX2_keepCopy_113 : decode cX2_keepCopy 113 = .ok (.iload 5, 2) := by decide +kernel
theorem dX2_keepCopy_115 : decode cX2_keepCopy 115 = .ok (.aload 4, 2) := by decide +kernel
theorem dX2_keepCopy_117 : decode cX2_keepCopy 117 = .ok (.aastore, 1) := by decide +kernel
theorem dX2_keepCopy_118 : decode cX2_keepCopy 118 = .ok (.aload_n 0, 1) := by decide +kernel
theorem dX2_keepCopy_119 : decode cX2_keepCopy 119 = .ok (.getfield 17, 3) := by decide +kernel
theorem dX2_keepCopy_122 : decode cX2_keepCopy 122 = .ok (.iload 5, 2) := by decide +kernel
theorem dX2_keepCopy_124 : decode cX2_keepCopy 124 = .ok (.iload_n 1, 1) := by decide +kernel
theorem dX2_keepCopy_125 : decode cX2_keepCopy 125 = .ok (.iastore, 1) := by decide +kernel
theorem dX2_keepCopy_126 : decode cX2_keepCopy 126 = .ok (.aload 4, 2) := by decide +kernel
theorem dX2_keepCopy_128 : decode cX2_keepCopy 128 = .ok (.aload_n 2, 1) := by decide +kernel
theorem dX2_keepCopy_129 : decode cX2_keepCopy 129 = .ok (.invokevirtual 33, 3) := by decide +kernel
theorem dX2_keepCopy_132 : decode cX2_keepCopy 132 = .ok (.return_, 1) := by decide +kernel
theorem dX3_append_0 : decode cX3_append 0 = .ok (.aload_n 0, 1) := by decide +kernel
theorem dX3_append_1 : decode cX3_append 1 = .ok (.getfield 19, 3) := by decide +kernel
theorem dX3_append_4 : decode cX3_append 4 = .ok (.bipush 24, 2) := by decide +kernel
theorem dX3_append_6 : decode cX3_append 6 = .ok (.if_icmp .ge 33, 3) := by decide +kernel
theorem dX3_append_9 : decode cX3_append 9 = .ok (.aload_n 0, 1) := by decide +kernel
theorem dX3_append_10 : decode cX3_append 10 = .ok (.getfield 9, 3) := by decide +kernel
theorem dX3_append_13 : decode cX3_append 13 = .ok (.aload_n 0, 1) := by decide +kernel
theorem dX3_append_14 : decode cX3_append 14 = .ok (.getfield 19, 3) := by decide +kernel
theorem dX3_append_17 : decode cX3_append 17 = .ok (.iload_n 1, 1) := by decide +kernel
theorem dX3_append_18 : decode cX3_append 18 = .ok (.castore, 1) := by decide +kernel
theorem dX3_append_19 : decode cX3_append 19 = .ok (.aload_n 0, 1) := by decide +kernel
theorem dX3_append_20 : decode cX3_append 20 = .ok (.getfield 15, 3) := by decide +kernel
theorem dX3_append_23 : decode cX3_append 23 = .ok (.aload_n 0, 1) := by decide +kernel
theorem dX3_append_24 : decode cX3_append 24 = .ok (.getfield 19, 3) := by decide +kernel
theorem dX3_append_27 : decode cX3_append 27 = .ok (.iload_n 2, 1) := by decide +kernel
theorem dX3_append_28 : decode cX3_append 28 = .ok (.iastore, 1) := by decide +kernel
theorem dX3_append_29 : decode cX3_append 29 = .ok (.aload_n 0, 1) := by decide +kernel
theorem dX3_append_30 : decode cX3_append 30 = .ok (.dup, 1) := by decide +kernel
theorem dX3_append_31 : decode cX3_append 31 = .ok (.getfield 19, 3) := by decide +kernel
theorem dX3_append_34 : decode cX3_append 34 = .ok (.iconst 1, 1) := by decide +kernel
theorem dX3_append_35 : decode cX3_append 35 = .ok (.iadd, 1) := by decide +kernel
theorem dX3_append_36 : decode cX3_append 36 = .ok (.putfield 19, 3) := by decide +kernel
theorem dX3_append_39 : decode cX3_append 39 = .ok (.return_, 1) := by decide +kernel
theorem dX3_erase_0 : decode cX3_erase 0 = .ok (.aload_n 0, 1) := by decide +kernel
theorem dX3_erase_1 : decode cX3_erase 1 = .ok (.iconst 0, 1) := by decide +kernel
theorem dX3_erase_2 : decode cX3_erase 2 = .ok (.putfield 19, 3) := by decide +kernel
theorem dX3_erase_5 : decode cX3_erase 5 = .ok (.return_, 1) := by decide +kernel
theorem dX3_take_0 : decode cX3_take 0 = .ok (.aload_n 0, 1) := by decide +kernel
theorem dX3_take_1 : decode cX3_take 1 = .ok (.aload_n 1, 1) := by decide +kernel
theorem dX3_take_2 : decode cX3_take 2 = .ok (.getfield 19, 3) := by decide +kernel
theorem dX3_take_5 : decode cX3_take 5 = .ok (.putfield 19, 3) := by decide +kernel
theorem dX3_take_8 : decode cX3_take 8 = .ok (.iconst 0, 1) := by decide +kernel
theorem dX3_take_9 : decode cX3_take 9 = .ok (.istore_n 2, 1) := by decide +kernel
theorem dX3_take_10 : decode cX3_take 10 = .ok (.iload_n 2, 1) := by decide +kernel
theorem dX3_take_11 : decode cX3_take 11 = .ok (.aload_n 0, 1) := by decide +kernel
theorem dX3_take_12 : decode cX3_take 12 = .ok (.getfield 19, 3) := by decide +kernel
theorem dX3_take_15 : decode cX3_take 15 = .ok (.if_icmp .ge 33, 3) := by decide +kernel
theorem dX3_take_18 : decode cX3_take 18 = .ok (.aload_n 0, 1) := by decide +kernel
theorem dX3_take_19 : decode cX3_take 19 = .ok (.getfield 9, 3) := by decide +kernel
theorem dX3_take_22 : decode cX3_take 22 = .ok (.iload_n 2, 1) := by decide +kernel
theorem dX3_take_23 : decode cX3_take 23 = .ok (.aload_n 1, 1) := by decide +kernel
theorem dX3_take_24 : decode cX3_take 24 = .ok (.getfield 9, 3) := by decide +kernel
theorem dX3_take_27 : decode cX3_take 27 = .ok (.iload_n 2, 1) := by decide +kernel
theorem dX3_take_28 : decode cX3_take 28 = .ok (.caload, 1) := by decide +kernel
theorem dX3_take_29 : decode cX3_take 29 = .ok (.castore, 1) := by decide +kernel
theorem dX3_take_30 : decode cX3_take 30 = .ok (.aload_n 0, 1) := by decide +kernel
theorem dX3_take_31 : decode cX3_take 31 = .ok (.getfield 15, 3) := by decide +kernel
theorem dX3_take_34 : decode cX3_take 34 = .ok (.iload_n 2, 1) := by decide +kernel
theorem dX3_take_35 : decode cX3_take 35 = .ok (.aload_n 1, 1) := by decide +kernel
theorem dX3_take_36 : decode cX3_take 36 = .ok (.getfield 15, 3) := by decide +kernel
theorem dX3_take_39 : decode cX3_take 39 = .ok (.iload_n 2, 1) := by decide +kernel
theorem dX3_take_40 : decode cX3_take 40 = .ok (.iaload, 1) := by decide +kernel
theorem dX3_take_41 : decode cX3_take 41 = .ok (.iastore, 1) := by decide +kernel
theorem dX3_take_42 : decode cX3_take 42 = .ok (.iinc 2 1, 3) := by decide +kernel
theorem dX3_take_45 : decode cX3_take 45 = .ok (.goto (-35), 3) := by decide +kernel
theorem dX3_take_48 : decode cX3_take 48 = .ok (.return_, 1) := by decide +kernel
theorem dX3_isWhole_0 : decode cX3_isWhole 0 = .ok (.iconst 0, 1) := by decide +kernel
theorem dX3_isWhole_1 : decode cX3_isWhole 1 = .ok (.istore_n 1, 1) := by decide +kernel
theorem dX3_isWhole_2 : decode cX3_isWhole 2 = .ok (.iconst 0, 1) := by decide +kernel
theorem dX3_isWhole_3 : decode cX3_isWhole 3 = .ok (.istore_n 2, 1) := by decide +kernel
theorem dX3_isWhole_4 : decode cX3_isWhole 4 = .ok (.iload_n 2, 1) := by decide +kernel
theorem dX3_isWhole_5 : decode cX3_isWhole 5 = .ok (.aload_n 0, 1) := by decide +kernel
theorem dX3_isWhole_6 : decode cX3_isWhole 6 = .ok (.getfield 19, 3) := by decide +kernel
theorem dX3_isWhole_9 : decode cX3_isWhole 9 = .ok (.if_icmp .ge 46, 3) := by decide +kernel
theorem dX3_isWhole_12 : decode cX3_isWhole 12 = .ok (.aload_n 0, 1) := by decide +kernel
theorem dX3_isWhole_13 : decode cX3_isWhole 13 = .ok (.getfield 9, 3) := by decide +kernel
theorem dX3_isWhole_16 : decode cX3_isWhole 16 = .ok (.iload_n 2, 1) := by decide +kernel
theorem dX3_isWhole_17 : decode cX3_isWhole 17 = .ok (.caload, 1) := by decide +kernel
theorem dX3_isWhole_18 : decode cX3_isWhole 18 = .ok (.bipush 91, 2) := by decide +kernel
theorem dX3_isWhole_20 : decode cX3_isWhole 20 = .ok (.if_icmp .ne 9, 3) := by decide +kernel
theorem dX3_isWhole_23 : decode cX3_isWhole 23 = .ok (.iinc 1 1, 3) := by decide +kernel
theorem dX3_isWhole_26 : decode cX3_isWhole 26 = .ok (.goto 17, 3) := by decide +kernel
theorem dX3_isWhole_29 : decode cX3_isWhole 29 = .ok (.aload_n 0, 1) := by decide +kernel
theorem dX3_isWhole_30 : decode cX3_isWhole 30 = .ok (.getfield 9, 3) := by decide +kernel
theorem dX3_isWhole_33 : decode cX3_isWhole 33 = .ok (.iload_n 2, 1) := by decide +kernel
theorem dX3_isWhole_34 : decode cX3_isWhole 34 = .ok (.caload, 1) := by decide +kernel
theorem dX3_isWhole_35 : decode cX3_isWhole 35 = .ok (.bipush 93, 2) := by decide +kernel
theorem dX3_isWhole_37 : decode cX3_isWhole 37 = .ok (.if_icmp .ne 6, 3) := by decide +kernel
theorem dX3_isWhole_40 : decode cX3_isWhole 40 = .ok (.iinc 1 (-1), 3) := by decide +kernel
theorem dX3_isWhole_43 : decode cX3_isWhole 43 = .ok (.iload_n 1, 1) := by decide +kernel
theorem dX3_isWhole_44 : decode cX3_isWhole 44 = .ok (.ifCond .ge 5, 3) := by decide +kernel
theorem dX3_isWhole_47 : decode cX3_isWhole 47 = .ok (.iconst 0, 1) := by decide +kernel
theorem dX3_isWhole_48 : decode cX3_isWhole 48 = .ok (.ireturn, 1) := by decide +kernel
theorem dX3_isWhole_49 : decode cX3_isWhole 49 = .ok (.iinc 2 1, 3) := by decide +kernel
theorem dX3_isWhole_52 : decode cX3_isWhole 52 = .ok (.goto (-48), 3) := by decide +kernel
theorem dX3_isWhole_55 : decode cX3_isWhole 55 = .ok (.iload_n 1, 1) := by decide +kernel
theorem dX3_isWhole_56 : decode cX3_isWhole 56 = .ok (.ifCond .ne 7, 3) := by decide +kernel
theorem dX3_isWhole_59 : decode cX3_isWhole 59 = .ok (.iconst 1, 1) := by decide +kernel
theorem dX3_isWhole_60 : decode cX3_isWhole 60 = .ok (.goto 4, 3) := by decide +kernel
theorem dX3_isWhole_63 : decode cX3_isWhole 63 = .ok (.iconst 0, 1) := by decide +kernel
theorem dX3_isWhole_64 : decode cX3_isWhole 64 = .ok (.ireturn, 1) := by decide +kernel
theorem dX3_sumOfAll_0 : decode cX3_sumOfAll 0 = .ok (.ldc2_w 23, 3) := by decide +kernel
theorem dX3_sumOfAll_3 : decode cX3_sumOfAll 3 = .ok (.lstore_n 1, 1) := by decide +kernel
theorem dX3_sumOfAll_4 : decode cX3_sumOfAll 4 = .ok (.iconst 0, 1) := by decide +kernel
theorem dX3_sumOfAll_5 : decode cX3_sumOfAll 5 = .ok (.istore_n 3, 1) := by decide +kernel
theorem dX3_sumOfAll_6 : decode cX3_sumOfAll 6 = .ok (.iload_n 3, 1) := by decide +kernel
theorem dX3_sumOfAll_7 : decode cX3_sumOfAll 7 = .ok (.aload_n 0, 1) := by decide +kernel
theorem dX3_sumOfAll_8 : decode cX3_sumOfAll 8 = .ok (.getfield 19, 3) := by decide +kernel
theorem dX3_sumOfAll_11 : decode cX3_sumOfAll 11 = .ok (.if_icmp .ge 37, 3) := by decide +kernel
theorem dX3_sumOfAll_14 : decode cX3_sumOfAll 14 = .ok (.lload_n 1, 1) := by decide +kernel
theorem dX3_sumOfAll_15 : decode cX3_sumOfAll 15 = .ok (.ldc2_w 25, 3) := by decide +kernel
theorem dX3_sumOfAll_18 : decode cX3_sumOfAll 18 = .ok (.lmul, 1) := by decide +kernel
theorem dX3_sumOfAll_19 : decode cX3_sumOfAll 19 = .ok (.aload_n 0, 1) := by decide +kernel
theorem dX3_sumOfAll_20 : decode cX3_sumOfAll 20 = .ok (.getfield 9, 3) := by decide +kernel
theorem dX3_sumOfAll_23 : decode cX3_sumOfAll 23 = .ok (.iload_n 3, 1) := by decide +kernel
theorem dX3_sumOfAll_24 : decode cX3_sumOfAll 24 = .ok (.caload, 1) := by decide +kernel
theorem dX3_sumOfAll_25 : decode cX3_sumOfAll 25 = .ok (.i2l, 1) := by decide +kernel
theorem dX3_sumOfAll_26 : decode cX3_sumOfAll 26 = .ok (.ladd, 1) := by decide +kernel
theorem dX3_sumOfAll_27 : decode cX3_sumOfAll 27 = .ok (.lstore_n 1, 1) := by decide +kernel
theorem dX3_sumOfAll_28 : decode cX3_sumOfAll 28 = .ok (.lload_n 1, 1) := by decide +kernel
theorem dX3_sumOfAll_29 : decode cX3_sumOfAll 29 = .ok (.ldc2_w 25, 3) := by decide +kernel
theorem dX3_sumOfAll_32 : decode cX3_sumOfAll 32 = .ok (.lmul, 1) := by decide +kernel
theorem dX3_sumOfAll_33 : decode cX3_sumOfAll 33 = .ok (.aload_n 0, 1) := by decide +kernel
theorem dX3_sumOfAll_34 : decode cX3_sumOfAll 34 = .ok (.getfield 15, 3) := by decide +kernel
theorem dX3_sumOfAll_37 : decode cX3_sumOfAll 37 = .ok (.iload_n 3, 1) := by decide +kernel
theorem dX3_sumOfAll_38 : decode cX3_sumOfAll 38 = .ok (.iaload, 1) := by decide +kernel
theorem dX3_sumOfAll_39 : decode cX3_sumOfAll 39 = .ok (.i2l, 1) := by decide +kernel
theorem dX3_sumOfAll_40 : decode cX3_sumOfAll 40 = .ok (.ladd, 1) := by decide +kernel
theorem dX3_sumOfAll_41 : decode cX3_sumOfAll 41 = .ok (.lstore_n 1, 1) := by decide +kernel
theorem dX3_sumOfAll_42 : decode cX3_sumOfAll 42 = .ok (.iinc 3 1, 3) := by decide +kernel
theorem dX3_sumOfAll_45 : decode cX3_sumOfAll 45 = .ok (.goto (-39), 3) := by decide +kernel
theorem dX3_sumOfAll_48 : decode cX3_sumOfAll 48 = .ok (.lload_n 1, 1) := by decide +kernel
theorem dX3_sumOfAll_49 : decode cX3_sumOfAll 49 = .ok (.lreturn, 1) := by decide +kernel
theorem dX4_addInput_0 : decode cX4_addInput 0 = .ok (.aload_n 0, 1) := by decide +kernel
theorem dX4_addInput_1 : decode cX4_addInput 1 = .ok (.getfield 18, 3) := by decide +kernel
theorem dX4_addInput_4 : decode cX4_addInput 4 = .ok (.iconst 4, 1) := by decide +kernel
theorem dX4_addInput_5 : decode cX4_addInput 5 = .ok (.if_icmp .ge 23, 3) := by decide +kernel
theorem dX4_addInput_8 : decode cX4_addInput 8 = .ok (.aload_n 0, 1) := by decide +kernel
theorem dX4_addInput_9 : decode cX4_addInput 9 = .ok (.getfield 9, 3) := by decide +kernel
theorem dX4_addInput_12 : decode cX4_addInput 12 = .ok (.aload_n 0, 1) := by decide +kernel
theorem dX4_addInput_13 : decode cX4_addInput 13 = .ok (.getfield 18, 3) := by decide +kernel
theorem dX4_addInput_16 : decode cX4_addInput 16 = .ok (.iload_n 1, 1) := by decide +kernel
theorem dX4_addInput_17 : decode cX4_addInput 17 = .ok (.iastore, 1) := by decide +kernel
theorem dX4_addInput_18 : decode cX4_addInput 18 = .ok (.aload_n 0, 1) := by decide +kernel
theorem dX4_addInput_19 : decode cX4_addInput 19 = .ok (.dup, 1) := by decide +kernel
theorem dX4_addInput_20 : decode cX4_addInput 20 = .ok (.getfield 18, 3) := by decide +kernel
theorem dX4_addInput_23 : decode cX4_addInput 23 = .ok (.iconst 1, 1) := by decide +kernel
theorem dX4_addInput_24 : decode cX4_addInput 24 = .ok (.iadd, 1) := by decide +kernel
theorem dX4_addInput_25 : decode cX4_addInput 25 = .ok (.putfield 18, 3) := by decide +kernel
theorem dX4_addInput_28 : decode cX4_addInput 28 = .ok (.aload_n 0, 1) := by decide +kernel
theorem dX4_addInput_29 : decode cX4_addInput 29 = .ok (.getfield 18, 3) := by decide +kernel
theorem dX4_addInput_32 : decode cX4_addInput 32 = .ok (.ireturn, 1) := by decide +kernel
theorem dX4_addExpected_0 : decode cX4_addExpected 0 = .ok (.aload_n 0, 1) := by decide +kernel
theorem dX4_addExpected_1 : decode cX4_addExpected 1 = .ok (.getfield 22, 3) := by decide +kernel
theorem dX4_addExpected_4 : decode cX4_addExpected 4 = .ok (.bipush 6, 2) := by decide +kernel
theorem dX4_addExpected_6 : decode cX4_addExpected 6 = .ok (.if_icmp .ge 23, 3) := by decide +kernel
theorem dX4_addExpected_9 : decode cX4_addExpected 9 = .ok (.aload_n 0, 1) := by decide +kernel
theorem dX4_addExpected_10 : decode cX4_addExpected 10 = .ok (.getfield 15, 3) := by decide +kernel
theorem dX4_addExpected_13 : decode cX4_addExpected 13 = .ok (.aload_n 0, 1) := by decide +kernel
theorem dX4_addExpected_14 : decode cX4_addExpected 14 = .ok (.getfield 22, 3) := by decide +kernel
theorem dX4_addExpected_17 : decode cX4_addExpected 17 = .ok (.iload_n 1, 1) := by decide +kernel
theorem dX4_addExpected_18 : decode cX4_addExpected 18 = .ok (.iastore, 1) := by decide +kernel
theorem dX4_addExpected_19 : decode cX4_addExpected 19 = .ok (.aload_n 0, 1) := by decide +kernel
theorem dX4_addExpected_20 : decode cX4_addExpected 20 = .ok (.dup, 1) := by decide +kernel
theorem dX4_addExpected_21 : decode cX4_addExpected 21 = .ok (.getfield 22, 3) := by decide +kernel
theorem dX4_addExpected_24 : decode cX4_addExpected 24 = .ok (.iconst 1, 1) := by decide +kernel
theorem dX4_addExpected_25 : decode cX4_addExpected 25 = .ok (.iadd, 1) := by decide +kernel
theorem dX4_addExpected_26 : decode cX4_addExpected 26 = .ok (.putfield 22, 3) := by decide +kernel
theorem dX4_addExpected_29 : decode cX4_addExpected 29 = .ok (.aload_n 0, 1) := by decide +kernel
theorem dX4_addExpected_30 : decode cX4_addExpected 30 = .ok (.getfield 22, 3) := by decide +kernel
theorem dX4_addExpected_33 : decode cX4_addExpected 33 = .ok (.ireturn, 1) := by decide +kernel
theorem dX4_erase_0 : decode cX4_erase 0 = .ok (.aload_n 0, 1) := by decide +kernel
theorem dX4_erase_1 : decode cX4_erase 1 = .ok (.iconst 0, 1) := by decide +kernel
theorem dX4_erase_2 : decode cX4_erase 2 = .ok (.putfield 18, 3) := by decide +kernel
theorem dX4_erase_5 : decode cX4_erase 5 = .ok (.aload_n 0, 1) := by decide +kernel
theorem dX4_erase_6 : decode cX4_erase 6 = .ok (.iconst 0, 1) := by decide +kernel
theorem dX4_erase_7 : decode cX4_erase 7 = .ok (.putfield 22, 3) := by decide +kernel
theorem dX4_erase_10 : decode cX4_erase 10 = .ok (.return_, 1) := by decide +kernel
theorem dX4_take_0 : decode cX4_take 0 = .ok (.aload_n 0, 1) := by decide +kernel
theorem dX4_take_1 : decode cX4_take 1 = .ok (.aload_n 1, 1) := by decide +kernel
theorem dX4_take_2 : decode cX4_take 2 = .ok (.getfield 18, 3) := by decide +kernel
theorem dX4_take_5 : decode cX4_take 5 = .ok (.putfield 18, 3) := by decide +kernel
theorem dX4_take_8 : decode cX4_take 8 = .ok (.aload_n 0, 1) := by decide +kernel
theorem dX4_take_9 : decode cX4_take 9 = .ok (.aload_n 1, 1) := by decide +kernel
theorem dX4_take_10 : decode cX4_take 10 = .ok (.getfield 22, 3) := by decide +kernel
theorem dX4_take_13 : decode cX4_take 13 = .ok (.putfield 22, 3) := by decide +kernel
theorem dX4_take_16 : decode cX4_take 16 = .ok (.iconst 0, 1) := by decide +kernel
theorem dX4_take_17 : decode cX4_take 17 = .ok (.istore_n 2, 1) := by decide +kernel
theorem dX4_take_18 : decode cX4_take 18 = .ok (.iload_n 2, 1) := by decide +kernel
theorem dX4_take_19 : decode cX4_take 19 = .ok (.aload_n 0, 1) := by decide +kernel
theorem dX4_take_20 : decode cX4_take 20 = .ok (.getfield 18, 3) := by decide +kernel
theorem dX4_take_23 : decode cX4_take 23 = .ok (.if_icmp .ge 21, 3) := by decide +kernel
theorem dX4_take_26 : decode cX4_take 26 = .ok (.aload_n 0, 1) := by decide +kernel
theorem dX4_take_27 : decode cX4_take 27 = .ok (.getfield 9, 3) := by decide +kernel
theorem dX4_take_30 : decode cX4_take 30 = .ok (.iload_n 2, 1) := by decide +kernel
theorem dX4_take_31 : decode cX4_take 31 = .ok (.aload_n 1, 1) := by decide +kernel
theorem dX4_take_32 : decode cX4_take 32 = .ok (.getfield 9, 3) := by decide +kernel
theorem dX4_take_35 : decode cX4_take 35 = .ok (.iload_n 2, 1) := by decide +kernel
theorem dX4_take_36 : decode cX4_take 36 = .ok (.iaload, 1) := by decide +kernel
theorem dX4_take_37 : decode cX4_take 37 = .ok (.iastore, 1) := by decide +kernel
theorem dX4_take_38 : decode cX4_take 38 = .ok (.iinc 2 1, 3) := by decide +kernel
theorem dX4_take_41 : decode cX4_take 41 = .ok (.goto (-23), 3) := by decide +kernel
theorem dX4_take_44 : decode cX4_take 44 = .ok (.iconst 0, 1) := by decide +kernel
theorem dX4_take_45 : decode cX4_take 45 = .ok (.istore_n 2, 1) := by decide +kernel
theorem dX4_take_46 : decode cX4_take 46 = .ok (.iload_n 2, 1) := by decide +kernel
theorem dX4_take_47 : decode cX4_take 47 = .ok (.aload_n 0, 1) := by decide +kernel
theorem dX4_take_48 : decode cX4_take 48 = .ok (.getfield 22, 3) := by decide +kernel
theorem dX4_take_51 : decode cX4_take 51 = .ok (.if_icmp .ge 21, 3) := by decide +kernel
theorem dX4_take_54 : decode cX4_take 54 = .ok (.aload_n 0, 1) := by decide +kernel
theorem dX4_take_55 : decode cX4_take 55 = .ok (.getfield 15, 3) := by decide +kernel
theorem dX4_take_58 : decode cX4_take 58 = .ok (.iload_n 2, 1) := by decide +kernel
theorem dX4_take_59 : decode cX4_take 59 = .ok (.aload_n 1, 1) := by decide +kernel
theorem dX4_take_60 : decode cX4_take 60 = .ok (.getfield 15, 3) := by decide +kernel
theorem dX4_take_63 : decode cX4_take 63 = .ok (.iload_n 2, 1) := by decide +kernel
theorem dX4_take_64 : decode cX4_take 64 = .ok (.iaload, 1) := by decide +kernel
theorem dX4_take_65 : decode cX4_take 65 = .ok (.iastore, 1) := by decide +kernel
theorem dX4_take_66 : decode cX4_take 66 = .ok (.iinc 2 1, 3) := by decide +kernel
theorem dX4_take_69 : decode cX4_take 69 = .ok (.goto (-23), 3) := by decide +kernel
theorem dX4_take_72 : decode cX4_take 72 = .ok (.return_, 1) := by decide +kernel
theorem dX5_begin_0 : decode cX5_begin 0 = .ok (.aload_n 0, 1) := by decide +kernel
theorem dX5_begin_1 : decode cX5_begin 1 = .ok (.iload_n 1, 1) := by decide +kernel
theorem dX5_begin_2 : decode cX5_begin 2 = .ok (.putfield 38, 3) := by decide +kernel
theorem dX5_begin_5 : decode cX5_begin 5 = .ok (.aload_n 0, 1) := by decide +kernel
theorem dX5_begin_6 : decode cX5_begin 6 = .ok (.iload_n 2, 1) := by decide +kernel
theorem dX5_begin_7 : decode cX5_begin 7 = .ok (.putfield 41, 3) := by decide +kernel
theorem dX5_begin_10 : decode cX5_begin 10 = .ok (.aload_n 0, 1) := by decide +kernel
theorem dX5_begin_11 : decode cX5_begin 11 = .ok (.aload_n 3, 1) := by decide +kernel
theorem dX5_begin_12 : decode cX5_begin 12 = .ok (.getfield 71, 3) := by decide +kernel
theorem dX5_begin_15 : decode cX5_begin 15 = .ok (.putfield 44, 3) := by decide +kernel
theorem dX5_begin_18 : decode cX5_begin 18 = .ok (.aload_n 0, 1) := by decide +kernel
theorem dX5_begin_19 : decode cX5_begin 19 = .ok (.aload_n 3, 1) := by decide +kernel
theorem dX5_begin_20 : decode cX5_begin 20 = .ok (.invokevirtual 72, 3) := by decide +kernel
theorem dX5_begin_23 : decode cX5_begin 23 = .ok (.putfield 47, 3) := by decide +kernel
theorem dX5_begin_26 : decode cX5_begin 26 = .ok (.aload_n 0, 1) := by decide +kernel
theorem dX5_begin_27 : decode cX5_begin 27 = .ok (.bipush 115, 2) := by decide +kernel
theorem dX5_begin_29 : decode cX5_begin 29 = .ok (.putfield 51, 3) := by decide +kernel
theorem dX5_begin_32 : decode cX5_begin 32 = .ok (.aload_n 0, 1) := by decide +kernel
theorem dX5_begin_33 : decode cX5_begin 33 = .ok (.aload_n 3, 1) := by decide +kernel
theorem dX5_begin_34 : decode cX5_begin 34 = .ok (.invokevirtual 76, 3) := by decide +kernel
theorem dX5_begin_37 : decode cX5_begin 37 = .ok (.return_, 1) := by decide +kernel
theorem dX5_regain_0 : decode cX5_regain 0 = .ok (.aload_n 0, 1) := by decide +kernel
theorem dX5_regain_1 : decode cX5_regain 1 = .ok (.getfield 12, 3) := by decide +kernel
theorem dX5_regain_4 : decode cX5_regain 4 = .ok (.aload_n 1, 1) := by decide +kernel
theorem dX5_regain_5 : decode cX5_regain 5 = .ok (.invokevirtual 80, 3) := by decide +kernel
theorem dX5_regain_8 : decode cX5_regain 8 = .ok (.aload_n 0, 1) := by decide +kernel
theorem dX5_regain_9 : decode cX5_regain 9 = .ok (.iconst 1, 1) := by decide +kernel
theorem dX5_regain_10 : decode cX5_regain 10 = .ok (.putfield 55, 3) := by decide +kernel
theorem dX5_regain_13 : decode cX5_regain 13 = .ok (.return_, 1) := by decide +kernel
theorem dX5_isCounted_0 : decode cX5_isCounted 0 = .ok (.aload_n 0, 1) := by decide +kernel
theorem dX5_isCounted_1 : decode cX5_isCounted 1 = .ok (.getfield 51, 3) := by decide +kernel
theorem dX5_isCounted_4 : decode cX5_isCounted 4 = .ok (.bipush 115, 2) := by decide +kernel
theorem dX5_isCounted_6 : decode cX5_isCounted 6 = .ok (.if_icmp .eq 21, 3) := by decide +kernel
theorem dX5_isCounted_9 : decode cX5_isCounted 9 = .ok (.aload_n 0, 1) := by decide +kernel
theorem dX5_isCounted_10 : decode cX5_isCounted 10 = .ok (.getfield 51, 3) := by decide +kernel
theorem dX5_isCounted_13 : decode cX5_isCounted 13 = .ok (.bipush 112, 2) := by decide +kernel
theorem dX5_isCounted_15 : decode cX5_isCounted 15 = .ok (.if_icmp .eq 12, 3) := by decide +kernel
theorem dX5_isCounted_18 : decode cX5_isCounted 18 = .ok (.aload_n 0, 1) := by decide +kernel
theorem dX5_isCounted_19 : decode cX5_isCounted 19 = .ok (.getfield 51, 3) := by decide +kernel
theorem dX5_isCounted_22 : decode cX5_isCounted 22 = .ok (.bipush 99, 2) := by decide +kernel
theorem dX5_isCounted_24 : decode cX5_isCounted 24 = .ok (.if_icmp .ne 7, 3) := by decide +kernel
theorem dX5_isCounted_27 : decode cX5_isCounted 27 = .ok (.iconst 1, 1) := by decide +kernel
theorem dX5_isCounted_28 : decode cX5_isCounted 28 = .ok (.goto 4, 3) := by decide +kernel
theorem dX5_isCounted_31 : decode cX5_isCounted 31 = .ok (.iconst 0, 1) := by decide +kernel
theorem dX5_isCounted_32 : decode cX5_isCounted 32 = .ok (.ireturn, 1) := by decide +kernel
theorem dX5_takeVote_0 : decode cX5_takeVote 0 = .ok (.aload_n 0, 1) := by decide +kernel
theorem dX5_takeVote_1 : decode cX5_takeVote 1 = .ok (.dup, 1) := by decide +kernel
theorem dX5_takeVote_2 : decode cX5_takeVote 2 = .ok (.getfield 28, 3) := by decide +kernel
theorem dX5_takeVote_5 : decode cX5_takeVote 5 = .ok (.aload_n 0, 1) := by decide +kernel
theorem dX5_takeVote_6 : decode cX5_takeVote 6 = .ok (.getfield 22, 3) := by decide +kernel
theorem dX5_takeVote_9 : decode cX5_takeVote 9 = .ok (.iload_n 1, 1) := by decide +kernel
theorem dX5_takeVote_10 : decode cX5_takeVote 10 = .ok (.iaload, 1) := by decide +kernel
theorem dX5_takeVote_11 : decode cX5_takeVote 11 = .ok (.ifCond .ne 7, 3) := by decide +kernel
theorem dX5_takeVote_14 : decode cX5_takeVote 14 = .ok (.iconst 1, 1) := by decide +kernel
theorem dX5_takeVote_15 : decode cX5_takeVote 15 = .ok (.goto 4, 3) := by decide +kernel
theorem dX5_takeVote_18 : decode cX5_takeVote 18 = .ok (.iconst 0, 1) := by decide +kernel
theorem dX5_takeVote_19 : decode cX5_takeVote 19 = .ok (.iadd, 1) := by decide +kernel
theorem dX5_takeVote_20 : decode cX5_takeVote 20 = .ok (.putfield 28, 3) := by decide +kernel
theorem dX5_takeVote_23 : decode cX5_takeVote 23 = .ok (.aload_n 0, 1) := by decide +kernel
theorem dX5_takeVote_24 : decode cX5_takeVote 24 = .ok (.dup, 1) := by decide +kernel
theorem dX5_takeVote_25 : decode cX5_takeVote 25 = .ok (.getfield 32, 3) := by decide +kernel
theorem dX5_takeVote_28 : decode cX5_takeVote 28 = .ok (.iload_n 3, 1) := by decide +kernel
theorem dX5_takeVote_29 : decode cX5_takeVote 29 = .ok (.aload_n 0, 1) := by decide +kernel
theorem dX5_takeVote_30 : decode cX5_takeVote 30 = .ok (.getfield 25, 3) := by decide +kernel
theorem dX5_takeVote_33 : decode cX5_takeVote 33 = .ok (.iload_n 1, 1) := by decide +kernel
theorem dX5_takeVote_34 : decode cX5_takeVote 34 = .ok (.iaload, 1) := by decide +kernel
theorem dX5_takeVote_35 : decode cX5_takeVote 35 = .ok (.isub, 1) := by decide +kernel
theorem dX5_takeVote_36 : decode cX5_takeVote 36 = .ok (.iadd, 1) := by decide +kernel
theorem dX5_takeVote_37 : decode cX5_takeVote 37 = .ok (.putfield 32, 3) := by decide +kernel
theorem dX5_takeVote_40 : decode cX5_takeVote 40 = .ok (.aload_n 0, 1) := by decide +kernel
theorem dX5_takeVote_41 : decode cX5_takeVote 41 = .ok (.dup, 1) := by decide +kernel
theorem dX5_takeVote_42 : decode cX5_takeVote 42 = .ok (.getfield 35, 3) := by decide +kernel
theorem dX5_takeVote_45 : decode cX5_takeVote 45 = .ok (.iload_n 2, 1) := by decide +kernel
theorem dX5_takeVote_46 : decode cX5_takeVote 46 = .ok (.iload_n 3, 1) := by decide +kernel
theorem dX5_takeVote_47 : decode cX5_takeVote 47 = .ok (.imul, 1) := by decide +kernel
theorem dX5_takeVote_48 : decode cX5_takeVote 48 = .ok (.aload_n 0, 1) := by decide +kernel
theorem dX5_takeVote_49 : decode cX5_takeVote 49 = .ok (.getfield 22, 3) := by decide +kernel
theorem dX5_takeVote_52 : decode cX5_takeVote 52 = .ok (.iload_n 1, 1) := by decide +kernel
theorem dX5_takeVote_53 : decode cX5_takeVote 53 = .ok (.iaload, 1) := by decide +kernel
theorem dX5_takeVote_54 : decode cX5_takeVote 54 = .ok (.aload_n 0, 1) := by decide +kernel
theorem dX5_takeVote_55 : decode cX5_takeVote 55 = .ok (.getfield 25, 3) := by decide +kernel
theorem dX5_takeVote_58 : decode cX5_takeVote 58 = .ok (.iload_n 1, 1) := by decide +kernel
theorem dX5_takeVote_59 : decode cX5_takeVote 59 = .ok (.iaload, 1) := by decide +kernel
theorem dX5_takeVote_60 : decode cX5_takeVote 60 = .ok (.imul, 1) := by decide +kernel
theorem dX5_takeVote_61 : decode cX5_takeVote 61 = .ok (.isub, 1) := by decide +kernel
theorem dX5_takeVote_62 : decode cX5_takeVote 62 = .ok (.iadd, 1) := by decide +kernel
theorem dX5_takeVote_63 : decode cX5_takeVote 63 = .ok (.putfield 35, 3) := by decide +kernel
theorem dX5_takeVote_66 : decode cX5_takeVote 66 = .ok (.aload_n 0, 1) := by decide +kernel
theorem dX5_takeVote_67 : decode cX5_takeVote 67 = .ok (.getfield 22, 3) := by decide +kernel
theorem dX5_takeVote_70 : decode cX5_takeVote 70 = .ok (.iload_n 1, 1) := by decide +kernel
theorem dX5_takeVote_71 : decode cX5_takeVote 71 = .ok (.iload_n 2, 1) := by decide +kernel
theorem dX5_takeVote_72 : decode cX5_takeVote 72 = .ok (.iastore, 1) := by decide +kernel
theorem dX5_takeVote_73 : decode cX5_takeVote 73 = .ok (.aload_n 0, 1) := by decide +kernel
theorem dX5_takeVote_74 : decode cX5_takeVote 74 = .ok (.getfield 25, 3) := by decide +kernel
theorem dX5_takeVote_77 : decode cX5_takeVote 77 = .ok (.iload_n 1, 1) := by decide +kernel
theorem dX5_takeVote_78 : decode cX5_takeVote 78 = .ok (.iload_n 3, 1) := by decide +kernel
theorem dX5_takeVote_79 : decode cX5_takeVote 79 = .ok (.iastore, 1) := by decide +kernel
theorem dX5_takeVote_80 : decode cX5_takeVote 80 = .ok (.return_, 1) := by decide +kernel
theorem dX5_areSumsOfVotes_0 : decode cX5_areSumsOfVotes 0 = .ok (.iconst 0, 1) := by decide +kernel
theorem dX5_areSumsOfVotes_1 : decode cX5_areSumsOfVotes 1 = .ok (.istore_n 1, 1) := by decide +kernel
theorem dX5_areSumsOfVotes_2 : decode cX5_areSumsOfVotes 2 = .ok (.iconst 0, 1) := by decide +kernel
theorem dX5_areSumsOfVotes_3 : decode cX5_areSumsOfVotes 3 = .ok (.istore_n 2, 1) := by decide +kernel
theorem dX5_areSumsOfVotes_4 : decode cX5_areSumsOfVotes 4 = .ok (.bipush 9, 2) := by decide +kernel
theorem dX5_areSumsOfVotes_6 : decode cX5_areSumsOfVotes 6 = .ok (.istore_n 3, 1) := by decide +kernel
theorem dX5_areSumsOfVotes_7 : decode cX5_areSumsOfVotes 7 = .ok (.iload_n 3, 1) := by decide +kernel
theorem dX5_areSumsOfVotes_8 : decode cX5_areSumsOfVotes 8 = .ok (.ifCond .lt 34, 3) := by decide +kernel
theorem dX5_areSumsOfVotes_11 : decode cX5_areSumsOfVotes 11 = .ok (.iload_n 1, 1) := by decide +kernel
theorem dX5_areSumsOfVotes_12 : decode cX5_areSumsOfVotes 12 = .ok (.aload_n 0, 1) := by decide +kernel
theorem dX5_areSumsOfVotes_13 : decode cX5_areSumsOfVotes 13 = .ok (.getfield 25, 3) := by decide +kernel
theorem dX5_areSumsOfVotes_16 : decode cX5_areSumsOfVotes 16 = .ok (.iload_n 3, 1) := by decide +kernel
theorem dX5_areSumsOfVotes_17 : decode cX5_areSumsOfVotes 17 = .ok (.iaload, 1) := by decide +kernel
theorem dX5_areSumsOfVotes_18 : decode cX5_areSumsOfVotes 18 = .ok (.iadd, 1) := by decide +kernel
theorem dX5_areSumsOfVotes_19 : decode cX5_areSumsOfVotes 19 = .ok (.istore_n 1, 1) := by decide +kernel
theorem dX5_areSumsOfVotes_20 : decode cX5_areSumsOfVotes 20 = .ok (.iload_n 2, 1) := by decide +kernel
theorem dX5_areSumsOfVotes_21 : decode cX5_areSumsOfVotes 21 = .ok (.aload_n 0, 1) := by decide +kernel
theorem dX5_areSumsOfVotes_22 : decode cX5_areSumsOfVotes 22 = .ok (.getfield 22, 3) := by decide +kernel
theorem dX5_areSumsOfVotes_25 : decode cX5_areSumsOfVotes 25 = .ok (.iload_n 3, 1) := by decide +kernel
theorem dX5_areSumsOfVotes_26 : decode cX5_areSumsOfVotes 26 = .ok (.iaload, 1) := by decide +kernel
theorem dX5_areSumsOfVotes_27 : decode cX5_areSumsOfVotes 27 = .ok (.aload_n 0, 1) := by decide +kernel
theorem dX5_areSumsOfVotes_28 : decode cX5_areSumsOfVotes 28 = .ok (.getfield 25, 3) := by decide +kernel
theorem dX5_areSumsOfVotes_31 : decode cX5_areSumsOfVotes 31 = .ok (.iload_n 3, 1) := by decide +kernel
theorem dX5_areSumsOfVotes_32 : decode cX5_areSumsOfVotes 32 = .ok (.iaload, 1) := by decide +kernel
theorem dX5_areSumsOfVotes_33 : decode cX5_areSumsOfVotes 33 = .ok (.imul, 1) := by decide +kernel
theorem dX5_areSumsOfVotes_34 : decode cX5_areSumsOfVotes 34 = .ok (.iadd, 1) := by decide +kernel
theorem dX5_areSumsOfVotes_35 : decode cX5_areSumsOfVotes 35 = .ok (.istore_n 2, 1) := by decide +kernel
theorem dX5_areSumsOfVotes_36 : decode cX5_areSumsOfVotes 36 = .ok (.iinc 3 (-1), 3) := by decide +kernel
theorem dX5_areSumsOfVotes_39 : decode cX5_areSumsOfVotes 39 = .ok (.goto (-32), 3) := by decide +kernel
theorem dX5_areSumsOfVotes_42 : decode cX5_areSumsOfVotes 42 = .ok (.iload_n 1, 1) := by decide +kernel
theorem dX5_areSumsOfVotes_43 : decode cX5_areSumsOfVotes 43 = .ok (.aload_n 0, 1) := by decide +kernel
theorem dX5_areSumsOfVotes_44 : decode cX5_areSumsOfVotes 44 = .ok (.getfield 32, 3) := by decide +kernel
theorem dX5_areSumsOfVotes_47 : decode cX5_areSumsOfVotes 47 = .ok (.if_icmp .ne 15, 3) := by decide +kernel
theorem dX5_areSumsOfVotes_50 : decode cX5_areSumsOfVotes 50 = .ok (.iload_n 2, 1) := by decide +kernel
theorem dX5_areSumsOfVotes_51 : decode cX5_areSumsOfVotes 51 = .ok (.aload_n 0, 1) := by decide +kernel
theorem dX5_areSumsOfVotes_52 : decode cX5_areSumsOfVotes 52 = .ok (.getfield 35, 3) := by decide +kernel
theorem dX5_areSumsOfVotes_55 : decode cX5_areSumsOfVotes 55 = .ok (.if_icmp .ne 7, 3) := by decide +kernel
theorem dX5_areSumsOfVotes_58 : decode cX5_areSumsOfVotes 58 = .ok (.iconst 1, 1) := by decide +kernel
theorem dX5_areSumsOfVotes_59 : decode cX5_areSumsOfVotes 59 = .ok (.goto 4, 3) := by decide +kernel
theorem dX5_areSumsOfVotes_62 : decode cX5_areSumsOfVotes 62 = .ok (.iconst 0, 1) := by decide +kernel
theorem dX5_areSumsOfVotes_63 : decode cX5_areSumsOfVotes 63 = .ok (.ireturn, 1) := by decide +kernel
theorem dX5_styleAbove_0 : decode cX5_styleAbove 0 = .ok (.aload_n 0, 1) := by decide +kernel
theorem dX5_styleAbove_1 : decode cX5_styleAbove 1 = .ok (.getfield 32, 3) := by decide +kernel
theorem dX5_styleAbove_4 : decode cX5_styleAbove 4 = .ok (.ifCond .ne 7, 3) := by decide +kernel
theorem dX5_styleAbove_7 : decode cX5_styleAbove 7 = .ok (.iconst 1, 1) := by decide +kernel
theorem dX5_styleAbove_8 : decode cX5_styleAbove 8 = .ok (.goto 7, 3) := by decide +kernel
theorem dX5_styleAbove_11 : decode cX5_styleAbove 11 = .ok (.aload_n 0, 1) := by decide +kernel
theorem dX5_styleAbove_12 : decode cX5_styleAbove 12 = .ok (.getfield 35, 3) := by decide +kernel
theorem dX5_styleAbove_15 : decode cX5_styleAbove 15 = .ok (.ireturn, 1) := by decide +kernel
theorem dX5_styleUnder_0 : decode cX5_styleUnder 0 = .ok (.aload_n 0, 1) := by decide +kernel
theorem dX5_styleUnder_1 : decode cX5_styleUnder 1 = .ok (.getfield 32, 3) := by decide +kernel
theorem dX5_styleUnder_4 : decode cX5_styleUnder 4 = .ok (.ifCond .ne 7, 3) := by decide +kernel
theorem dX5_styleUnder_7 : decode cX5_styleUnder 7 = .ok (.iconst 1, 1) := by decide +kernel
theorem dX5_styleUnder_8 : decode cX5_styleUnder 8 = .ok (.goto 7, 3) := by decide +kernel
theorem dX5_styleUnder_11 : decode cX5_styleUnder 11 = .ok (.aload_n 0, 1) := by decide +kernel
theorem dX5_styleUnder_12 : decode cX5_styleUnder 12 = .ok (.getfield 32, 3) := by decide +kernel
theorem dX5_styleUnder_15 : decode cX5_styleUnder 15 = .ok (.ireturn, 1) := by decide +kernel
theorem dX5_hasGreaterStyleThan_0 : decode cX5_hasGreaterStyleThan 0 = .ok (.aload_n 0, 1) := by decide +kernel
theorem dX5_hasGreaterStyleThan_1 : decode cX5_hasGreaterStyleThan 1 = .ok (.invokevirtual 83, 3) := by decide +kernel
theorem dX5_hasGreaterStyleThan_4 : decode cX5_hasGreaterStyleThan 4 = .ok (.aload_n 1, 1) := by decide +kernel
theorem dX5_hasGreaterStyleThan_5 : decode cX5_hasGreaterStyleThan 5 = .ok (.invokevirtual 87, 3) := by decide +kernel
theorem dX5_hasGreaterStyleThan_8 : decode cX5_hasGreaterStyleThan 8 = .ok (.imul, 1) := by decide +kernel
theorem dX5_hasGreaterStyleThan_9 : decode cX5_hasGreaterStyleThan 9 = .ok (.aload_n 1, 1) := by decide +kernel
theorem dX5_hasGreaterStyleThan_10 : decode cX5_hasGreaterStyleThan 10 = .ok (.invokevirtual 83, 3) := by decide +kernel
theorem dX5_hasGreaterStyleThan_13 : decode cX5_hasGreaterStyleThan 13 = .ok (.aload_n 0, 1) := by decide +kernel
theorem dX5_hasGreaterStyleThan_14 : decode cX5_hasGreaterStyleThan 14 = .ok (.invokevirtual 87, 3) := by decide +kernel
theorem dX5_hasGreaterStyleThan_17 : decode cX5_hasGreaterStyleThan 17 = .ok (.imul, 1) := by decide +kernel
theorem dX5_hasGreaterStyleThan_18 : decode cX5_hasGreaterStyleThan 18 = .ok (.if_icmp .le 7, 3) := by decide +kernel
theorem dX5_hasGreaterStyleThan_21 : decode cX5_hasGreaterStyleThan 21 = .ok (.iconst 1, 1) := by decide +kernel
theorem dX5_hasGreaterStyleThan_22 : decode cX5_hasGreaterStyleThan 22 = .ok (.goto 4, 3) := by decide +kernel
theorem dX5_hasGreaterStyleThan_25 : decode cX5_hasGreaterStyleThan 25 = .ok (.iconst 0, 1) := by decide +kernel
theorem dX5_hasGreaterStyleThan_26 : decode cX5_hasGreaterStyleThan 26 = .ok (.ireturn, 1) := by decide +kernel
theorem dX6_step_0 : decode cX6_step 0 = .ok (.ldc 84, 2) := by decide +kernel
theorem dX6_step_2 : decode cX6_step 2 = .ok (.iload_n 1, 1) := by decide +kernel
theorem dX6_step_3 : decode cX6_step 3 = .ok (.invokevirtual 86, 3) := by decide +kernel
theorem dX6_step_6 : decode cX6_step 6 = .ok (.ifCond .ge 13, 3) := by decide +kernel
theorem dX6_step_9 : decode cX6_step 9 = .ok (.new 92, 3) := by decide +kernel
theorem dX6_step_12 : decode cX6_step 12 = .ok (.dup, 1) := by decide +kernel
theorem dX6_step_13 : decode cX6_step 13 = .ok (.ldc 94, 2) := by decide +kernel
theorem dX6_step_15 : decode cX6_step 15 = .ok (.invokespecial 96, 3) := by decide +kernel
theorem dX6_step_18 : decode cX6_step 18 = .ok (.athrow, 1) := by decide +kernel
theorem dX6_step_19 : decode cX6_step 19 = .ok (.iload_n 1, 1) := by decide +kernel
theorem dX6_step_20 : decode cX6_step 20 = .ok (.bipush 110, 2) := by decide +kernel
theorem dX6_step_22 : decode cX6_step 22 = .ok (.if_icmp .ne 7, 3) := by decide +kernel
theorem dX6_step_25 : decode cX6_step 25 = .ok (.iconst 1, 1) := by decide +kernel
theorem dX6_step_26 : decode cX6_step 26 = .ok (.goto 4, 3) := by decide +kernel
theorem dX6_step_29 : decode cX6_step 29 = .ok (.iconst 0, 1) := by decide +kernel
theorem dX6_step_30 : decode cX6_step 30 = .ok (.istore_n 3, 1) := by decide +kernel
theorem dX6_step_31 : decode cX6_step 31 = .ok (.iload_n 3, 1) := by decide +kernel
theorem dX6_step_32 : decode cX6_step 32 = .ok (.ifCond .eq 20, 3) := by decide +kernel
theorem dX6_step_35 : decode cX6_step 35 = .ok (.iload_n 2, 1) := by decide +kernel
theorem dX6_step_36 : decode cX6_step 36 = .ok (.invokestatic 99, 3) := by decide +kernel
theorem dX6_step_39 : decode cX6_step 39 = .ok (.ifCond .eq 13, 3) := by decide +kernel
theorem dX6_step_42 : decode cX6_step 42 = .ok (.new 92, 3) := by decide +kernel
theorem dX6_step_45 : decode cX6_step 45 = .ok (.dup, 1) := by decide +kernel
theorem dX6_step_46 : decode cX6_step 46 = .ok (.ldc 103, 2) := by decide +kernel
theorem dX6_step_48 : decode cX6_step 48 = .ok (.invokespecial 96, 3) := by decide +kernel
theorem dX6_step_51 : decode cX6_step 51 = .ok (.athrow, 1) := by decide +kernel
theorem dX6_step_52 : decode cX6_step 52 = .ok (.aload_n 0, 1) := by decide +kernel
theorem dX6_step_53 : decode cX6_step 53 = .ok (.getfield 10, 3) := by decide +kernel
theorem dX6_step_56 : decode cX6_step 56 = .ok (.getfield 105, 3) := by decide +kernel
theorem dX6_step_59 : decode cX6_step 59 = .ok (.bipush 24, 2) := by decide +kernel
theorem dX6_step_61 : decode cX6_step 61 = .ok (.if_icmp .lt 13, 3) := by decide +kernel
theorem dX6_step_64 : decode cX6_step 64 = .ok (.new 108, 3) := by decide +kernel
theorem dX6_step_67 : decode cX6_step 67 = .ok (.dup, 1) := by decide +kernel
theorem dX6_step_68 : decode cX6_step 68 = .ok (.ldc 110, 2) := by decide +kernel
theorem dX6_step_70 : decode cX6_step 70 = .ok (.invokespecial 112, 3) := by decide +kernel
theorem dX6_step_73 : decode cX6_step 73 = .ok (.athrow, 1) := by decide +kernel
theorem dX6_step_74 : decode cX6_step 74 = .ok (.aload_n 0, 1) := by decide +kernel
theorem dX6_step_75 : decode cX6_step 75 = .ok (.getfield 10, 3) := by decide +kernel
theorem dX6_step_78 : decode cX6_step 78 = .ok (.iload_n 1, 1) := by decide +kernel
theorem dX6_step_79 : decode cX6_step 79 = .ok (.iload_n 3, 1) := by decide +kernel
theorem dX6_step_80 : decode cX6_step 80 = .ok (.ifCond .eq 7, 3) := by decide +kernel
theorem dX6_step_83 : decode cX6_step 83 = .ok (.iload_n 2, 1) := by decide +kernel
theorem dX6_step_84 : decode cX6_step 84 = .ok (.goto 4, 3) := by decide +kernel
theorem dX6_step_87 : decode cX6_step 87 = .ok (.iconst 0, 1) := by decide +kernel
theorem dX6_step_88 : decode cX6_step 88 = .ok (.invokevirtual 113, 3) := by decide +kernel
theorem dX6_step_91 : decode cX6_step 91 = .ok (.aload_n 0, 1) := by decide +kernel
theorem dX6_step_92 : decode cX6_step 92 = .ok (.getfield 10, 3) := by decide +kernel
theorem dX6_step_95 : decode cX6_step 95 = .ok (.getfield 105, 3) := by decide +kernel
theorem dX6_step_98 : decode cX6_step 98 = .ok (.ireturn, 1) := by decide +kernel
theorem dX6_wipe_0 : decode cX6_wipe 0 = .ok (.aload_n 0, 1) := by decide +kernel
theorem dX6_wipe_1 : decode cX6_wipe 1 = .ok (.getfield 10, 3) := by decide +kernel
theorem dX6_wipe_4 : decode cX6_wipe 4 = .ok (.getfield 105, 3) := by decide +kernel
theorem dX6_wipe_7 : decode cX6_wipe 7 = .ok (.istore_n 1, 1) := by decide +kernel
theorem dX6_wipe_8 : decode cX6_wipe 8 = .ok (.aload_n 0, 1) := by decide +kernel
theorem dX6_wipe_9 : decode cX6_wipe 9 = .ok (.getfield 10, 3) := by decide +kernel
theorem dX6_wipe_12 : decode cX6_wipe 12 = .ok (.invokevirtual 117, 3) := by decide +kernel
theorem dX6_wipe_15 : decode cX6_wipe 15 = .ok (.iload_n 1, 1) := by decide +kernel
theorem dX6_wipe_16 : decode cX6_wipe 16 = .ok (.ireturn, 1) := by decide +kernel
theorem dX6_number_0 : decode cX6_number 0 = .ok (.iload_n 1, 1) := by decide +kernel
theorem dX6_number_1 : decode cX6_number 1 = .ok (.invokestatic 99, 3) := by decide +kernel
theorem dX6_number_4 : decode cX6_number 4 = .ok (.ifCond .eq 13, 3) := by decide +kernel
theorem dX6_number_7 : decode cX6_number 7 = .ok (.new 92, 3) := by decide +kernel
theorem dX6_number_10 : decode cX6_number 10 = .ok (.dup, 1) := by decide +kernel
theorem dX6_number_11 : decode cX6_number 11 = .ok (.ldc 103, 2) := by decide +kernel
theorem dX6_number_13 : decode cX6_number 13 = .ok (.invokespecial 96, 3) := by decide +kernel
theorem dX6_number_16 : decode cX6_number 16 = .ok (.athrow, 1) := by decide +kernel
theorem dX6_number_17 : decode cX6_number 17 = .ok (.iload_n 2, 1) := by decide +kernel
theorem dX6_number_18 : decode cX6_number 18 = .ok (.ifCond .eq 18, 3) := by decide +kernel
theorem dX6_number_21 : decode cX6_number 21 = .ok (.aload_n 0, 1) := by decide +kernel
theorem dX6_number_22 : decode cX6_number 22 = .ok (.getfield 19, 3) := by decide +kernel
theorem dX6_number_25 : decode cX6_number 25 = .ok (.getfield 120, 3) := by decide +kernel
theorem dX6_number_28 : decode cX6_number 28 = .ok (.bipush 6, 2) := by decide +kernel
theorem dX6_number_30 : decode cX6_number 30 = .ok (.if_icmp .lt 27, 3) := by decide +kernel
theorem dX6_number_33 : decode cX6_number 33 = .ok (.goto 14, 3) := by decide +kernel
theorem dX6_number_36 : decode cX6_number 36 = .ok (.aload_n 0, 1) := by decide +kernel
theorem dX6_number_37 : decode cX6_number 37 = .ok (.getfield 19, 3) := by decide +kernel
theorem dX6_number_40 : decode cX6_number 40 = .ok (.getfield 123, 3) := by decide +kernel
theorem dX6_number_43 : decode cX6_number 43 = .ok (.iconst 4, 1) := by decide +kernel
theorem dX6_number_44 : decode cX6_number 44 = .ok (.if_icmp .lt 13, 3) := by decide +kernel
theorem dX6_number_47 : decode cX6_number 47 = .ok (.new 108, 3) := by decide +kernel
theorem dX6_number_50 : decode cX6_number 50 = .ok (.dup, 1) := by decide +kernel
theorem dX6_number_51 : decode cX6_number 51 = .ok (.ldc 126, 2) := by decide +kernel
theorem dX6_number_53 : decode cX6_number 53 = .ok (.invokespecial 112, 3) := by decide +kernel
theorem dX6_number_56 : decode cX6_number 56 = .ok (.athrow, 1) := by decide +kernel
theorem dX6_number_57 : decode cX6_number 57 = .ok (.iload_n 2, 1) := by decide +kernel
theorem dX6_number_58 : decode cX6_number 58 = .ok (.ifCond .eq 14, 3) := by decide +kernel
theorem dX6_number_61 : decode cX6_number 61 = .ok (.aload_n 0, 1) := by decide +kernel
theorem dX6_number_62 : decode cX6_number 62 = .ok (.getfield 19, 3) := by decide +kernel
theorem dX6_number_65 : decode cX6_number 65 = .ok (.iload_n 1, 1) := by decide +kernel
theorem dX6_number_66 : decode cX6_number 66 = .ok (.invokevirtual 128, 3) := by decide +kernel
theorem dX6_number_69 : decode cX6_number 69 = .ok (.goto 11, 3) := by decide +kernel
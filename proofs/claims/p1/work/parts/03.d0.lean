theorem dX0_init_0 : decode cX0_init 0 = .ok (.aload_n 0, 1) := by decide +kernel
theorem dX0_init_1 : decode cX0_init 1 = .ok (.invokespecial 3, 3) := by decide +kernel
theorem dX0_init_4 : decode cX0_init 4 = .ok (.aload_n 0, 1) := by decide +kernel
theorem dX0_init_5 : decode cX0_init 5 = .ok (.iconst 5, 1) := by decide +kernel
theorem dX0_init_6 : decode cX0_init 6 = .ok (.anewarray 9, 3) := by decide +kernel
theorem dX0_init_9 : decode cX0_init 9 = .ok (.putfield 11, 3) := by decide +kernel
theorem dX0_init_12 : decode cX0_init 12 = .ok (.aload_n 0, 1) := by decide +kernel
theorem dX0_init_13 : decode cX0_init 13 = .ok (.iconst 0, 1) := by decide +kernel
theorem dX0_init_14 : decode cX0_init 14 = .ok (.putfield 17, 3) := by decide +kernel
theorem dX0_init_17 : decode cX0_init 17 = .ok (.aload_n 0, 1) := by decide +kernel
theorem dX0_init_18 : decode cX0_init 18 = .ok (.iconst 0, 1) := by decide +kernel
theorem dX0_init_19 : decode cX0_init 19 = .ok (.putfield 21, 3) := by decide +kernel
theorem dX0_init_22 : decode cX0_init 22 = .ok (.iconst 0, 1) := by decide +kernel
theorem dX0_init_23 : decode cX0_init 23 = .ok (.istore_n 1, 1) := by decide +kernel
theorem dX0_init_24 : decode cX0_init 24 = .ok (.iload_n 1, 1) := by decide +kernel
theorem dX0_init_25 : decode cX0_init 25 = .ok (.iconst 5, 1) := by decide +kernel
theorem dX0_init_26 : decode cX0_init 26 = .ok (.if_icmp .ge 22, 3) := by decide +kernel
theorem dX0_init_29 : decode cX0_init 29 = .ok (.aload_n 0, 1) := by decide +kernel
theorem dX0_init_30 : decode cX0_init 30 = .ok (.getfield 11, 3) := by decide +kernel
theorem dX0_init_33 : decode cX0_init 33 = .ok (.iload_n 1, 1) := by decide +kernel
theorem dX0_init_34 : decode cX0_init 34 = .ok (.new 9, 3) := by decide +kernel
theorem dX0_init_37 : decode cX0_init 37 = .ok (.dup, 1) := by decide +kernel
theorem dX0_init_38 : decode cX0_init 38 = .ok (.invokespecial 24, 3) := by decide +kernel
theorem dX0_init_41 : decode cX0_init 41 = .ok (.aastore, 1) := by decide +kernel
theorem dX0_init_42 : decode cX0_init 42 = .ok (.iinc 1 1, 3) := by decide +kernel
theorem dX0_init_45 : decode cX0_init 45 = .ok (.goto (-21), 3) := by decide +kernel
theorem dX0_init_48 : decode cX0_init 48 = .ok (.return_, 1) := by decide +kernel
theorem dX1_init_0 : decode cX1_init 0 = .ok (.aload_n 0, 1) := by decide +kernel
theorem dX1_init_1 : decode cX1_init 1 = .ok (.invokespecial 3, 3) := by decide +kernel
theorem dX1_init_4 : decode cX1_init 4 = .ok (.aload_n 0, 1) := by decide +kernel
theorem dX1_init_5 : decode cX1_init 5 = .ok (.bipush 12, 2) := by decide +kernel
theorem dX1_init_7 : decode cX1_init 7 = .ok (.newarray .int, 2) := by decide +kernel
theorem dX1_init_9 : decode cX1_init 9 = .ok (.putfield 9, 3) := by decide +kernel
theorem dX1_init_12 : decode cX1_init 12 = .ok (.aload_n 0, 1) := by decide +kernel
theorem dX1_init_13 : decode cX1_init 13 = .ok (.bipush 6, 2) := by decide +kernel
theorem dX1_init_15 : decode cX1_init 15 = .ok (.newarray .int, 2) := by decide +kernel
theorem dX1_init_17 : decode cX1_init 17 = .ok (.putfield 15, 3) := by decide +kernel
theorem dX1_init_20 : decode cX1_init 20 = .ok (.aload_n 0, 1) := by decide +kernel
theorem dX1_init_21 : decode cX1_init 21 = .ok (.bipush 24, 2) := by decide +kernel
theorem dX1_init_23 : decode cX1_init 23 = .ok (.newarray .int, 2) := by decide +kernel
theorem dX1_init_25 : decode cX1_init 25 = .ok (.putfield 18, 3) := by decide +kernel
theorem dX1_init_28 : decode cX1_init 28 = .ok (.aload_n 0, 1) := by decide +kernel
theorem dX1_init_29 : decode cX1_init 29 = .ok (.bipush 24, 2) := by decide +kernel
theorem dX1_init_31 : decode cX1_init 31 = .ok (.newarray .int, 2) := by decide +kernel
theorem dX1_init_33 : decode cX1_init 33 = .ok (.putfield 21, 3) := by decide +kernel
theorem dX1_init_36 : decode cX1_init 36 = .ok (.aload_n 0, 1) := by decide +kernel
theorem dX1_init_37 : decode cX1_init 37 = .ok (.iconst 0, 1) := by decide +kernel
theorem dX1_init_38 : decode cX1_init 38 = .ok (.putfield 24, 3) := by decide +kernel
theorem dX1_init_41 : decode cX1_init 41 = .ok (.aload_n 0, 1) := by decide +kernel
theorem dX1_init_42 : decode cX1_init 42 = .ok (.iconst 0, 1) := by decide +kernel
theorem dX1_init_43 : decode cX1_init 43 = .ok (.putfield 28, 3) := by decide +kernel
theorem dX1_init_46 : decode cX1_init 46 = .ok (.aload_n 0, 1) := by decide +kernel
theorem dX1_init_47 : decode cX1_init 47 = .ok (.iconst 0, 1) := by decide +kernel
theorem dX1_init_48 : decode cX1_init 48 = .ok (.putfield 31, 3) := by decide +kernel
theorem dX1_init_51 : decode cX1_init 51 = .ok (.aload_n 0, 1) := by decide +kernel
theorem dX1_init_52 : decode cX1_init 52 = .ok (.iconst 0, 1) := by decide +kernel
theorem dX1_init_53 : decode cX1_init 53 = .ok (.putfield 34, 3) := by decide +kernel
theorem dX1_init_56 : decode cX1_init 56 = .ok (.aload_n 0, 1) := by decide +kernel
theorem dX1_init_57 : decode cX1_init 57 = .ok (.iconst 0, 1) := by decide +kernel
theorem dX1_init_58 : decode cX1_init 58 = .ok (.putfield 37, 3) := by decide +kernel
theorem dX1_init_61 : decode cX1_init 61 = .ok (.return_, 1) := by decide +kernel
theorem dX2_init_0 : decode cX2_init 0 = .ok (.aload_n 0, 1) := by decide +kernel
theorem dX2_init_1 : decode cX2_init 1 = .ok (.invokespecial 3, 3) := by decide +kernel
theorem dX2_init_4 : decode cX2_init 4 = .ok (.aload_n 0, 1) := by decide +kernel
theorem dX2_init_5 : decode cX2_init 5 = .ok (.iconst 3, 1) := by decide +kernel
theorem dX2_init_6 : decode cX2_init 6 = .ok (.anewarray 9, 3) := by decide +kernel
theorem dX2_init_9 : decode cX2_init 9 = .ok (.putfield 11, 3) := by decide +kernel
theorem dX2_init_12 : decode cX2_init 12 = .ok (.aload_n 0, 1) := by decide +kernel
theorem dX2_init_13 : decode cX2_init 13 = .ok (.iconst 3, 1) := by decide +kernel
theorem dX2_init_14 : decode cX2_init 14 = .ok (.newarray .int, 2) := by decide +kernel
theorem dX2_init_16 : decode cX2_init 16 = .ok (.putfield 17, 3) := by decide +kernel
theorem dX2_init_19 : decode cX2_init 19 = .ok (.aload_n 0, 1) := by decide +kernel
theorem dX2_init_20 : decode cX2_init 20 = .ok (.iconst 0, 1) := by decide +kernel
theorem dX2_init_21 : decode cX2_init 21 = .ok (.putfield 21, 3) := by decide +kernel
theorem dX2_init_24 : decode cX2_init 24 = .ok (.aload_n 0, 1) := by decide +kernel
theorem dX2_init_25 : decode cX2_init 25 = .ok (.bipush 10, 2) := by decide +kernel
theorem dX2_init_27 : decode cX2_init 27 = .ok (.putfield 25, 3) := by decide +kernel
theorem dX2_init_30 : decode cX2_init 30 = .ok (.iconst 0, 1) := by decide +kernel
theorem dX2_init_31 : decode cX2_init 31 = .ok (.istore_n 1, 1) := by decide +kernel
theorem dX2_init_32 : decode cX2_init 32 = .ok (.iload_n 1, 1) := by decide +kernel
theorem dX2_init_33 : decode cX2_init 33 = .ok (.iconst 3, 1) := by decide +kernel
theorem dX2_init_34 : decode cX2_init 34 = .ok (.if_icmp .ge 22, 3) := by decide +kernel
theorem dX2_init_37 : decode cX2_init 37 = .ok (.aload_n 0, 1) := by decide +kernel
theorem dX2_init_38 : decode cX2_init 38 = .ok (.getfield 11, 3) := by decide +kernel
theorem dX2_init_41 : decode cX2_init 41 = .ok (.iload_n 1, 1) := by decide +kernel
theorem dX2_init_42 : decode cX2_init 42 = .ok (.new 9, 3) := by decide +kernel
theorem dX2_init_45 : decode cX2_init 45 = .ok (.dup, 1) := by decide +kernel
theorem dX2_init_46 : decode cX2_init 46 = .ok (.invokespecial 28, 3) := by decide +kernel
theorem dX2_init_49 : decode cX2_init 49 = .ok (.aastore, 1) := by decide +kernel
theorem dX2_init_50 : decode cX2_init 50 = .ok (.iinc 1 1, 3) := by decide +kernel
theorem dX2_init_53 : decode cX2_init 53 = .ok (.goto (-21), 3) := by decide +kernel
theorem dX2_init_56 : decode cX2_init 56 = .ok (.return_, 1) := by decide +kernel
theorem dX3_init_0 : decode cX3_init 0 = .ok (.aload_n 0, 1) := by decide +kernel
theorem dX3_init_1 : decode cX3_init 1 = .ok (.invokespecial 3, 3) := by decide +kernel
theorem dX3_init_4 : decode cX3_init 4 = .ok (.aload_n 0, 1) := by decide +kernel
theorem dX3_init_5 : decode cX3_init 5 = .ok (.bipush 24, 2) := by decide +kernel
theorem dX3_init_7 : decode cX3_init 7 = .ok (.newarray .char, 2) := by decide +kernel
theorem dX3_init_9 : decode cX3_init 9 = .ok (.putfield 9, 3) := by decide +kernel
theorem dX3_init_12 : decode cX3_init 12 = .ok (.aload_n 0, 1) := by decide +kernel
theorem dX3_init_13 : decode cX3_init 13 = .ok (.bipush 24, 2) := by decide +kernel
theorem dX3_init_15 : decode cX3_init 15 = .ok (.newarray .int, 2) := by decide +kernel
theorem dX3_init_17 : decode cX3_init 17 = .ok (.putfield 15, 3) := by decide +kernel
theorem dX3_init_20 : decode cX3_init 20 = .ok (.aload_n 0, 1) := by decide +kernel
theorem dX3_init_21 : decode cX3_init 21 = .ok (.iconst 0, 1) := by decide +kernel
theorem dX3_init_22 : decode cX3_init 22 = .ok (.putfield 19, 3) := by decide +kernel
theorem dX3_init_25 : decode cX3_init 25 = .ok (.return_, 1) := by decide +kernel
theorem dX3_append_0 : decode cX3_append 0 = .ok (.aload_n 0, 1) := by decide +kernel
theorem dX3_append_1 : decode cX3_append 1 = .ok (.getfield 19, 3) := by decide +kernel
theorem dX3_append_4 : decode cX3_append 4 = .ok (.bipush 24, 2) := by decide +kernel
theorem dX3_append_6 : decode cX3_append 6 = .ok (.if_icmp .ge 33, 3) := by decide +kernel
theorem dX3_append_9 : decode cX3_append 9 = .ok (.aload_n 0, 1) := by decide +kernel
theorem dX3_append_10 : decode cX3_append 10 = .ok (.getfield 9, 3) := by decide +kernel
theorem dX3_append_13 : decode cX3_append 13 = .ok (.aload_n 0, 1) := by decide +kernel
theorem dX3_append_14 : decode cX3_append 14 = .ok (.getfield 19, 3) := by decide +kernel
theorem dX3_append_17 : decode cX3_append 17 = .ok (.iload_n 1, 1) := by decide +kernel
theorem dX3_append_18 : decode cX3_append 18 = .ok (.castore, 1) := by decide +kernel
theorem dX3_append_19 : decode cX3_append 19 = .ok (.aload_n 0, 1) := by decide +kernel
theorem dX3_append_20 : decode cX3_append 20 = .ok (.getfield 15, 3) := by decide +kernel
theorem dX3_append_23 : decode cX3_append 23 = .ok (.aload_n 0, 1) := by decide +kernel
theorem dX3_append_24 : decode cX3_append 24 = .ok (.getfield 19, 3) := by decide +kernel
theorem dX3_append_27 : decode cX3_append 27 = .ok (.iload_n 2, 1) := by decide +kernel
theorem dX3_append_28 : decode cX3_append 28 = .ok (.iastore, 1) := by decide +kernel
theorem dX3_append_29 : decode cX3_append 29 = .ok (.aload_n 0, 1) := by decide +kernel
theorem dX3_append_30 : decode cX3_append 30 = .ok (.dup, 1) := by decide +kernel
theorem dX3_append_31 : decode cX3_append 31 = .ok (.getfield 19, 3) := by decide +kernel
theorem dX3_append_34 : decode cX3_append 34 = .ok (.iconst 1, 1) := by decide +kernel
theorem dX3_append_35 : decode cX3_append 35 = .ok (.iadd, 1) := by decide +kernel
theorem dX3_append_36 : decode cX3_append 36 = .ok (.putfield 19, 3) := by decide +kernel
theorem dX3_append_39 : decode cX3_append 39 = .ok (.return_, 1) := by decide +kernel
theorem dX3_erase_0 : decode cX3_erase 0 = .ok (.aload_n 0, 1) := by decide +kernel
theorem dX3_erase_1 : decode cX3_erase 1 = .ok (.iconst 0, 1) := by decide +kernel
theorem dX3_erase_2 : decode cX3_erase 2 = .ok (.putfield 19, 3) := by decide +kernel
theorem dX3_erase_5 : decode cX3_erase 5 = .ok (.return_, 1) := by decide +kernel
theorem dX4_init_0 : decode cX4_init 0 = .ok (.aload_n 0, 1) := by decide +kernel
theorem dX4_init_1 : decode cX4_init 1 = .ok (.invokespecial 3, 3) := by decide +kernel
theorem dX4_init_4 : decode cX4_init 4 = .ok (.aload_n 0, 1) := by decide +kernel
theorem dX4_init_5 : decode cX4_init 5 = .ok (.iconst 4, 1) := by decide +kernel
theorem dX4_init_6 : decode cX4_init 6 = .ok (.newarray .int, 2) := by decide +kernel
theorem dX4_init_8 : decode cX4_init 8 = .ok (.putfield 9, 3) := by decide +kernel
theorem dX4_init_11 : decode cX4_init 11 = .ok (.aload_n 0, 1) := by decide +kernel
theorem dX4_init_12 : decode cX4_init 12 = .ok (.bipush 6, 2) := by decide +kernel
theorem dX4_init_14 : decode cX4_init 14 = .ok (.newarray .int, 2) := by decide +kernel
theorem dX4_init_16 : decode cX4_init 16 = .ok (.putfield 15, 3) := by decide +kernel
theorem dX4_init_19 : decode cX4_init 19 = .ok (.aload_n 0, 1) := by decide +kernel
theorem dX4_init_20 : decode cX4_init 20 = .ok (.iconst 0, 1) := by decide +kernel
theorem dX4_init_21 : decode cX4_init 21 = .ok (.putfield 18, 3) := by decide +kernel
theorem dX4_init_24 : decode cX4_init 24 = .ok (.aload_n 0, 1) := by decide +kernel
theorem dX4_init_25 : decode cX4_init 25 = .ok (.iconst 0, 1) := by decide +kernel
theorem dX4_init_26 : decode cX4_init 26 = .ok (.putfield 22, 3) := by decide +kernel
theorem dX4_init_29 : decode cX4_init 29 = .ok (.aload_n 0, 1) := by decide +kernel
theorem dX4_init_30 : decode cX4_init 30 = .ok (.iconst 0, 1) := by decide +kernel
theorem dX4_init_31 : decode cX4_init 31 = .ok (.putfield 25, 3) := by decide +kernel
theorem dX4_init_34 : decode cX4_init 34 = .ok (.return_, 1) := by decide +kernel
theorem dX4_addInput_0 : decode cX4_addInput 0 = .ok (.aload_n 0, 1) := by decide +kernel
theorem dX4_addInput_1 : decode cX4_addInput 1 = .ok (.getfield 18, 3) := by decide +kernel
theorem dX4_addInput_4 : decode cX4_addInput 4 = .ok (.iconst 4, 1) := by decide +kernel
theorem dX4_addInput_5 : decode cX4_addInput 5 = .ok (.if_icmp .ge 23, 3) := by decide +kernel
theorem dX4_addInput_8 : decode cX4_addInput 8 = .ok (.aload_n 0, 1) := by decide +kernel
theorem dX4_addInput_9 : decode cX4_addInput 9 = .ok (.getfield 9, 3) := by decide +kernel
theorem dX4_addInput_12 : decode cX4_addInput 12 = .ok (.aload_n 0, 1) := by decide +kernel
theorem dX4_addInput_13 : decode cX4_addInput 13 = .ok (.getfield 18, 3) := by decide +kernel
theorem dX4_addInput_16 : decode cX4_addInput 16 = .ok (.iload_n 1, 1) := by decide +kernel
theorem dX4_addInput_17 : decode cX4_addInput 17 = .ok (.iastore, 1) := by decide +kernel
theorem dX4_addInput_18 : decode cX4_addInput 18 = .ok (.aload_n 0, 1) := by decide +kernel
theorem dX4_addInput_19 : decode cX4_addInput 19 = .ok (.dup, 1) := by decide +kernel
theorem dX4_addInput_20 : decode cX4_addInput 20 = .ok (.getfield 18, 3) := by decide +kernel
theorem dX4_addInput_23 : decode cX4_addInput 23 = .ok (.iconst 1, 1) := by decide +kernel
theorem dX4_addInput_24 : decode cX4_addInput 24 = .ok (.iadd, 1) := by decide +kernel
theorem dX4_addInput_25 : decode cX4_addInput 25 = .ok (.putfield 18, 3) := by decide +kernel
theorem dX4_addInput_28 : decode cX4_addInput 28 = .ok (.aload_n 0, 1) := by decide +kernel
theorem dX4_addInput_29 : decode cX4_addInput 29 = .ok (.getfield 18, 3) := by decide +kernel
theorem dX4_addInput_32 : decode cX4_addInput 32 = .ok (.ireturn, 1) := by decide +kernel
theorem dX4_addExpected_0 : decode cX4_addExpected 0 = .ok (.aload_n 0, 1) := by decide +kernel
theorem dX4_addExpected_1 : decode cX4_addExpected 1 = .ok (.getfield 22, 3) := by decide +kernel
theorem dX4_addExpected_4 : decode cX4_addExpected 4 = .ok (.bipush 6, 2) := by decide +kernel
theorem dX4_addExpected_6 : decode cX4_addExpected 6 = .ok (.if_icmp .ge 23, 3) := by decide +kernel
theorem dX4_addExpected_9 : decode cX4_addExpected 9 = .ok (.aload_n 0, 1) := by decide +kernel
theorem dX4_addExpected_10 : decode cX4_addExpected 10 = .ok (.getfield 15, 3) := by decide +kernel
theorem dX4_addExpected_13 : decode cX4_addExpected 13 = .ok (.aload_n 0, 1) := by decide +kernel
theorem dX4_addExpected_14 : decode cX4_addExpected 14 = .ok (.getfield 22, 3) := by decide +kernel
theorem dX4_addExpected_17 : decode cX4_addExpected 17 = .ok (.iload_n 1, 1) := by decide +kernel
theorem dX4_addExpected_18 : decode cX4_addExpected 18 = .ok (.iastore, 1) := by decide +kernel
theorem dX4_addExpected_19 : decode cX4_addExpected 19 = .ok (.aload_n 0, 1) := by decide +kernel
theorem dX4_addExpected_20 : decode cX4_addExpected 20 = .ok (.dup, 1) := by decide +kernel
theorem dX4_addExpected_21 : decode cX4_addExpected 21 = .ok (.getfield 22, 3) := by decide +kernel
theorem dX4_addExpected_24 : decode cX4_addExpected 24 = .ok (.iconst 1, 1) := by decide +kernel
theorem dX4_addExpected_25 : decode cX4_addExpected 25 = .ok (.iadd, 1) := by decide +kernel
theorem dX4_addExpected_26 : decode cX4_addExpected 26 = .ok (.putfield 22, 3) := by decide +kernel
theorem dX4_addExpected_29 : decode cX4_addExpected 29 = .ok (.aload_n 0, 1) := by decide +kernel
theorem dX4_addExpected_30 : decode cX4_addExpected 30 = .ok (.getfield 22, 3) := by decide +kernel
theorem dX4_addExpected_33 : decode cX4_addExpected 33 = .ok (.ireturn, 1) := by decide +kernel
theorem dX4_erase_0 : decode cX4_erase 0 = .ok (.aload_n 0, 1) := by decide +kernel
theorem dX4_erase_1 : decode cX4_erase 1 = .ok (.iconst 0, 1) := by decide +kernel
theorem dX4_erase_2 : decode cX4_erase 2 = .ok (.putfield 18, 3) := by decide +kernel
theorem dX4_erase_5 : decode cX4_erase 5 = .ok (.aload_n 0, 1) := by decide +kernel
theorem dX4_erase_6 : decode cX4_erase 6 = .ok (.iconst 0, 1) := by decide +kernel
theorem dX4_erase_7 : decode cX4_erase 7 = .ok (.putfield 22, 3) := by decide +kernel
theorem dX4_erase_10 : decode cX4_erase 10 = .ok (.return_, 1) := by decide +kernel
theorem dX5_init_0 : decode cX5_init 0 = .ok (.aload_n 0, 1) := by decide +kernel
theorem dX5_init_1 : decode cX5_init 1 = .ok (.invokespecial 3, 3) := by decide +kernel
theorem dX5_init_4 : decode cX5_init 4 = .ok (.aload_n 0, 1) := by decide +kernel
theorem dX5_init_5 : decode cX5_init 5 = .ok (.new 9, 3) := by decide +kernel
theorem dX5_init_8 : decode cX5_init 8 = .ok (.dup, 1) := by decide +kernel
theorem dX5_init_9 : decode cX5_init 9 = .ok (.invokespecial 11, 3) := by decide +kernel
theorem dX5_init_12 : decode cX5_init 12 = .ok (.putfield 12, 3) := by decide +kernel
theorem dX5_init_15 : decode cX5_init 15 = .ok (.aload_n 0, 1) := by decide +kernel
theorem dX5_init_16 : decode cX5_init 16 = .ok (.iconst 5, 1) := by decide +kernel
theorem dX5_init_17 : decode cX5_init 17 = .ok (.newarray .int, 2) := by decide +kernel
theorem dX5_init_19 : decode cX5_init 19 = .ok (.putfield 18, 3) := by decide +kernel
theorem dX5_init_22 : decode cX5_init 22 = .ok (.aload_n 0, 1) := by decide +kernel
theorem dX5_init_23 : decode cX5_init 23 = .ok (.bipush 10, 2) := by decide +kernel
theorem dX5_init_25 : decode cX5_init 25 = .ok (.newarray .int, 2) := by decide +kernel
theorem dX5_init_27 : decode cX5_init 27 = .ok (.putfield 22, 3) := by decide +kernel
theorem dX5_init_30 : decode cX5_init 30 = .ok (.aload_n 0, 1) := by decide +kernel
theorem dX5_init_31 : decode cX5_init 31 = .ok (.bipush 10, 2) := by decide +kernel
theorem dX5_init_33 : decode cX5_init 33 = .ok (.newarray .int, 2) := by decide +kernel
theorem dX5_init_35 : decode cX5_init 35 = .ok (.putfield 25, 3) := by decide +kernel
theorem dX5_init_38 : decode cX5_init 38 = .ok (.aload_n 0, 1) := by decide +kernel
theorem dX5_init_39 : decode cX5_init 39 = .ok (.iconst 0, 1) := by decide +kernel
theorem dX5_init_40 : decode cX5_init 40 = .ok (.putfield 28, 3) := by decide +kernel
theorem dX5_init_43 : decode cX5_init 43 = .ok (.aload_n 0, 1) := by decide +kernel
theorem dX5_init_44 : decode cX5_init 44 = .ok (.iconst 0, 1) := by decide +kernel
theorem dX5_init_45 : decode cX5_init 45 = .ok (.putfield 32, 3) := by decide +kernel
theorem dX5_init_48 : decode cX5_init 48 = .ok (.aload_n 0, 1) := by decide +kernel
theorem dX5_init_49 : decode cX5_init 49 = .ok (.iconst 0, 1) := by decide +kernel
theorem dX5_init_50 : decode cX5_init 50 = .ok (.putfield 35, 3) := by decide +kernel
theorem dX5_init_53 : decode cX5_init 53 = .ok (.aload_n 0, 1) := by decide +kernel
theorem dX5_init_54 : decode cX5_init 54 = .ok (.iconst 0, 1) := by decide +kernel
theorem dX5_init_55 : decode cX5_init 55 = .ok (.putfield 38, 3) := by decide +kernel
theorem dX5_init_58 : decode cX5_init 58 = .ok (.aload_n 0, 1) := by decide +kernel
theorem dX5_init_59 : decode cX5_init 59 = .ok (.iconst 0, 1) := by decide +kernel
theorem dX5_init_60 : decode cX5_init 60 = .ok (.putfield 41, 3) := by decide +kernel
theorem dX5_init_63 : decode cX5_init 63 = .ok (.aload_n 0, 1) := by decide +kernel
theorem dX5_init_64 : decode cX5_init 64 = .ok (.iconst 0, 1) := by decide +kernel
theorem dX5_init_65 : decode cX5_init 65 = .ok (.putfield 44, 3) := by decide +kernel
theorem dX5_init_68 : decode cX5_init 68 = .ok (.aload_n 0, 1) := by decide +kernel
theorem dX5_init_69 : decode cX5_init 69 = .ok (.lconst 0, 1) := by decide +kernel
theorem dX5_init_70 : decode cX5_init 70 = .ok (.putfield 47, 3) := by decide +kernel
theorem dX5_init_73 : decode cX5_init 73 = .ok (.aload_n 0, 1) := by decide +kernel
theorem dX5_init_74 : decode cX5_init 74 = .ok (.bipush 115, 2) := by decide +kernel
theorem dX5_init_76 : decode cX5_init 76 = .ok (.putfield 51, 3) := by decide +kernel
theorem dX5_init_79 : decode cX5_init 79 = .ok (.aload_n 0, 1) := by decide +kernel
theorem dX5_init_80 : decode cX5_init 80 = .ok (.iconst 0, 1) := by decide +kernel
theorem dX5_init_81 : decode cX5_init 81 = .ok (.putfield 55, 3) := by decide +kernel
theorem dX5_init_84 : decode cX5_init 84 = .ok (.aload_n 0, 1) := by decide +kernel
theorem dX5_init_85 : decode cX5_init 85 = .ok (.iconst 0, 1) := by decide +kernel
theorem dX5_init_86 : decode cX5_init 86 = .ok (.putfield 59, 3) := by decide +kernel
theorem dX5_init_89 : decode cX5_init 89 = .ok (.aload_n 0, 1) := by decide +kernel
theorem dX5_init_90 : decode cX5_init 90 = .ok (.iconst 0, 1) := by decide +kernel
theorem dX5_init_91 : decode cX5_init 91 = .ok (.putfield 62, 3) := by decide +kernel
theorem dX5_init_94 : decode cX5_init 94 = .ok (.aload_n 0, 1) := by decide +kernel
theorem dX5_init_95 : decode cX5_init 95 = .ok (.iconst 0, 1) := by decide +kernel
theorem dX5_init_96 : decode cX5_init 96 = .ok (.putfield 65, 3) := by decide +kernel
theorem dX5_init_99 : decode cX5_init 99 = .ok (.aload_n 0, 1) := by decide +kernel
theorem dX5_init_100 : decode cX5_init 100 = .ok (.iconst 0, 1) := by decide +kernel
theorem dX5_init_101 : decode cX5_init 101 = .ok (.putfield 68, 3) := by decide +kernel
theorem dX5_init_104 : decode cX5_init 104 = .ok (.return_, 1) := by decide +kernel
theorem dX6_init_0 : decode cX6_init 0 = .ok (.aload_n 0, 1) := by decide +kernel
theorem dX6_init_1 : decode cX6_init 1 = .ok (.invokespecial 1, 3) := by decide +kernel
theorem dX6_init_4 : decode cX6_init 4 = .ok (.aload_n 0, 1) := by decide +kernel
theorem dX6_init_5 : decode cX6_init 5 = .ok (.new 7, 3) := by decide +kernel
theorem dX6_init_8 : decode cX6_init 8 = .ok (.dup, 1) := by decide +kernel
theorem dX6_init_9 : decode cX6_init 9 = .ok (.invokespecial 9, 3) := by decide +kernel
theorem dX6_init_12 : decode cX6_init 12 = .ok (.putfield 10, 3) := by decide +kernel
theorem dX6_init_15 : decode cX6_init 15 = .ok (.aload_n 0, 1) := by decide +kernel
theorem dX6_init_16 : decode cX6_init 16 = .ok (.new 16, 3) := by decide +kernel
theorem dX6_init_19 : decode cX6_init 19 = .ok (.dup, 1) := by decide +kernel
theorem dX6_init_20 : decode cX6_init 20 = .ok (.invokespecial 18, 3) := by decide +kernel
theorem dX6_init_23 : decode cX6_init 23 = .ok (.putfield 19, 3) := by decide +kernel
theorem dX6_init_26 : decode cX6_init 26 = .ok (.aload_n 0, 1) := by decide +kernel
theorem dX6_init_27 : decode cX6_init 27 = .ok (.bipush 8, 2) := by decide +kernel
theorem dX6_init_29 : decode cX6_init 29 = .ok (.anewarray 23, 3) := by decide +kernel
theorem dX6_init_32 : decode cX6_init 32 = .ok (.putfield 25, 3) := by decide +kernel
theorem dX6_init_35 : decode cX6_init 35 = .ok (.aload_n 0, 1) := by decide +kernel
theorem dX6_init_36 : decode cX6_init 36 = .ok (.bipush 10, 2) := by decide +kernel
theorem dX6_init_38 : decode cX6_init 38 = .ok (.anewarray 29, 3) := by decide +kernel
theorem dX6_init_41 : decode cX6_init 41 = .ok (.putfield 31, 3) := by decide +kernel
theorem dX6_init_44 : decode cX6_init 44 = .ok (.aload_n 0, 1) := by decide +kernel
theorem dX6_init_45 : decode cX6_init 45 = .ok (.bipush 40, 2) := by decide +kernel
theorem dX6_init_47 : decode cX6_init 47 = .ok (.anewarray 35, 3) := by decide +kernel
theorem dX6_init_50 : decode cX6_init 50 = .ok (.putfield 37, 3) := by decide +kernel
theorem dX6_init_53 : decode cX6_init 53 = .ok (.aload_n 0, 1) := by decide +kernel
theorem dX6_init_54 : decode cX6_init 54 = .ok (.bipush 8, 2) := by decide +kernel
theorem dX6_init_56 : decode cX6_init 56 = .ok (.newarray .int, 2) := by decide +kernel
theorem dX6_init_58 : decode cX6_init 58 = .ok (.putfield 41, 3) := by decide +kernel
theorem dX6_init_61 : decode cX6_init 61 = .ok (.aload_n 0, 1) := by decide +kernel
theorem dX6_init_62 : decode cX6_init 62 = .ok (.bipush 8, 2) := by decide +kernel
theorem dX6_init_64 : decode cX6_init 64 = .ok (.newarray .int, 2) := by decide +kernel
theorem dX6_init_66 : decode cX6_init 66 = .ok (.putfield 45, 3) := by decide +kernel
theorem dX6_init_69 : decode cX6_init 69 = .ok (.aload_n 0, 1) := by decide +kernel
theorem dX6_init_70 : decode cX6_init 70 = .ok (.new 48, 3) := by decide +kernel
theorem dX6_init_73 : decode cX6_init 73 = .ok (.dup, 1) := by decide +kernel
theorem dX6_init_74 : decode cX6_init 74 = .ok (.invokespecial 50, 3) := by decide +kernel
theorem dX6_init_77 : decode cX6_init 77 = .ok (.putfield 51, 3) := by decide +kernel
theorem dX6_init_80 : decode cX6_init 80 = .ok (.aload_n 0, 1) := by decide +kernel
theorem dX6_init_81 : decode cX6_init 81 = .ok (.new 48, 3) := by decide +kernel
theorem dX6_init_84 : decode cX6_init 84 = .ok (.dup, 1) := by decide +kernel
theorem dX6_init_85 : decode cX6_init 85 = .ok (.invokespecial 50, 3) := by decide +kernel
theorem dX6_init_88 : decode cX6_init 88 = .ok (.putfield 55, 3) := by decide +kernel
theorem dX6_init_91 : decode cX6_init 91 = .ok (.aload_n 0, 1) := by decide +kernel
theorem dX6_init_92 : decode cX6_init 92 = .ok (.iconst 0, 1) := by decide +kernel
theorem dX6_init_93 : decode cX6_init 93 = .ok (.putfield 58, 3) := by decide +kernel
theorem dX6_init_96 : decode cX6_init 96 = .ok (.aload_n 0, 1) := by decide +kernel
theorem dX6_init_97 : decode cX6_init 97 = .ok (.iconst 0, 1) := by decide +kernel
theorem dX6_init_98 : decode cX6_init 98 = .ok (.putfield 62, 3) := by decide +kernel
theorem dX6_init_101 : decode cX6_init 101 = .ok (.aload_n 0, 1) := by decide +kernel
theorem dX6_init_102 : decode cX6_init 102 = .ok (.iconst 0, 1) := by decide +kernel
theorem dX6_init_103 : decode cX6_init 103 = .ok (.putfield 65, 3) := by decide +kernel
theorem dX6_init_106 : decode cX6_init 106 = .ok (.aload_n 0, 1) := by decide +kernel
theorem dX6_init_107 : decode cX6_init 107 = .ok (.iconst 0, 1) := by decide +kernel
theorem dX6_init_108 : decode cX6_init 108 = .ok (.putfield 68, 3) := by decide +kernel
theorem dX6_init_111 : decode cX6_init 111 = .ok (.aload_n 0, 1) := by decide +kernel
theorem dX6_init_112 : decode cX6_init 112 = .ok (.bipush 12, 2) := by decide +kernel
theorem dX6_init_114 : decode cX6_init 114 = .ok (.putfield 71, 3) := by decide +kernel
theorem dX6_init_117 : decode cX6_init 117 = .ok (.aload_n 0, 1) := by decide +kernel
theorem dX6_init_118 : decode cX6_init 118 = .ok (.iconst 0, 1) := by decide +kernel
theorem dX6_init_119 : decode cX6_init 119 = .ok (.putfield 74, 3) := by decide +kernel
theorem dX6_init_122 : decode cX6_init 122 = .ok (.aload_n 0, 1) := by decide +kernel
theorem dX6_init_123 : decode cX6_init 123 = .ok (.iconst 0, 1) := by decide +kernel
theorem dX6_init_124 : decode cX6_init 124 = .ok (.putfield 77, 3) := by decide +kernel
theorem dX6_init_127 : decode cX6_init 127 = .ok (.iconst 0, 1) := by decide +kernel
theorem dX6_init_128 : decode cX6_init 128 = .ok (.istore_n 1, 1) := by decide +kernel
theorem dX6_init_129 : decode cX6_init 129 = .ok (.iload_n 1, 1) := by decide +kernel
theorem dX6_init_130 : decode cX6_init 130 = .ok (.bipush 8, 2) := by decide +kernel
theorem dX6_init_132 : decode cX6_init 132 = .ok (.if_icmp .ge 22, 3) := by decide +kernel
theorem dX6_init_135 : decode cX6_init 135 = .ok (.aload_n 0, 1) := by decide +kernel
theorem dX6_init_136 : decode cX6_init 136 = .ok (.getfield 25, 3) := by decide +kernel
theorem dX6_init_139 : decode cX6_init 139 = .ok (.iload_n 1, 1) := by decide +kernel
theorem dX6_init_140 : decode cX6_init 140 = .ok (.new 23, 3) := by decide +kernel
theorem dX6_init_143 : decode cX6_init 143 = .ok (.dup, 1) := by decide +kernel
theorem dX6_init_144 : decode cX6_init 144 = .ok (.invokespecial 81, 3) := by decide +kernel
theorem dX6_init_147 : decode cX6_init 147 = .ok (.aastore, 1) := by decide +kernel
theorem dX6_init_148 : decode cX6_init 148 = .ok (.iinc 1 1, 3) := by decide +kernel
theorem dX6_init_151 : decode cX6_init 151 = .ok (.goto (-22), 3) := by decide +kernel
theorem dX6_init_154 : decode cX6_init 154 = .ok (.iconst 0, 1) := by decide +kernel
theorem dX6_init_155 : decode cX6_init 155 = .ok (.istore_n 1, 1) := by decide +kernel
theorem dX6_init_156 : decode cX6_init 156 = .ok (.iload_n 1, 1) := by decide +kernel
theorem dX6_init_157 : decode cX6_init 157 = .ok (.bipush 10, 2) := by decide +kernel
theorem dX6_init_159 : decode cX6_init 159 = .ok (.if_icmp .ge 22, 3) := by decide +kernel
theorem dX6_init_162 : decode cX6_init 162 = .ok (.aload_n 0, 1) := by decide +kernel
theorem dX6_init_163 : decode cX6_init 163 = .ok (.getfield 31, 3) := by decide +kernel
theorem dX6_init_166 : decode cX6_init 166 = .ok (.iload_n 1, 1) := by decide +kernel
theorem dX6_init_167 : decode cX6_init 167 = .ok (.new 29, 3) := by decide +kernel
theorem dX6_init_170 : decode cX6_init 170 = .ok (.dup, 1) := by decide +kernel
theorem dX6_init_171 : decode cX6_init 171 = .ok (.invokespecial 82, 3) := by decide +kernel
theorem dX6_init_174 : decode cX6_init 174 = .ok (.aastore, 1) := by decide +kernel
theorem dX6_init_175 : decode cX6_init 175 = .ok (.iinc 1 1, 3) := by decide +kernel
theorem dX6_init_178 : decode cX6_init 178 = .ok (.goto (-22), 3) := by decide +kernel
theorem dX6_init_181 : decode cX6_init 181 = .ok (.iconst 0, 1) := by decide +kernel
theorem dX6_init_182 : decode cX6_init 182 = .ok (.istore_n 1, 1) := by decide +kernel
theorem dX6_init_183 : decode cX6_init 183 = .ok (.iload_n 1, 1) := by decide +kernel
theorem dX6_init_184 : decode cX6_init 184 = .ok (.bipush 40, 2) := by decide +kernel
theorem dX6_init_186 : decode cX6_init 186 = .ok (.if_icmp .ge 22, 3) := by decide +kernel
theorem dX6_init_189 : decode cX6_init 189 = .ok (.aload_n 0, 1) := by decide +kernel
theorem dX6_init_190 : decode cX6_init 190 = .ok (.getfield 37, 3) := by decide +kernel
theorem dX6_init_193 : decode cX6_init 193 = .ok (.iload_n 1, 1) := by decide +kernel
theorem dX6_init_194 : decode cX6_init 194 = .ok (.new 35, 3) := by decide +kernel
theorem dX6_init_197 : decode cX6_init 197 = .ok (.dup, 1) := by decide +kernel
theorem dX6_init_198 : decode cX6_init 198 = .ok (.invokespecial 83, 3) := by decide +kernel
theorem dX6_init_201 : decode cX6_init 201 = .ok (.aastore, 1) := by decide +kernel
theorem dX6_init_202 : decode cX6_init 202 = .ok (.iinc 1 1, 3) := by decide +kernel
theorem dX6_init_205 : decode cX6_init 205 = .ok (.goto (-22), 3) := by decide +kernel
theorem dX6_init_208 : decode cX6_init 208 = .ok (.return_, 1) := by decide +kernel
theorem dX6_step_0 : decode cX6_step 0 = .ok (.ldc 84, 2) := by decide +kernel
theorem dX6_step_2 : decode cX6_step 2 = .ok (.iload_n 1, 1) := by decide +kernel
theorem dX6_step_3 : decode cX6_step 3 = .ok (.invokevirtual 86, 3) := by decide +kernel
theorem dX6_step_6 : decode cX6_step 6 = .ok (.ifCond .ge 13, 3) := by decide +kernel
theorem dX6_step_9 : decode cX6_step 9 = .ok (.new 92, 3) := by decide +kernel
theorem dX6_step_12 : decode cX6_step 12 = .ok (.dup, 1) := by decide +kernel
theorem dX6_step_13 : decode cX6_step 13 = .ok (.ldc 94, 2) := by decide +kernel
theorem dX6_step_15 : decode cX6_step 15 = .ok (.invokespecial 96, 3) := by decide +kernel
theorem dX6_step_18 : decode cX6_step 18 = .ok (.athrow, 1) := by decide +kernel
theorem dX6_step_19 : decode cX6_step 19 = .ok (.iload_n 1, 1) := by decide +kernel
theorem dX6_step_20 : decode cX6_step 20 = .ok (.bipush 110, 2) := by decide +kernel
theorem dX6_step_22 : decode cX6_step 22 = .ok (.if_icmp .ne 7, 3) := by decide +kernel
theorem dX6_step_25 : decode cX6_step 25 = .ok (.iconst 1, 1) := by decide +kernel
theorem dX6_step_26 : decode cX6_step 26 = .ok (.goto 4, 3) := by decide +kernel
theorem dX6_step_29 : decode cX6_step 29 = .ok (.iconst 0, 1) := by decide +kernel
theorem dX6_step_30 : decode cX6_step 30 = .ok (.istore_n 3, 1) := by decide +kernel
theorem dX6_step_31 : decode cX6_step 31 = .ok (.iload_n 3, 1) := by decide +kernel
theorem dX6_step_32 : decode cX6_step 32 = .ok (.ifCond .eq 20, 3) := by decide +kernel
theorem dX6_step_35 : decode cX6_step 35 = .ok (.iload_n 2, 1) := by decide +kernel
theorem dX6_step_36 : decode cX6_step 36 = .ok (.invokestatic 99, 3) := by decide +kernel
theorem dX6_step_39 : decode cX6_step 39 = .ok (.ifCond .eq 13, 3) := by decide +kernel
theorem dX6_step_42 : decode cX6_step 42 = .ok (.new 92, 3) := by decide +kernel
theorem dX6_step_45 : decode cX6_step 45 = .ok (.dup, 1) := by decide +kernel
theorem dX6_step_46 : decode cX6_step 46 = .ok (.ldc 103, 2) := by decide +kernel
theorem dX6_step_48 : decode cX6_step 48 = .ok (.invokespecial 96, 3) := by decide +kernel
theorem dX6_step_51 : decode cX6_step 51 = .ok (.athrow, 1) := by decide +kernel
theorem dX6_step_52 : decode cX6_step 52 = .ok (.aload_n 0, 1) := by decide +kernel
theorem dX6_step_53 : decode cX6_step 53 = .ok (.getfield 10, 3) := by decide +kernel
theorem dX6_step_56 : decode cX6_step 56 = .ok (.getfield 105, 3) := by decide +kernel
theorem dX6_step_59 : decode cX6_step 59 = .ok (.bipush 24, 2) := by decide +kernel
theorem dX6_step_61 : decode cX6_step 61 = .ok (.if_icmp .lt 13, 3) := by decide +kernel
theorem dX6_step_64 : decode cX6_step 64 = .ok (.new 108, 3) := by decide +kernel
theorem dX6_step_67 : decode cX6_step 67 = .ok (.dup, 1) := by decide +kernel
theorem dX6_step_68 : decode cX6_step 68 = .ok (.ldc 110, 2) := by decide +kernel
theorem dX6_step_70 : decode cX6_step 70 = .ok (.invokespecial 112, 3) := by decide +kernel
theorem dX6_step_73 : decode cX6_step 73 = .ok (.athrow, 1) := by decide +kernel
theorem dX6_step_74 : decode cX6_step 74 = .ok (.aload_n 0, 1) := by decide +kernel
theorem dX6_step_75 : decode cX6_step 75 = .ok (.getfield 10, 3) := by decide +kernel
theorem dX6_step_78 : decode cX6_step 78 = .ok (.iload_n 1, 1) := by decide +kernel
theorem dX6_step_79 : decode cX6_step 79 = .ok (.iload_n 3, 1) := by decide +kernel
theorem dX6_step_80 : decode cX6_step 80 = .ok (.ifCond .eq 7, 3) := by decide +kernel
theorem dX6_step_83 : decode cX6_step 83 = .ok (.iload_n 2, 1) := by decide +kernel
theorem dX6_step_84 : decode cX6_step 84 = .ok (.goto 4, 3) := by decide +kernel
theorem dX6_step_87 : decode cX6_step 87 = .ok (.iconst 0, 1) := by decide +kernel
theorem dX6_step_88 : decode cX6_step 88 = .ok (.invokevirtual 113, 3) := by decide +kernel
theorem dX6_step_91 : decode cX6_step 91 = .ok (.aload_n 0, 1) := by decide +kernel
theorem dX6_step_92 : decode cX6_step 92 = .ok (.getfield 10, 3) := by decide +kernel
theorem dX6_step_95 : decode cX6_step 95 = .ok (.getfield 105, 3) := by decide +kernel
theorem dX6_step_98 : decode cX6_step 98 = .ok (.ireturn, 1) := by decide +kernel
theorem dX6_wipe_0 : decode cX6_wipe 0 = .ok (.aload_n 0, 1) := by decide +kernel
theorem dX6_wipe_1 : decode cX6_wipe 1 = .ok (.getfield 10, 3) := by decide +kernel
theorem dX6_wipe_4 : decode cX6_wipe 4 = .ok (.getfield 105, 3) := by decide +kernel
theorem dX6_wipe_7 : decode cX6_wipe 7 = .ok (.istore_n 1, 1) := by decide +kernel
theorem dX6_wipe_8 : decode cX6_wipe 8 = .ok (.aload_n 0, 1) := by decide +kernel
theorem dX6_wipe_9 : decode cX6_wipe 9 = .ok (.getfield 10, 3) := by decide +kernel
theorem dX6_wipe_12 : decode cX6_wipe 12 = .ok (.invokevirtual 117, 3) := by decide +kernel
theorem dX6_wipe_15 : decode cX6_wipe 15 = .ok (.iload_n 1, 1) := by decide +kernel
theorem dX6_wipe_16 : decode cX6_wipe 16 = .ok (.ireturn, 1) := by decide +kernel
theorem dX6_number_0 : decode cX6_number 0 = .ok (.iload_n 1, 1) := by decide +kernel
theorem dX6_number_1 : decode cX6_number 1 = .ok (.invokestatic 99, 3) := by decide +kernel
theorem dX6_number_4 : decode cX6_number 4 = .ok (.ifCond .eq 13, 3) := by decide +kernel
theorem dX6_number_7 : decode cX6_number 7 = .ok (.new 92, 3) := by decide +kernel
theorem dX6_number_10 : decode cX6_number 10 = .ok (.dup, 1) := by decide +kernel
theorem dX6_number_11 : decode cX6_number 11 = .ok (.ldc 103, 2) := by decide +kernel
theorem dX6_number_13 : decode cX6_number 13 = .ok (.invokespecial 96, 3) := by decide +kernel
theorem dX6_number_16 : decode cX6_number 16 = .ok (.athrow, 1) := by decide +kernel
theorem dX6_number_17 : decode cX6_number 17 = .ok (.iload_n 2, 1) := by decide +kernel
theorem dX6_number_18 : decode cX6_number 18 = .ok (.ifCond .eq 18, 3) := by decide +kernel
theorem dX6_number_21 : decode cX6_number 21 = .ok (.aload_n 0, 1) := by decide +kernel
theorem dX6_number_22 : decode cX6_number 22 = .ok (.getfield 19, 3) := by decide +kernel
theorem dX6_number_25 : decode cX6_number 25 = .ok (.getfield 120, 3) := by decide +kernel
theorem dX6_number_28 : decode cX6_number 28 = .ok (.bipush 6, 2) := by decide +kernel
theorem dX6_number_30 : decode cX6_number 30 = .ok (.if_icmp .lt 27, 3) := by decide +kernel
theorem dX6_number_36 : decode cX6_number 36 = .ok (.aload_n 0, 1) := by decide +kernel
theorem dX6_number_37 : decode cX6_number 37 = .ok (.getfield 19, 3) := by decide +kernel
theorem dX6_number_40 : decode cX6_number 40 = .ok (.getfield 123, 3) := by decide +kernel
theorem dX6_number_43 : decode cX6_number 43 = .ok (.iconst 4, 1) := by decide +kernel
theorem dX6_number_44 : decode cX6_number 44 = .ok (.if_icmp .lt 13, 3) := by decide +kernel
theorem dX6_number_57 : decode cX6_number 57 = .ok (.iload_n 2, 1) := by decide +kernel
theorem dX6_number_58 : decode cX6_number 58 = .ok (.ifCond .eq 14, 3) := by decide +kernel
theorem dX6_number_61 : decode cX6_number 61 = .ok (.aload_n 0, 1) := by decide +kernel
theorem dX6_number_62 : decode cX6_number 62 = .ok (.getfield 19, 3) := by decide +kernel
theorem dX6_number_65 : decode cX6_number 65 = .ok (.iload_n 1, 1) := by decide +kernel
theorem dX6_number_66 : decode cX6_number 66 = .ok (.invokevirtual 128, 3) := by decide +kernel
theorem dX6_number_69 : decode cX6_number 69 = .ok (.goto 11, 3) := by decide +kernel
theorem dX6_number_72 : decode cX6_number 72 = .ok (.aload_n 0, 1) := by decide +kernel
theorem dX6_number_73 : decode cX6_number 73 = .ok (.getfield 19, 3) := by decide +kernel
theorem dX6_number_76 : decode cX6_number 76 = .ok (.iload_n 1, 1) := by decide +kernel
theorem dX6_number_77 : decode cX6_number 77 = .ok (.invokevirtual 131, 3) := by decide +kernel
theorem dX6_number_80 : decode cX6_number 80 = .ok (.ireturn, 1) := by decide +kernel
theorem dX6_clear_0 : decode cX6_clear 0 = .ok (.aload_n 0, 1) := by decide +kernel
theorem dX6_clear_1 : decode cX6_clear 1 = .ok (.getfield 19, 3) := by decide +kernel
theorem dX6_clear_4 : decode cX6_clear 4 = .ok (.getfield 123, 3) := by decide +kernel
theorem dX6_clear_7 : decode cX6_clear 7 = .ok (.aload_n 0, 1) := by decide +kernel
theorem dX6_clear_8 : decode cX6_clear 8 = .ok (.getfield 19, 3) := by decide +kernel
theorem dX6_clear_11 : decode cX6_clear 11 = .ok (.getfield 120, 3) := by decide +kernel
theorem dX6_clear_14 : decode cX6_clear 14 = .ok (.iadd, 1) := by decide +kernel
theorem dX6_clear_15 : decode cX6_clear 15 = .ok (.istore_n 1, 1) := by decide +kernel
theorem dX6_clear_16 : decode cX6_clear 16 = .ok (.aload_n 0, 1) := by decide +kernel
theorem dX6_clear_17 : decode cX6_clear 17 = .ok (.getfield 19, 3) := by decide +kernel
theorem dX6_clear_20 : decode cX6_clear 20 = .ok (.invokevirtual 134, 3) := by decide +kernel
theorem dX6_clear_23 : decode cX6_clear 23 = .ok (.iload_n 1, 1) := by decide +kernel
theorem dX6_clear_24 : decode cX6_clear 24 = .ok (.ireturn, 1) := by decide +kernel
theorem dX6_kata_0 : decode cX6_kata 0 = .ok (.iload_n 1, 1) := by decide +kernel
theorem dX6_kata_1 : decode cX6_kata 1 = .ok (.iconst 1, 1) := by decide +kernel
theorem dX6_kata_2 : decode cX6_kata 2 = .ok (.if_icmp .lt 8, 3) := by decide +kernel
theorem dX6_kata_5 : decode cX6_kata 5 = .ok (.iload_n 1, 1) := by decide +kernel
theorem dX6_kata_6 : decode cX6_kata 6 = .ok (.iconst 5, 1) := by decide +kernel
theorem dX6_kata_7 : decode cX6_kata 7 = .ok (.if_icmp .le 13, 3) := by decide +kernel
theorem dX6_kata_10 : decode cX6_kata 10 = .ok (.new 92, 3) := by decide +kernel
theorem dX6_kata_13 : decode cX6_kata 13 = .ok (.dup, 1) := by decide +kernel
theorem dX6_kata_14 : decode cX6_kata 14 = .ok (.ldc 135, 2) := by decide +kernel
theorem dX6_kata_16 : decode cX6_kata 16 = .ok (.invokespecial 96, 3) := by decide +kernel
theorem dX6_kata_19 : decode cX6_kata 19 = .ok (.athrow, 1) := by decide +kernel
theorem dX6_kata_20 : decode cX6_kata 20 = .ok (.aload_n 0, 1) := by decide +kernel
theorem dX6_kata_21 : decode cX6_kata 21 = .ok (.getfield 58, 3) := by decide +kernel
theorem dX6_kata_24 : decode cX6_kata 24 = .ok (.bipush 8, 2) := by decide +kernel
theorem dX6_kata_26 : decode cX6_kata 26 = .ok (.if_icmp .lt 13, 3) := by decide +kernel
theorem dX6_kata_39 : decode cX6_kata 39 = .ok (.aload_n 0, 1) := by decide +kernel
theorem dX6_kata_40 : decode cX6_kata 40 = .ok (.getfield 25, 3) := by decide +kernel
theorem dX6_kata_43 : decode cX6_kata 43 = .ok (.aload_n 0, 1) := by decide +kernel
theorem dX6_kata_44 : decode cX6_kata 44 = .ok (.getfield 58, 3) := by decide +kernel
theorem dX6_kata_47 : decode cX6_kata 47 = .ok (.aaload, 1) := by decide +kernel
theorem dX6_kata_48 : decode cX6_kata 48 = .ok (.iload_n 1, 1) := by decide +kernel
theorem dX6_kata_49 : decode cX6_kata 49 = .ok (.putfield 139, 3) := by decide +kernel
theorem dX6_kata_52 : decode cX6_kata 52 = .ok (.aload_n 0, 1) := by decide +kernel
theorem dX6_kata_53 : decode cX6_kata 53 = .ok (.dup, 1) := by decide +kernel
theorem dX6_kata_54 : decode cX6_kata 54 = .ok (.getfield 58, 3) := by decide +kernel
theorem dX6_kata_57 : decode cX6_kata 57 = .ok (.iconst 1, 1) := by decide +kernel
theorem dX6_kata_58 : decode cX6_kata 58 = .ok (.iadd, 1) := by decide +kernel
theorem dX6_kata_59 : decode cX6_kata 59 = .ok (.putfield 58, 3) := by decide +kernel
theorem dX6_kata_62 : decode cX6_kata 62 = .ok (.aload_n 0, 1) := by decide +kernel
theorem dX6_kata_63 : decode cX6_kata 63 = .ok (.getfield 58, 3) := by decide +kernel
theorem dX6_kata_66 : decode cX6_kata 66 = .ok (.iconst 1, 1) := by decide +kernel
theorem dX6_kata_67 : decode cX6_kata 67 = .ok (.isub, 1) := by decide +kernel
theorem dX6_kata_68 : decode cX6_kata 68 = .ok (.ireturn, 1) := by decide +kernel
theorem dX6_test_0 : decode cX6_test 0 = .ok (.aload_n 0, 1) := by decide +kernel
theorem dX6_test_1 : decode cX6_test 1 = .ok (.iload_n 1, 1) := by decide +kernel
theorem dX6_test_2 : decode cX6_test 2 = .ok (.invokevirtual 142, 3) := by decide +kernel
theorem dX6_fix_0 : decode cX6_fix 0 = .ok (.aload_n 0, 1) := by decide +kernel
theorem dX6_fix_1 : decode cX6_fix 1 = .ok (.iload_n 1, 1) := by decide +kernel
theorem dX6_fix_2 : decode cX6_fix 2 = .ok (.aload_n 0, 1) := by decide +kernel
theorem dX6_fix_3 : decode cX6_fix 3 = .ok (.aload_n 0, 1) := by decide +kernel
theorem dX6_fix_4 : decode cX6_fix 4 = .ok (.iload_n 1, 1) := by decide +kernel
theorem dX6_fix_5 : decode cX6_fix 5 = .ok (.invokevirtual 142, 3) := by decide +kernel
theorem dX6_tests_0 : decode cX6_tests 0 = .ok (.aload_n 0, 1) := by decide +kernel
theorem dX6_tests_1 : decode cX6_tests 1 = .ok (.iload_n 1, 1) := by decide +kernel
theorem dX6_tests_2 : decode cX6_tests 2 = .ok (.invokevirtual 142, 3) := by decide +kernel
theorem dX6_run_0 : decode cX6_run 0 = .ok (.aload_n 0, 1) := by decide +kernel
theorem dX6_run_1 : decode cX6_run 1 = .ok (.aload_n 0, 1) := by decide +kernel
theorem dX6_run_2 : decode cX6_run 2 = .ok (.iload_n 1, 1) := by decide +kernel
theorem dX6_run_3 : decode cX6_run 3 = .ok (.invokevirtual 142, 3) := by decide +kernel
theorem dX6_done_0 : decode cX6_done 0 = .ok (.aload_n 0, 1) := by decide +kernel
theorem dX6_done_1 : decode cX6_done 1 = .ok (.invokevirtual 176, 3) := by decide +kernel
theorem dX6_outputs_0 : decode cX6_outputs 0 = .ok (.aload_n 0, 1) := by decide +kernel
theorem dX6_outputs_1 : decode cX6_outputs 1 = .ok (.invokevirtual 176, 3) := by decide +kernel
theorem dX6_output_0 : decode cX6_output 0 = .ok (.aload_n 0, 1) := by decide +kernel
theorem dX6_output_1 : decode cX6_output 1 = .ok (.invokevirtual 176, 3) := by decide +kernel
theorem dX6_depth_0 : decode cX6_depth 0 = .ok (.aload_n 0, 1) := by decide +kernel
theorem dX6_depth_1 : decode cX6_depth 1 = .ok (.invokevirtual 176, 3) := by decide +kernel
theorem dX6_member_0 : decode cX6_member 0 = .ok (.aload_n 0, 1) := by decide +kernel
theorem dX6_member_1 : decode cX6_member 1 = .ok (.getfield 62, 3) := by decide +kernel
theorem dX6_member_4 : decode cX6_member 4 = .ok (.bipush 10, 2) := by decide +kernel
theorem dX6_member_6 : decode cX6_member 6 = .ok (.if_icmp .lt 13, 3) := by decide +kernel
theorem dX6_member_19 : decode cX6_member 19 = .ok (.aload_n 0, 1) := by decide +kernel
theorem dX6_member_20 : decode cX6_member 20 = .ok (.dup, 1) := by decide +kernel
theorem dX6_member_21 : decode cX6_member 21 = .ok (.getfield 62, 3) := by decide +kernel
theorem dX6_member_24 : decode cX6_member 24 = .ok (.iconst 1, 1) := by decide +kernel
theorem dX6_member_25 : decode cX6_member 25 = .ok (.iadd, 1) := by decide +kernel
theorem dX6_member_26 : decode cX6_member 26 = .ok (.putfield 62, 3) := by decide +kernel
theorem dX6_member_29 : decode cX6_member 29 = .ok (.aload_n 0, 1) := by decide +kernel
theorem dX6_member_30 : decode cX6_member 30 = .ok (.getfield 62, 3) := by decide +kernel
theorem dX6_member_33 : decode cX6_member 33 = .ok (.iconst 1, 1) := by decide +kernel
theorem dX6_member_34 : decode cX6_member 34 = .ok (.isub, 1) := by decide +kernel
theorem dX6_member_35 : decode cX6_member 35 = .ok (.ireturn, 1) := by decide +kernel
theorem dX6_submit_0 : decode cX6_submit 0 = .ok (.aload_n 0, 1) := by decide +kernel
theorem dX6_submit_1 : decode cX6_submit 1 = .ok (.iload_n 1, 1) := by decide +kernel
theorem dX6_submit_2 : decode cX6_submit 2 = .ok (.invokevirtual 199, 3) := by decide +kernel
theorem dX6_works_0 : decode cX6_works 0 = .ok (.aload_n 0, 1) := by decide +kernel
theorem dX6_works_1 : decode cX6_works 1 = .ok (.getfield 65, 3) := by decide +kernel
theorem dX6_works_4 : decode cX6_works 4 = .ok (.ireturn, 1) := by decide +kernel
theorem dX6_of_0 : decode cX6_of 0 = .ok (.aload_n 0, 1) := by decide +kernel
theorem dX6_of_1 : decode cX6_of 1 = .ok (.iload_n 1, 1) := by decide +kernel
theorem dX6_of_2 : decode cX6_of 2 = .ok (.invokevirtual 219, 3) := by decide +kernel
theorem dX6_state_0 : decode cX6_state 0 = .ok (.aload_n 0, 1) := by decide +kernel
theorem dX6_state_1 : decode cX6_state 1 = .ok (.iload_n 1, 1) := by decide +kernel
theorem dX6_state_2 : decode cX6_state 2 = .ok (.invokevirtual 219, 3) := by decide +kernel
theorem dX6_sum_0 : decode cX6_sum 0 = .ok (.aload_n 0, 1) := by decide +kernel
theorem dX6_sum_1 : decode cX6_sum 1 = .ok (.iload_n 1, 1) := by decide +kernel
theorem dX6_sum_2 : decode cX6_sum 2 = .ok (.invokevirtual 219, 3) := by decide +kernel
theorem dX6_steps_0 : decode cX6_steps 0 = .ok (.aload_n 0, 1) := by decide +kernel
theorem dX6_steps_1 : decode cX6_steps 1 = .ok (.iload_n 1, 1) := by decide +kernel
theorem dX6_steps_2 : decode cX6_steps 2 = .ok (.invokevirtual 219, 3) := by decide +kernel
theorem dX6_hasBody_0 : decode cX6_hasBody 0 = .ok (.aload_n 0, 1) := by decide +kernel
theorem dX6_hasBody_1 : decode cX6_hasBody 1 = .ok (.iload_n 1, 1) := by decide +kernel
theorem dX6_hasBody_2 : decode cX6_hasBody 2 = .ok (.invokevirtual 219, 3) := by decide +kernel
theorem dX6_letter_0 : decode cX6_letter 0 = .ok (.aload_n 0, 1) := by decide +kernel
theorem dX6_letter_1 : decode cX6_letter 1 = .ok (.iload_n 1, 1) := by decide +kernel
theorem dX6_letter_2 : decode cX6_letter 2 = .ok (.invokevirtual 219, 3) := by decide +kernel
theorem dX6_drop_0 : decode cX6_drop 0 = .ok (.aload_n 0, 1) := by decide +kernel
theorem dX6_drop_1 : decode cX6_drop 1 = .ok (.iload_n 1, 1) := by decide +kernel
theorem dX6_drop_2 : decode cX6_drop 2 = .ok (.invokevirtual 219, 3) := by decide +kernel
theorem dX6_capacity_0 : decode cX6_capacity 0 = .ok (.iload_n 1, 1) := by decide +kernel
theorem dX6_capacity_1 : decode cX6_capacity 1 = .ok (.iconst 1, 1) := by decide +kernel
theorem dX6_capacity_2 : decode cX6_capacity 2 = .ok (.if_icmp .lt 9, 3) := by decide +kernel
theorem dX6_capacity_5 : decode cX6_capacity 5 = .ok (.iload_n 1, 1) := by decide +kernel
theorem dX6_capacity_6 : decode cX6_capacity 6 = .ok (.bipush 40, 2) := by decide +kernel
theorem dX6_capacity_8 : decode cX6_capacity 8 = .ok (.if_icmp .le 14, 3) := by decide +kernel
theorem dX6_capacity_11 : decode cX6_capacity 11 = .ok (.new 92, 3) := by decide +kernel
theorem dX6_capacity_14 : decode cX6_capacity 14 = .ok (.dup, 1) := by decide +kernel
theorem dX6_capacity_15 : decode cX6_capacity 15 = .ok (.ldc_w 273, 3) := by decide +kernel
theorem dX6_capacity_18 : decode cX6_capacity 18 = .ok (.invokespecial 96, 3) := by decide +kernel
theorem dX6_capacity_21 : decode cX6_capacity 21 = .ok (.athrow, 1) := by decide +kernel
theorem dX6_capacity_22 : decode cX6_capacity 22 = .ok (.aload_n 0, 1) := by decide +kernel
theorem dX6_capacity_23 : decode cX6_capacity 23 = .ok (.iload_n 1, 1) := by decide +kernel
theorem dX6_capacity_24 : decode cX6_capacity 24 = .ok (.putfield 71, 3) := by decide +kernel
theorem dX6_capacity_27 : decode cX6_capacity 27 = .ok (.aload_n 0, 1) := by decide +kernel
theorem dX6_capacity_28 : decode cX6_capacity 28 = .ok (.invokevirtual 215, 3) := by decide +kernel
theorem dX6_capacity_31 : decode cX6_capacity 31 = .ok (.ireturn, 1) := by decide +kernel
theorem dX6_bodies_0 : decode cX6_bodies 0 = .ok (.aload_n 0, 1) := by decide +kernel
theorem dX6_bodies_1 : decode cX6_bodies 1 = .ok (.invokevirtual 270, 3) := by decide +kernel
theorem dX6_bodies_4 : decode cX6_bodies 4 = .ok (.ireturn, 1) := by decide +kernel
theorem dX6_read_0 : decode cX6_read 0 = .ok (.aload_n 0, 1) := by decide +kernel
theorem dX6_read_1 : decode cX6_read 1 = .ok (.iload_n 1, 1) := by decide +kernel
theorem dX6_read_2 : decode cX6_read 2 = .ok (.invokevirtual 199, 3) := by decide +kernel
theorem dX6_copy_0 : decode cX6_copy 0 = .ok (.aload_n 0, 1) := by decide +kernel
theorem dX6_copy_1 : decode cX6_copy 1 = .ok (.iload_n 1, 1) := by decide +kernel
theorem dX6_copy_2 : decode cX6_copy 2 = .ok (.invokevirtual 199, 3) := by decide +kernel
theorem dX6_vote_0 : decode cX6_vote 0 = .ok (.aload_n 0, 1) := by decide +kernel
theorem dX6_vote_1 : decode cX6_vote 1 = .ok (.iload_n 1, 1) := by decide +kernel
theorem dX6_vote_2 : decode cX6_vote 2 = .ok (.invokevirtual 199, 3) := by decide +kernel
theorem dX6_style_0 : decode cX6_style 0 = .ok (.aload_n 0, 1) := by decide +kernel
theorem dX6_style_1 : decode cX6_style 1 = .ok (.iload_n 1, 1) := by decide +kernel
theorem dX6_style_2 : decode cX6_style 2 = .ok (.invokevirtual 219, 3) := by decide +kernel
theorem dX6_review_0 : decode cX6_review 0 = .ok (.aload_n 0, 1) := by decide +kernel
theorem dX6_review_1 : decode cX6_review 1 = .ok (.iload_n 1, 1) := by decide +kernel
theorem dX6_review_2 : decode cX6_review 2 = .ok (.invokevirtual 199, 3) := by decide +kernel
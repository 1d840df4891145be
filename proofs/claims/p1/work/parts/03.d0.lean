theorem dX3_append_0 : decode cX3_append 0 = .ok (.aload_n 0, 1) := by decide +kernel
theorem dX3_append_1 : decode cX3_append 1 = .ok (.getfield 19, 3) := by decide +kernel
theorem dX3_append_4 : decode cX3_append 4 = .ok (.bipush 24, 2) := by decide +kernel
theorem dX3_append_6 : decode cX3_append 6 = .ok (.if_icmp .ge 33, 3) := by decide +kernel
theorem dX3_append_9 : decode cX3_append 9 = .ok (.aload_n 0, 1) := by decide +kernel
theorem dX3_append_10 : decode cX3_append 10 = .ok (.getfield 9, 3) := by decide +kernel
theorem dX3_append_13 : decode cX3_append 13 = .ok (.aload_n 0, 1) := by decide +kernel
theorem dX3_append_14 : decode cX3_append 14 = .ok (.getfield 19, 3) := by decide +kernel
theorem dX3_append_17 : decode cX3_append 17 = .ok (.iload_n 1, 1) := by decide +kernel
theorem dX3_append_18 : decode cX3_append 18 = .ok (.castore, 1) := by decide +kernel
theorem dX3_append_19 : decode cX3_append 19 = .ok (.aload_n 0, 1) := by decide +kernel
theorem dX3_append_20 : decode cX3_append 20 = .ok (.getfield 15, 3) := by decide +kernel
theorem dX3_append_23 : decode cX3_append 23 = .ok (.aload_n 0, 1) := by decide +kernel
theorem dX3_append_24 : decode cX3_append 24 = .ok (.getfield 19, 3) := by decide +kernel
theorem dX3_append_27 : decode cX3_append 27 = .ok (.iload_n 2, 1) := by decide +kernel
theorem dX3_append_28 : decode cX3_append 28 = .ok (.iastore, 1) := by decide +kernel
theorem dX3_append_29 : decode cX3_append 29 = .ok (.aload_n 0, 1) := by decide +kernel
theorem dX3_append_30 : decode cX3_append 30 = .ok (.dup, 1) := by decide +kernel
theorem dX3_append_31 : decode cX3_append 31 = .ok (.getfield 19, 3) := by decide +kernel
theorem dX3_append_34 : decode cX3_append 34 = .ok (.iconst 1, 1) := by decide +kernel
theorem dX3_append_35 : decode cX3_append 35 = .ok (.iadd, 1) := by decide +kernel
theorem dX3_append_36 : decode cX3_append 36 = .ok (.putfield 19, 3) := by decide +kernel
theorem dX3_append_39 : decode cX3_append 39 = .ok (.return_, 1) := by decide +kernel
theorem dX3_erase_0 : decode cX3_erase 0 = .ok (.aload_n 0, 1) := by decide +kernel
theorem dX3_erase_1 : decode cX3_erase 1 = .ok (.iconst 0, 1) := by decide +kernel
theorem dX3_erase_2 : decode cX3_erase 2 = .ok (.putfield 19, 3) := by decide +kernel
theorem dX3_erase_5 : decode cX3_erase 5 = .ok (.return_, 1) := by decide +kernel
theorem dX4_addInput_0 : decode cX4_addInput 0 = .ok (.aload_n 0, 1) := by decide +kernel
theorem dX4_addInput_1 : decode cX4_addInput 1 = .ok (.getfield 18, 3) := by decide +kernel
theorem dX4_addInput_4 : decode cX4_addInput 4 = .ok (.iconst 4, 1) := by decide +kernel
theorem dX4_addInput_5 : decode cX4_addInput 5 = .ok (.if_icmp .ge 23, 3) := by decide +kernel
theorem dX4_addInput_8 : decode cX4_addInput 8 = .ok (.aload_n 0, 1) := by decide +kernel
theorem dX4_addInput_9 : decode cX4_addInput 9 = .ok (.getfield 9, 3) := by decide +kernel
theorem dX4_addInput_12 : decode cX4_addInput 12 = .ok (.aload_n 0, 1) := by decide +kernel
theorem dX4_addInput_13 : decode cX4_addInput 13 = .ok (.getfield 18, 3) := by decide +kernel
theorem dX4_addInput_16 : decode cX4_addInput 16 = .ok (.iload_n 1, 1) := by decide +kernel
theorem dX4_addInput_17 : decode cX4_addInput 17 = .ok (.iastore, 1) := by decide +kernel
theorem dX4_addInput_18 : decode cX4_addInput 18 = .ok (.aload_n 0, 1) := by decide +kernel
theorem dX4_addInput_19 : decode cX4_addInput 19 = .ok (.dup, 1) := by decide +kernel
theorem dX4_addInput_20 : decode cX4_addInput 20 = .ok (.getfield 18, 3) := by decide +kernel
theorem dX4_addInput_23 : decode cX4_addInput 23 = .ok (.iconst 1, 1) := by decide +kernel
theorem dX4_addInput_24 : decode cX4_addInput 24 = .ok (.iadd, 1) := by decide +kernel
theorem dX4_addInput_25 : decode cX4_addInput 25 = .ok (.putfield 18, 3) := by decide +kernel
theorem dX4_addInput_28 : decode cX4_addInput 28 = .ok (.aload_n 0, 1) := by decide +kernel
theorem dX4_addInput_29 : decode cX4_addInput 29 = .ok (.getfield 18, 3) := by decide +kernel
theorem dX4_addInput_32 : decode cX4_addInput 32 = .ok (.ireturn, 1) := by decide +kernel
theorem dX4_addExpected_0 : decode cX4_addExpected 0 = .ok (.aload_n 0, 1) := by decide +kernel
theorem dX4_addExpected_1 : decode cX4_addExpected 1 = .ok (.getfield 22, 3) := by decide +kernel
theorem dX4_addExpected_4 : decode cX4_addExpected 4 = .ok (.bipush 6, 2) := by decide +kernel
theorem dX4_addExpected_6 : decode cX4_addExpected 6 = .ok (.if_icmp .ge 23, 3) := by decide +kernel
theorem dX4_addExpected_9 : decode cX4_addExpected 9 = .ok (.aload_n 0, 1) := by decide +kernel
theorem dX4_addExpected_10 : decode cX4_addExpected 10 = .ok (.getfield 15, 3) := by decide +kernel
theorem dX4_addExpected_13 : decode cX4_addExpected 13 = .ok (.aload_n 0, 1) := by decide +kernel
theorem dX4_addExpected_14 : decode cX4_addExpected 14 = .ok (.getfield 22, 3) := by decide +kernel
theorem dX4_addExpected_17 : decode cX4_addExpected 17 = .ok (.iload_n 1, 1) := by decide +kernel
theorem dX4_addExpected_18 : decode cX4_addExpected 18 = .ok (.iastore, 1) := by decide +kernel
theorem dX4_addExpected_19 : decode cX4_addExpected 19 = .ok (.aload_n 0, 1) := by decide +kernel
theorem dX4_addExpected_20 : decode cX4_addExpected 20 = .ok (.dup, 1) := by decide +kernel
theorem dX4_addExpected_21 : decode cX4_addExpected 21 = .ok (.getfield 22, 3) := by decide +kernel
theorem dX4_addExpected_24 : decode cX4_addExpected 24 = .ok (.iconst 1, 1) := by decide +kernel
theorem dX4_addExpected_25 : decode cX4_addExpected 25 = .ok (.iadd, 1) := by decide +kernel
theorem dX4_addExpected_26 : decode cX4_addExpected 26 = .ok (.putfield 22, 3) := by decide +kernel
theorem dX4_addExpected_29 : decode cX4_addExpected 29 = .ok (.aload_n 0, 1) := by decide +kernel
theorem dX4_addExpected_30 : decode cX4_addExpected 30 = .ok (.getfield 22, 3) := by decide +kernel
theorem dX4_addExpected_33 : decode cX4_addExpected 33 = .ok (.ireturn, 1) := by decide +kernel
theorem dX4_erase_0 : decode cX4_erase 0 = .ok (.aload_n 0, 1) := by decide +kernel
theorem dX4_erase_1 : decode cX4_erase 1 = .ok (.iconst 0, 1) := by decide +kernel
theorem dX4_erase_2 : decode cX4_erase 2 = .ok (.putfield 18, 3) := by decide +kernel
theorem dX4_erase_5 : decode cX4_erase 5 = .ok (.aload_n 0, 1) := by decide +kernel
theorem dX4_erase_6 : decode cX4_erase 6 = .ok (.iconst 0, 1) := by decide +kernel
theorem dX4_erase_7 : decode cX4_erase 7 = .ok (.putfield 22, 3) := by decide +kernel
theorem dX4_erase_10 : decode cX4_erase 10 = .ok (.return_, 1) := by decide +kernel
theorem dX6_wipe_0 : decode cX6_wipe 0 = .ok (.aload_n 0, 1) := by decide +kernel
theorem dX6_wipe_1 : decode cX6_wipe 1 = .ok (.getfield 10, 3) := by decide +kernel
theorem dX6_wipe_4 : decode cX6_wipe 4 = .ok (.getfield 105, 3) := by decide +kernel
theorem dX6_wipe_7 : decode cX6_wipe 7 = .ok (.istore_n 1, 1) := by decide +kernel
theorem dX6_wipe_8 : decode cX6_wipe 8 = .ok (.aload_n 0, 1) := by decide +kernel
theorem dX6_wipe_9 : decode cX6_wipe 9 = .ok (.getfield 10, 3) := by decide +kernel
theorem dX6_wipe_12 : decode cX6_wipe 12 = .ok (.invokevirtual 117, 3) := by decide +kernel
theorem dX6_wipe_15 : decode cX6_wipe 15 = .ok (.iload_n 1, 1) := by decide +kernel
theorem dX6_wipe_16 : decode cX6_wipe 16 = .ok (.ireturn, 1) := by decide +kernel
theorem dX6_number_0 : decode cX6_number 0 = .ok (.iload_n 1, 1) := by decide +kernel
theorem dX6_number_1 : decode cX6_number 1 = .ok (.invokestatic 99, 3) := by decide +kernel
theorem dX6_number_4 : decode cX6_number 4 = .ok (.ifCond .eq 13, 3) := by decide +kernel
theorem dX6_number_7 : decode cX6_number 7 = .ok (.new 92, 3) := by decide +kernel
theorem dX6_number_10 : decode cX6_number 10 = .ok (.dup, 1) := by decide +kernel
theorem dX6_number_11 : decode cX6_number 11 = .ok (.ldc 103, 2) := by decide +kernel
theorem dX6_number_13 : decode cX6_number 13 = .ok (.invokespecial 96, 3) := by decide +kernel
theorem dX6_number_16 : decode cX6_number 16 = .ok (.athrow, 1) := by decide +kernel
theorem dX6_number_17 : decode cX6_number 17 = .ok (.iload_n 2, 1) := by decide +kernel
theorem dX6_number_18 : decode cX6_number 18 = .ok (.ifCond .eq 18, 3) := by decide +kernel
theorem dX6_number_21 : decode cX6_number 21 = .ok (.aload_n 0, 1) := by decide +kernel
theorem dX6_number_22 : decode cX6_number 22 = .ok (.getfield 19, 3) := by decide +kernel
theorem dX6_number_25 : decode cX6_number 25 = .ok (.getfield 120, 3) := by decide +kernel
theorem dX6_number_28 : decode cX6_number 28 = .ok (.bipush 6, 2) := by decide +kernel
theorem dX6_number_30 : decode cX6_number 30 = .ok (.if_icmp .lt 27, 3) := by decide +kernel
theorem dX6_number_36 : decode cX6_number 36 = .ok (.aload_n 0, 1) := by decide +kernel
theorem dX6_number_37 : decode cX6_number 37 = .ok (.getfield 19, 3) := by decide +kernel
theorem dX6_number_40 : decode cX6_number 40 = .ok (.getfield 123, 3) := by decide +kernel
theorem dX6_number_43 : decode cX6_number 43 = .ok (.iconst 4, 1) := by decide +kernel
theorem dX6_number_44 : decode cX6_number 44 = .ok (.if_icmp .lt 13, 3) := by decide +kernel
theorem dX6_number_57 : decode cX6_number 57 = .ok (.iload_n 2, 1) := by decide +kernel
theorem dX6_number_58 : decode cX6_number 58 = .ok (.ifCond .eq 14, 3) := by decide +kernel
theorem dX6_number_61 : decode cX6_number 61 = .ok (.aload_n 0, 1) := by decide +kernel
theorem dX6_number_62 : decode cX6_number 62 = .ok (.getfield 19, 3) := by decide +kernel
theorem dX6_number_65 : decode cX6_number 65 = .ok (.iload_n 1, 1) := by decide +kernel
theorem dX6_number_66 : decode cX6_number 66 = .ok (.invokevirtual 128, 3) := by decide +kernel
theorem dX6_number_69 : decode cX6_number 69 = .ok (.goto 11, 3) := by decide +kernel
theorem dX6_number_72 : decode cX6_number 72 = .ok (.aload_n 0, 1) := by decide +kernel
theorem dX6_number_73 : decode cX6_number 73 = .ok (.getfield 19, 3) := by decide +kernel
theorem dX6_number_76 : decode cX6_number 76 = .ok (.iload_n 1, 1) := by decide +kernel
theorem dX6_number_77 : decode cX6_number 77 = .ok (.invokevirtual 131, 3) := by decide +kernel
theorem dX6_number_80 : decode cX6_number 80 = .ok (.ireturn, 1) := by decide +kernel
theorem dX6_clear_0 : decode cX6_clear 0 = .ok (.aload_n 0, 1) := by decide +kernel
theorem dX6_clear_1 : decode cX6_clear 1 = .ok (.getfield 19, 3) := by decide +kernel
theorem dX6_clear_4 : decode cX6_clear 4 = .ok (.getfield 123, 3) := by decide +kernel
theorem dX6_clear_7 : decode cX6_clear 7 = .ok (.aload_n 0, 1) := by decide +kernel
theorem dX6_clear_8 : decode cX6_clear 8 = .ok (.getfield 19, 3) := by decide +kernel
theorem dX6_clear_11 : decode cX6_clear 11 = .ok (.getfield 120, 3) := by decide +kernel
theorem dX6_clear_14 : decode cX6_clear 14 = .ok (.iadd, 1) := by decide +kernel
theorem dX6_clear_15 : decode cX6_clear 15 = .ok (.istore_n 1, 1) := by decide +kernel
theorem dX6_clear_16 : decode cX6_clear 16 = .ok (.aload_n 0, 1) := by decide +kernel
theorem dX6_clear_17 : decode cX6_clear 17 = .ok (.getfield 19, 3) := by decide +kernel
theorem dX6_clear_20 : decode cX6_clear 20 = .ok (.invokevirtual 134, 3) := by decide +kernel
theorem dX6_clear_23 : decode cX6_clear 23 = .ok (.iload_n 1, 1) := by decide +kernel
theorem dX6_clear_24 : decode cX6_clear 24 = .ok (.ireturn, 1) := by decide +kernel
theorem dX6_kata_0 : decode cX6_kata 0 = .ok (.iload_n 1, 1) := by decide +kernel
theorem dX6_kata_1 : decode cX6_kata 1 = .ok (.iconst 1, 1) := by decide +kernel
theorem dX6_kata_2 : decode cX6_kata 2 = .ok (.if_icmp .lt 8, 3) := by decide +kernel
theorem dX6_kata_5 : decode cX6_kata 5 = .ok (.iload_n 1, 1) := by decide +kernel
theorem dX6_kata_6 : decode cX6_kata 6 = .ok (.iconst 5, 1) := by decide +kernel
theorem dX6_kata_7 : decode cX6_kata 7 = .ok (.if_icmp .le 13, 3) := by decide +kernel
theorem dX6_kata_10 : decode cX6_kata 10 = .ok (.new 92, 3) := by decide +kernel
theorem dX6_kata_13 : decode cX6_kata 13 = .ok (.dup, 1) := by decide +kernel
theorem dX6_kata_14 : decode cX6_kata 14 = .ok (.ldc 135, 2) := by decide +kernel
theorem dX6_kata_16 : decode cX6_kata 16 = .ok (.invokespecial 96, 3) := by decide +kernel
theorem dX6_kata_19 : decode cX6_kata 19 = .ok (.athrow, 1) := by decide +kernel
theorem dX6_kata_20 : decode cX6_kata 20 = .ok (.aload_n 0, 1) := by decide +kernel
theorem dX6_kata_21 : decode cX6_kata 21 = .ok (.getfield 58, 3) := by decide +kernel
theorem dX6_kata_24 : decode cX6_kata 24 = .ok (.bipush 8, 2) := by decide +kernel
theorem dX6_kata_26 : decode cX6_kata 26 = .ok (.if_icmp .lt 13, 3) := by decide +kernel
theorem dX6_kata_39 : decode cX6_kata 39 = .ok (.aload_n 0, 1) := by decide +kernel
theorem dX6_kata_40 : decode cX6_kata 40 = .ok (.getfield 25, 3) := by decide +kernel
theorem dX6_kata_43 : decode cX6_kata 43 = .ok (.aload_n 0, 1) := by decide +kernel
theorem dX6_kata_44 : decode cX6_kata 44 = .ok (.getfield 58, 3) := by decide +kernel
theorem dX6_kata_47 : decode cX6_kata 47 = .ok (.aaload, 1) := by decide +kernel
theorem dX6_kata_48 : decode cX6_kata 48 = .ok (.iload_n 1, 1) := by decide +kernel
theorem dX6_kata_49 : decode cX6_kata 49 = .ok (.putfield 139, 3) := by decide +kernel
theorem dX6_kata_52 : decode cX6_kata 52 = .ok (.aload_n 0, 1) := by decide +kernel
theorem dX6_kata_53 : decode cX6_kata 53 = .ok (.dup, 1) := by decide +kernel
theorem dX6_kata_54 : decode cX6_kata 54 = .ok (.getfield 58, 3) := by decide +kernel
theorem dX6_kata_57 : decode cX6_kata 57 = .ok (.iconst 1, 1) := by decide +kernel
theorem dX6_kata_58 : decode cX6_kata 58 = .ok (.iadd, 1) := by decide +kernel
theorem dX6_kata_59 : decode cX6_kata 59 = .ok (.putfield 58, 3) := by decide +kernel
theorem dX6_kata_62 : decode cX6_kata 62 = .ok (.aload_n 0, 1) := by decide +kernel
theorem dX6_kata_63 : decode cX6_kata 63 = .ok (.getfield 58, 3) := by decide +kernel
theorem dX6_kata_66 : decode cX6_kata 66 = .ok (.iconst 1, 1) := by decide +kernel
theorem dX6_kata_67 : decode cX6_kata 67 = .ok (.isub, 1) := by decide +kernel
theorem dX6_kata_68 : decode cX6_kata 68 = .ok (.ireturn, 1) := by decide +kernel
theorem dX6_test_0 : decode cX6_test 0 = .ok (.aload_n 0, 1) := by decide +kernel
theorem dX6_test_1 : decode cX6_test 1 = .ok (.iload_n 1, 1) := by decide +kernel
theorem dX6_test_2 : decode cX6_test 2 = .ok (.invokevirtual 142, 3) := by decide +kernel
theorem dX6_fix_0 : decode cX6_fix 0 = .ok (.aload_n 0, 1) := by decide +kernel
theorem dX6_fix_1 : decode cX6_fix 1 = .ok (.iload_n 1, 1) := by decide +kernel
theorem dX6_fix_2 : decode cX6_fix 2 = .ok (.aload_n 0, 1) := by decide +kernel
theorem dX6_fix_3 : decode cX6_fix 3 = .ok (.aload_n 0, 1) := by decide +kernel
theorem dX6_fix_4 : decode cX6_fix 4 = .ok (.iload_n 1, 1) := by decide +kernel
theorem dX6_fix_5 : decode cX6_fix 5 = .ok (.invokevirtual 142, 3) := by decide +kernel
theorem dX6_tests_0 : decode cX6_tests 0 = .ok (.aload_n 0, 1) := by decide +kernel
theorem dX6_tests_1 : decode cX6_tests 1 = .ok (.iload_n 1, 1) := by decide +kernel
theorem dX6_tests_2 : decode cX6_tests 2 = .ok (.invokevirtual 142, 3) := by decide +kernel
theorem dX6_run_0 : decode cX6_run 0 = .ok (.aload_n 0, 1) := by decide +kernel
theorem dX6_run_1 : decode cX6_run 1 = .ok (.aload_n 0, 1) := by decide +kernel
theorem dX6_run_2 : decode cX6_run 2 = .ok (.iload_n 1, 1) := by decide +kernel
theorem dX6_run_3 : decode cX6_run 3 = .ok (.invokevirtual 142, 3) := by decide +kernel
theorem dX6_done_0 : decode cX6_done 0 = .ok (.aload_n 0, 1) := by decide +kernel
theorem dX6_done_1 : decode cX6_done 1 = .ok (.invokevirtual 176, 3) := by decide +kernel
theorem dX6_outputs_0 : decode cX6_outputs 0 = .ok (.aload_n 0, 1) := by decide +kernel
theorem dX6_outputs_1 : decode cX6_outputs 1 = .ok (.invokevirtual 176, 3) := by decide +kernel
theorem dX6_output_0 : decode cX6_output 0 = .ok (.aload_n 0, 1) := by decide +kernel
theorem dX6_output_1 : decode cX6_output 1 = .ok (.invokevirtual 176, 3) := by decide +kernel
theorem dX6_depth_0 : decode cX6_depth 0 = .ok (.aload_n 0, 1) := by decide +kernel
theorem dX6_depth_1 : decode cX6_depth 1 = .ok (.invokevirtual 176, 3) := by decide +kernel
theorem dX6_member_0 : decode cX6_member 0 = .ok (.aload_n 0, 1) := by decide +kernel
theorem dX6_member_1 : decode cX6_member 1 = .ok (.getfield 62, 3) := by decide +kernel
theorem dX6_member_4 : decode cX6_member 4 = .ok (.bipush 10, 2) := by decide +kernel
theorem dX6_member_6 : decode cX6_member 6 = .ok (.if_icmp .lt 13, 3) := by decide +kernel
theorem dX6_member_19 : decode cX6_member 19 = .ok (.aload_n 0, 1) := by decide +kernel
theorem dX6_member_20 : decode cX6_member 20 = .ok (.dup, 1) := by decide +kernel
theorem dX6_member_21 : decode cX6_member 21 = .ok (.getfield 62, 3) := by decide +kernel
theorem dX6_member_24 : decode cX6_member 24 = .ok (.iconst 1, 1) := by decide +kernel
theorem dX6_member_25 : decode cX6_member 25 = .ok (.iadd, 1) := by decide +kernel
theorem dX6_member_26 : decode cX6_member 26 = .ok (.putfield 62, 3) := by decide +kernel
theorem dX6_member_29 : decode cX6_member 29 = .ok (.aload_n 0, 1) := by decide +kernel
theorem dX6_member_30 : decode cX6_member 30 = .ok (.getfield 62, 3) := by decide +kernel
theorem dX6_member_33 : decode cX6_member 33 = .ok (.iconst 1, 1) := by decide +kernel
theorem dX6_member_34 : decode cX6_member 34 = .ok (.isub, 1) := by decide +kernel
theorem dX6_member_35 : decode cX6_member 35 = .ok (.ireturn, 1) := by decide +kernel
theorem dX6_submit_0 : decode cX6_submit 0 = .ok (.aload_n 0, 1) := by decide +kernel
theorem dX6_submit_1 : decode cX6_submit 1 = .ok (.iload_n 1, 1) := by decide +kernel
theorem dX6_submit_2 : decode cX6_submit 2 = .ok (.invokevirtual 199, 3) := by decide +kernel
theorem dX6_works_0 : decode cX6_works 0 = .ok (.aload_n 0, 1) := by decide +kernel
theorem dX6_works_1 : decode cX6_works 1 = .ok (.getfield 65, 3) := by decide +kernel
theorem dX6_works_4 : decode cX6_works 4 = .ok (.ireturn, 1) := by decide +kernel
theorem dX6_of_0 : decode cX6_of 0 = .ok (.aload_n 0, 1) := by decide +kernel
theorem dX6_of_1 : decode cX6_of 1 = .ok (.iload_n 1, 1) := by decide +kernel
theorem dX6_of_2 : decode cX6_of 2 = .ok (.invokevirtual 219, 3) := by decide +kernel
theorem dX6_state_0 : decode cX6_state 0 = .ok (.aload_n 0, 1) := by decide +kernel
theorem dX6_state_1 : decode cX6_state 1 = .ok (.iload_n 1, 1) := by decide +kernel
theorem dX6_state_2 : decode cX6_state 2 = .ok (.invokevirtual 219, 3) := by decide +kernel
theorem dX6_sum_0 : decode cX6_sum 0 = .ok (.aload_n 0, 1) := by decide +kernel
theorem dX6_sum_1 : decode cX6_sum 1 = .ok (.iload_n 1, 1) := by decide +kernel
theorem dX6_sum_2 : decode cX6_sum 2 = .ok (.invokevirtual 219, 3) := by decide +kernel
theorem dX6_steps_0 : decode cX6_steps 0 = .ok (.aload_n 0, 1) := by decide +kernel
theorem dX6_steps_1 : decode cX6_steps 1 = .ok (.iload_n 1, 1) := by decide +kernel
theorem dX6_steps_2 : decode cX6_steps 2 = .ok (.invokevirtual 219, 3) := by decide +kernel
theorem dX6_hasBody_0 : decode cX6_hasBody 0 = .ok (.aload_n 0, 1) := by decide +kernel
theorem dX6_hasBody_1 : decode cX6_hasBody 1 = .ok (.iload_n 1, 1) := by decide +kernel
theorem dX6_hasBody_2 : decode cX6_hasBody 2 = .ok (.invokevirtual 219, 3) := by decide +kernel
theorem dX6_letter_0 : decode cX6_letter 0 = .ok (.aload_n 0, 1) := by decide +kernel
theorem dX6_letter_1 : decode cX6_letter 1 = .ok (.iload_n 1, 1) := by decide +kernel
theorem dX6_letter_2 : decode cX6_letter 2 = .ok (.invokevirtual 219, 3) := by decide +kernel
theorem dX6_drop_0 : decode cX6_drop 0 = .ok (.aload_n 0, 1) := by decide +kernel
theorem dX6_drop_1 : decode cX6_drop 1 = .ok (.iload_n 1, 1) := by decide +kernel
theorem dX6_drop_2 : decode cX6_drop 2 = .ok (.invokevirtual 219, 3) := by decide +kernel
theorem dX6_capacity_0 : decode cX6_capacity 0 = .ok (.iload_n 1, 1) := by decide +kernel
theorem dX6_capacity_1 : decode cX6_capacity 1 = .ok (.iconst 1, 1) := by decide +kernel
theorem dX6_capacity_2 : decode cX6_capacity 2 = .ok (.if_icmp .lt 9, 3) := by decide +kernel
theorem dX6_capacity_5 : decode cX6_capacity 5 = .ok (.iload_n 1, 1) := by decide +kernel
theorem dX6_capacity_6 : decode cX6_capacity 6 = .ok (.bipush 40, 2) := by decide +kernel
theorem dX6_capacity_8 : decode cX6_capacity 8 = .ok (.if_icmp .le 14, 3) := by decide +kernel
theorem dX6_capacity_11 : decode cX6_capacity 11 = .ok (.new 92, 3) := by decide +kernel
theorem dX6_capacity_14 : decode cX6_capacity 14 = .ok (.dup, 1) := by decide +kernel
theorem dX6_capacity_15 : decode cX6_capacity 15 = .ok (.ldc_w 273, 3) := by decide +kernel
theorem dX6_capacity_18 : decode cX6_capacity 18 = .ok (.invokespecial 96, 3) := by decide +kernel
theorem dX6_capacity_21 : decode cX6_capacity 21 = .ok (.athrow, 1) := by decide +kernel
theorem dX6_capacity_22 : decode cX6_capacity 22 = .ok (.aload_n 0, 1) := by decide +kernel
theorem dX6_capacity_23 : decode cX6_capacity 23 = .ok (.iload_n 1, 1) := by decide +kernel
theorem dX6_capacity_24 : decode cX6_capacity 24 = .ok (.putfield 71, 3) := by decide +kernel
theorem dX6_capacity_27 : decode cX6_capacity 27 = .ok (.aload_n 0, 1) := by decide +kernel
theorem dX6_capacity_28 : decode cX6_capacity 28 = .ok (.invokevirtual 215, 3) := by decide +kernel
theorem dX6_capacity_31 : decode cX6_capacity 31 = .ok (.ireturn, 1) := by decide +kernel
theorem dX6_bodies_0 : decode cX6_bodies 0 = .ok (.aload_n 0, 1) := by decide +kernel
theorem dX6_bodies_1 : decode cX6_bodies 1 = .ok (.invokevirtual 270, 3) := by decide +kernel
theorem dX6_bodies_4 : decode cX6_bodies 4 = .ok (.ireturn, 1) := by decide +kernel
theorem dX6_read_0 : decode cX6_read 0 = .ok (.aload_n 0, 1) := by decide +kernel
theorem dX6_read_1 : decode cX6_read 1 = .ok (.iload_n 1, 1) := by decide +kernel
theorem dX6_read_2 : decode cX6_read 2 = .ok (.invokevirtual 199, 3) := by decide +kernel
theorem dX6_copy_0 : decode cX6_copy 0 = .ok (.aload_n 0, 1) := by decide +kernel
theorem dX6_copy_1 : decode cX6_copy 1 = .ok (.iload_n 1, 1) := by decide +kernel
theorem dX6_copy_2 : decode cX6_copy 2 = .ok (.invokevirtual 199, 3) := by decide +kernel
theorem dX6_vote_0 : decode cX6_vote 0 = .ok (.aload_n 0, 1) := by decide +kernel
theorem dX6_vote_1 : decode cX6_vote 1 = .ok (.iload_n 1, 1) := by decide +kernel
theorem dX6_vote_2 : decode cX6_vote 2 = .ok (.invokevirtual 199, 3) := by decide +kernel
theorem dX6_style_0 : decode cX6_style 0 = .ok (.aload_n 0, 1) := by decide +kernel
theorem dX6_style_1 : decode cX6_style 1 = .ok (.iload_n 1, 1) := by decide +kernel
theorem dX6_style_2 : decode cX6_style 2 = .ok (.invokevirtual 219, 3) := by decide +kernel
theorem dX6_review_0 : decode cX6_review 0 = .ok (.aload_n 0, 1) := by decide +kernel
theorem dX6_review_1 : decode cX6_review 1 = .ok (.iload_n 1, 1) := by decide +kernel
theorem dX6_review_2 : decode cX6_review 2 = .ok (.invokevirtual 199, 3) := by decide +kernel
theorem dX6_best_0 : decode cX6_best 0 = .ok (.aload_n 0, 1) := by decide +kernel
theorem dX6_best_1 : decode cX6_best 1 = .ok (.iload_n 1, 1) := by decide +kernel
theorem dX6_best_2 : decode cX6_best 2 = .ok (.invokevirtual 199, 3) := by decide +kernel
theorem dX6_points_0 : decode cX6_points 0 = .ok (.aload_n 0, 1) := by decide +kernel
theorem dX6_points_1 : decode cX6_points 1 = .ok (.iload_n 1, 1) := by decide +kernel
theorem dX6_points_2 : decode cX6_points 2 = .ok (.invokevirtual 199, 3) := by decide +kernel
theorem dX6_belt_0 : decode cX6_belt 0 = .ok (.aload_n 0, 1) := by decide +kernel
theorem dX6_belt_1 : decode cX6_belt 1 = .ok (.iload_n 1, 1) := by decide +kernel
theorem dX6_belt_2 : decode cX6_belt 2 = .ok (.invokevirtual 199, 3) := by decide +kernel
theorem dX6_honour_0 : decode cX6_honour 0 = .ok (.aload_n 0, 1) := by decide +kernel
theorem dX6_honour_1 : decode cX6_honour 1 = .ok (.iload_n 1, 1) := by decide +kernel
theorem dX6_honour_2 : decode cX6_honour 2 = .ok (.invokevirtual 199, 3) := by decide +kernel
theorem dX6_ranked_0 : decode cX6_ranked 0 = .ok (.iconst 0, 1) := by decide +kernel
theorem dX6_ranked_1 : decode cX6_ranked 1 = .ok (.istore_n 2, 1) := by decide +kernel
theorem dX6_ranked_2 : decode cX6_ranked 2 = .ok (.iload_n 2, 1) := by decide +kernel
theorem dX6_ranked_3 : decode cX6_ranked 3 = .ok (.aload_n 0, 1) := by decide +kernel
theorem dX6_ranked_4 : decode cX6_ranked 4 = .ok (.getfield 62, 3) := by decide +kernel
theorem dX6_ranked_7 : decode cX6_ranked 7 = .ok (.if_icmp .ge 54, 3) := by decide +kernel
theorem dX6_ranked_61 : decode cX6_ranked 61 = .ok (.new 186, 3) := by decide +kernel
theorem dX6_ranked_64 : decode cX6_ranked 64 = .ok (.dup, 1) := by decide +kernel
theorem dX6_ranked_65 : decode cX6_ranked 65 = .ok (.ldc_w 338, 3) := by decide +kernel
theorem dX6_ranked_68 : decode cX6_ranked 68 = .ok (.invokespecial 190, 3) := by decide +kernel
theorem dX6_ranked_71 : decode cX6_ranked 71 = .ok (.athrow, 1) := by decide +kernel
theorem dX6_challenge_0 : decode cX6_challenge 0 = .ok (.aload_n 0, 1) := by decide +kernel
theorem dX6_challenge_1 : decode cX6_challenge 1 = .ok (.iload_n 1, 1) := by decide +kernel
theorem dX6_challenge_2 : decode cX6_challenge 2 = .ok (.invokevirtual 199, 3) := by decide +kernel
theorem dX6_give_0 : decode cX6_give 0 = .ok (.aload_n 0, 1) := by decide +kernel
theorem dX6_give_1 : decode cX6_give 1 = .ok (.iload_n 1, 1) := by decide +kernel
theorem dX6_give_2 : decode cX6_give 2 = .ok (.invokevirtual 199, 3) := by decide +kernel
theorem dX6_answer_0 : decode cX6_answer 0 = .ok (.aload_n 0, 1) := by decide +kernel
theorem dX6_answer_1 : decode cX6_answer 1 = .ok (.iload_n 1, 1) := by decide +kernel
theorem dX6_answer_2 : decode cX6_answer 2 = .ok (.invokevirtual 199, 3) := by decide +kernel
theorem dX6_open_0 : decode cX6_open 0 = .ok (.iload_n 1, 1) := by decide +kernel
theorem dX6_open_1 : decode cX6_open 1 = .ok (.ifCond .lt 11, 3) := by decide +kernel
theorem dX6_open_4 : decode cX6_open 4 = .ok (.iload_n 1, 1) := by decide +kernel
theorem dX6_open_5 : decode cX6_open 5 = .ok (.aload_n 0, 1) := by decide +kernel
theorem dX6_open_6 : decode cX6_open 6 = .ok (.getfield 68, 3) := by decide +kernel
theorem dX6_open_9 : decode cX6_open 9 = .ok (.if_icmp .lt 14, 3) := by decide +kernel
theorem dX6_open_12 : decode cX6_open 12 = .ok (.new 186, 3) := by decide +kernel
theorem dX6_open_15 : decode cX6_open 15 = .ok (.dup, 1) := by decide +kernel
theorem dX6_open_16 : decode cX6_open 16 = .ok (.ldc_w 371, 3) := by decide +kernel
theorem dX6_open_19 : decode cX6_open 19 = .ok (.invokespecial 190, 3) := by decide +kernel
theorem dX6_open_22 : decode cX6_open 22 = .ok (.athrow, 1) := by decide +kernel
theorem dX6_left_0 : decode cX6_left 0 = .ok (.aload_n 0, 1) := by decide +kernel
theorem dX6_left_1 : decode cX6_left 1 = .ok (.iload_n 1, 1) := by decide +kernel
theorem dX6_left_2 : decode cX6_left 2 = .ok (.invokevirtual 219, 3) := by decide +kernel
theorem dX6_days_0 : decode cX6_days 0 = .ok (.iload_n 1, 1) := by decide +kernel
theorem dX6_days_1 : decode cX6_days 1 = .ok (.iconst 1, 1) := by decide +kernel
theorem dX6_days_2 : decode cX6_days 2 = .ok (.if_icmp .lt 9, 3) := by decide +kernel
theorem dX6_days_5 : decode cX6_days 5 = .ok (.iload_n 1, 1) := by decide +kernel
theorem dX6_days_6 : decode cX6_days 6 = .ok (.bipush 30, 2) := by decide +kernel
theorem dX6_days_8 : decode cX6_days 8 = .ok (.if_icmp .le 14, 3) := by decide +kernel
theorem dX6_days_11 : decode cX6_days 11 = .ok (.new 92, 3) := by decide +kernel
theorem dX6_days_14 : decode cX6_days 14 = .ok (.dup, 1) := by decide +kernel
theorem dX6_days_15 : decode cX6_days 15 = .ok (.ldc_w 373, 3) := by decide +kernel
theorem dX6_days_18 : decode cX6_days 18 = .ok (.invokespecial 96, 3) := by decide +kernel
theorem dX6_days_21 : decode cX6_days 21 = .ok (.athrow, 1) := by decide +kernel
theorem dX6_days_22 : decode cX6_days 22 = .ok (.iconst 0, 1) := by decide +kernel
theorem dX6_days_23 : decode cX6_days 23 = .ok (.istore_n 2, 1) := by decide +kernel
theorem dX6_days_24 : decode cX6_days 24 = .ok (.aload_n 0, 1) := by decide +kernel
theorem dX6_days_25 : decode cX6_days 25 = .ok (.getfield 68, 3) := by decide +kernel
theorem dX6_days_28 : decode cX6_days 28 = .ok (.iconst 1, 1) := by decide +kernel
theorem dX6_days_29 : decode cX6_days 29 = .ok (.isub, 1) := by decide +kernel
theorem dX6_days_30 : decode cX6_days 30 = .ok (.istore_n 3, 1) := by decide +kernel
theorem dX6_days_31 : decode cX6_days 31 = .ok (.iload_n 3, 1) := by decide +kernel
theorem dX6_days_32 : decode cX6_days 32 = .ok (.ifCond .lt 91, 3) := by decide +kernel
theorem dX6_days_123 : decode cX6_days 123 = .ok (.iload_n 2, 1) := by decide +kernel
theorem dX6_days_124 : decode cX6_days 124 = .ok (.ireturn, 1) := by decide +kernel
theorem dX6_checksum_0 : decode cX6_checksum 0 = .ok (.ldc2_w 378, 3) := by decide +kernel
theorem dX6_checksum_3 : decode cX6_checksum 3 = .ok (.lstore_n 1, 1) := by decide +kernel
theorem dX6_checksum_4 : decode cX6_checksum 4 = .ok (.iconst 0, 1) := by decide +kernel
theorem dX6_checksum_5 : decode cX6_checksum 5 = .ok (.istore_n 3, 1) := by decide +kernel
theorem dX6_checksum_6 : decode cX6_checksum 6 = .ok (.iload_n 3, 1) := by decide +kernel
theorem dX6_checksum_7 : decode cX6_checksum 7 = .ok (.aload_n 0, 1) := by decide +kernel
theorem dX6_checksum_8 : decode cX6_checksum 8 = .ok (.getfield 65, 3) := by decide +kernel
theorem dX6_checksum_11 : decode cX6_checksum 11 = .ok (.if_icmp .ge 43, 3) := by decide +kernel
theorem dX6_checksum_54 : decode cX6_checksum 54 = .ok (.iconst 0, 1) := by decide +kernel
theorem dX6_checksum_55 : decode cX6_checksum 55 = .ok (.istore_n 3, 1) := by decide +kernel
theorem dX6_checksum_56 : decode cX6_checksum 56 = .ok (.iload_n 3, 1) := by decide +kernel
theorem dX6_checksum_57 : decode cX6_checksum 57 = .ok (.aload_n 0, 1) := by decide +kernel
theorem dX6_checksum_58 : decode cX6_checksum 58 = .ok (.getfield 62, 3) := by decide +kernel
theorem dX6_checksum_61 : decode cX6_checksum 61 = .ok (.if_icmp .ge 26, 3) := by decide +kernel
theorem dX6_checksum_87 : decode cX6_checksum 87 = .ok (.lload_n 1, 1) := by decide +kernel
theorem dX6_checksum_88 : decode cX6_checksum 88 = .ok (.lreturn, 1) := by decide +kernel
theorem dX6_standingShare_0 : decode cX6_standingShare 0 = .ok (.aload_n 0, 1) := by decide +kernel
theorem dX6_standingShare_1 : decode cX6_standingShare 1 = .ok (.getfield 65, 3) := by decide +kernel
theorem dX6_standingShare_4 : decode cX6_standingShare 4 = .ok (.ifCond .ne 14, 3) := by decide +kernel
theorem dX6_standingShare_7 : decode cX6_standingShare 7 = .ok (.new 385, 3) := by decide +kernel
theorem dX6_standingShare_10 : decode cX6_standingShare 10 = .ok (.dup, 1) := by decide +kernel
theorem dX6_standingShare_11 : decode cX6_standingShare 11 = .ok (.ldc_w 387, 3) := by decide +kernel
theorem dX6_standingShare_14 : decode cX6_standingShare 14 = .ok (.invokespecial 389, 3) := by decide +kernel
theorem dX6_standingShare_17 : decode cX6_standingShare 17 = .ok (.athrow, 1) := by decide +kernel
theorem dX6_meanSteps_0 : decode cX6_meanSteps 0 = .ok (.aload_n 0, 1) := by decide +kernel
theorem dX6_meanSteps_1 : decode cX6_meanSteps 1 = .ok (.iload_n 1, 1) := by decide +kernel
theorem dX6_meanSteps_2 : decode cX6_meanSteps 2 = .ok (.invokevirtual 219, 3) := by decide +kernel
theorem dX6_isSound_0 : decode cX6_isSound 0 = .ok (.aload_n 0, 1) := by decide +kernel
theorem dX6_isSound_1 : decode cX6_isSound 1 = .ok (.invokevirtual 270, 3) := by decide +kernel
theorem dX6_isSound_4 : decode cX6_isSound 4 = .ok (.aload_n 0, 1) := by decide +kernel
theorem dX6_isSound_5 : decode cX6_isSound 5 = .ok (.getfield 71, 3) := by decide +kernel
theorem dX6_isSound_8 : decode cX6_isSound 8 = .ok (.if_icmp .gt 28, 3) := by decide +kernel
theorem dX6_isSound_11 : decode cX6_isSound 11 = .ok (.aload_n 0, 1) := by decide +kernel
theorem dX6_isSound_12 : decode cX6_isSound 12 = .ok (.invokevirtual 395, 3) := by decide +kernel
theorem dX6_isSound_15 : decode cX6_isSound 15 = .ok (.ifCond .eq 21, 3) := by decide +kernel
theorem dX6_isSound_18 : decode cX6_isSound 18 = .ok (.aload_n 0, 1) := by decide +kernel
theorem dX6_isSound_19 : decode cX6_isSound 19 = .ok (.invokevirtual 398, 3) := by decide +kernel
theorem dX6_isSound_22 : decode cX6_isSound 22 = .ok (.ifCond .eq 14, 3) := by decide +kernel
theorem dX6_isSound_25 : decode cX6_isSound 25 = .ok (.aload_n 0, 1) := by decide +kernel
theorem dX6_isSound_26 : decode cX6_isSound 26 = .ok (.invokevirtual 401, 3) := by decide +kernel
theorem dX6_isSound_29 : decode cX6_isSound 29 = .ok (.ifCond .eq 7, 3) := by decide +kernel
theorem dX6_isSound_32 : decode cX6_isSound 32 = .ok (.iconst 1, 1) := by decide +kernel
theorem dX6_isSound_33 : decode cX6_isSound 33 = .ok (.goto 4, 3) := by decide +kernel
theorem dX6_isSound_37 : decode cX6_isSound 37 = .ok (.ireturn, 1) := by decide +kernel
theorem dX6_isOutOfRange_0 : decode cX6_isOutOfRange 0 = .ok (.iload_n 0, 1) := by decide +kernel
theorem dX6_isOutOfRange_1 : decode cX6_isOutOfRange 1 = .ok (.sipush (-999), 3) := by decide +kernel
theorem dX6_isOutOfRange_4 : decode cX6_isOutOfRange 4 = .ok (.if_icmp .lt 10, 3) := by decide +kernel
theorem dX6_isOutOfRange_7 : decode cX6_isOutOfRange 7 = .ok (.iload_n 0, 1) := by decide +kernel
theorem dX6_isOutOfRange_8 : decode cX6_isOutOfRange 8 = .ok (.sipush 999, 3) := by decide +kernel
theorem dX6_isOutOfRange_11 : decode cX6_isOutOfRange 11 = .ok (.if_icmp .le 7, 3) := by decide +kernel
theorem dX6_isOutOfRange_14 : decode cX6_isOutOfRange 14 = .ok (.iconst 1, 1) := by decide +kernel
theorem dX6_isOutOfRange_15 : decode cX6_isOutOfRange 15 = .ok (.goto 4, 3) := by decide +kernel
theorem dX6_isOutOfRange_18 : decode cX6_isOutOfRange 18 = .ok (.iconst 0, 1) := by decide +kernel
theorem dX6_isOutOfRange_19 : decode cX6_isOutOfRange 19 = .ok (.ireturn, 1) := by decide +kernel
theorem dX6_kataAt_0 : decode cX6_kataAt 0 = .ok (.iload_n 1, 1) := by decide +kernel
theorem dX6_kataAt_1 : decode cX6_kataAt 1 = .ok (.ifCond .lt 11, 3) := by decide +kernel
theorem dX6_kataAt_4 : decode cX6_kataAt 4 = .ok (.iload_n 1, 1) := by decide +kernel
theorem dX6_kataAt_5 : decode cX6_kataAt 5 = .ok (.aload_n 0, 1) := by decide +kernel
theorem dX6_kataAt_6 : decode cX6_kataAt 6 = .ok (.getfield 58, 3) := by decide +kernel
theorem dX6_kataAt_9 : decode cX6_kataAt 9 = .ok (.if_icmp .lt 14, 3) := by decide +kernel
theorem dX6_kataAt_12 : decode cX6_kataAt 12 = .ok (.new 404, 3) := by decide +kernel
theorem dX6_kataAt_15 : decode cX6_kataAt 15 = .ok (.dup, 1) := by decide +kernel
theorem dX6_kataAt_16 : decode cX6_kataAt 16 = .ok (.ldc_w 406, 3) := by decide +kernel
theorem dX6_kataAt_19 : decode cX6_kataAt 19 = .ok (.invokespecial 408, 3) := by decide +kernel
theorem dX6_kataAt_22 : decode cX6_kataAt 22 = .ok (.athrow, 1) := by decide +kernel
theorem dX6_memberAt_0 : decode cX6_memberAt 0 = .ok (.iload_n 1, 1) := by decide +kernel
theorem dX6_memberAt_1 : decode cX6_memberAt 1 = .ok (.ifCond .lt 11, 3) := by decide +kernel
theorem dX6_memberAt_4 : decode cX6_memberAt 4 = .ok (.iload_n 1, 1) := by decide +kernel
theorem dX6_memberAt_5 : decode cX6_memberAt 5 = .ok (.aload_n 0, 1) := by decide +kernel
theorem dX6_memberAt_6 : decode cX6_memberAt 6 = .ok (.getfield 62, 3) := by decide +kernel
theorem dX6_memberAt_9 : decode cX6_memberAt 9 = .ok (.if_icmp .lt 14, 3) := by decide +kernel
theorem dX6_memberAt_12 : decode cX6_memberAt 12 = .ok (.new 404, 3) := by decide +kernel
theorem dX6_memberAt_15 : decode cX6_memberAt 15 = .ok (.dup, 1) := by decide +kernel
theorem dX6_memberAt_16 : decode cX6_memberAt 16 = .ok (.ldc_w 411, 3) := by decide +kernel
theorem dX6_memberAt_19 : decode cX6_memberAt 19 = .ok (.invokespecial 408, 3) := by decide +kernel
theorem dX6_memberAt_22 : decode cX6_memberAt 22 = .ok (.athrow, 1) := by decide +kernel
theorem dX6_workAt_0 : decode cX6_workAt 0 = .ok (.iload_n 1, 1) := by decide +kernel
theorem dX6_workAt_1 : decode cX6_workAt 1 = .ok (.ifCond .lt 11, 3) := by decide +kernel
theorem dX6_workAt_4 : decode cX6_workAt 4 = .ok (.iload_n 1, 1) := by decide +kernel
theorem dX6_workAt_5 : decode cX6_workAt 5 = .ok (.aload_n 0, 1) := by decide +kernel
theorem dX6_workAt_6 : decode cX6_workAt 6 = .ok (.getfield 65, 3) := by decide +kernel
theorem dX6_workAt_9 : decode cX6_workAt 9 = .ok (.if_icmp .lt 14, 3) := by decide +kernel
theorem dX6_workAt_12 : decode cX6_workAt 12 = .ok (.new 404, 3) := by decide +kernel
theorem dX6_workAt_15 : decode cX6_workAt 15 = .ok (.dup, 1) := by decide +kernel
theorem dX6_workAt_16 : decode cX6_workAt 16 = .ok (.ldc_w 413, 3) := by decide +kernel
theorem dX6_workAt_19 : decode cX6_workAt 19 = .ok (.invokespecial 408, 3) := by decide +kernel
theorem dX6_workAt_22 : decode cX6_workAt 22 = .ok (.athrow, 1) := by decide +kernel
theorem dX6_lastRun_0 : decode cX6_lastRun 0 = .ok (.aload_n 0, 1) := by decide +kernel
theorem dX6_lastRun_1 : decode cX6_lastRun 1 = .ok (.getfield 77, 3) := by decide +kernel
theorem dX6_lastRun_4 : decode cX6_lastRun 4 = .ok (.ifCond .ne 14, 3) := by decide +kernel
theorem dX6_lastRun_7 : decode cX6_lastRun 7 = .ok (.new 186, 3) := by decide +kernel
theorem dX6_lastRun_10 : decode cX6_lastRun 10 = .ok (.dup, 1) := by decide +kernel
theorem dX6_lastRun_11 : decode cX6_lastRun 11 = .ok (.ldc_w 415, 3) := by decide +kernel
theorem dX6_lastRun_14 : decode cX6_lastRun 14 = .ok (.invokespecial 190, 3) := by decide +kernel
theorem dX6_lastRun_17 : decode cX6_lastRun 17 = .ok (.athrow, 1) := by decide +kernel
theorem dX6_bodyCount_0 : decode cX6_bodyCount 0 = .ok (.iconst 0, 1) := by decide +kernel
theorem dX6_bodyCount_1 : decode cX6_bodyCount 1 = .ok (.istore_n 1, 1) := by decide +kernel
theorem dX6_bodyCount_2 : decode cX6_bodyCount 2 = .ok (.iconst 0, 1) := by decide +kernel
theorem dX6_bodyCount_3 : decode cX6_bodyCount 3 = .ok (.istore_n 2, 1) := by decide +kernel
theorem dX6_bodyCount_4 : decode cX6_bodyCount 4 = .ok (.iload_n 2, 1) := by decide +kernel
theorem dX6_bodyCount_5 : decode cX6_bodyCount 5 = .ok (.aload_n 0, 1) := by decide +kernel
theorem dX6_bodyCount_6 : decode cX6_bodyCount 6 = .ok (.getfield 65, 3) := by decide +kernel
theorem dX6_bodyCount_9 : decode cX6_bodyCount 9 = .ok (.if_icmp .ge 29, 3) := by decide +kernel
theorem dX6_bodyCount_38 : decode cX6_bodyCount 38 = .ok (.iload_n 1, 1) := by decide +kernel
theorem dX6_bodyCount_39 : decode cX6_bodyCount 39 = .ok (.ireturn, 1) := by decide +kernel
theorem dX6_makeRoom_0 : decode cX6_makeRoom 0 = .ok (.iconst 0, 1) := by decide +kernel
theorem dX6_makeRoom_1 : decode cX6_makeRoom 1 = .ok (.istore_n 1, 1) := by decide +kernel
theorem dX6_makeRoom_2 : decode cX6_makeRoom 2 = .ok (.aload_n 0, 1) := by decide +kernel
theorem dX6_makeRoom_3 : decode cX6_makeRoom 3 = .ok (.invokevirtual 270, 3) := by decide +kernel
theorem dX6_makeRoom_6 : decode cX6_makeRoom 6 = .ok (.aload_n 0, 1) := by decide +kernel
theorem dX6_makeRoom_7 : decode cX6_makeRoom 7 = .ok (.getfield 71, 3) := by decide +kernel
theorem dX6_makeRoom_10 : decode cX6_makeRoom 10 = .ok (.isub, 1) := by decide +kernel
theorem dX6_makeRoom_11 : decode cX6_makeRoom 11 = .ok (.istore_n 2, 1) := by decide +kernel
theorem dX6_makeRoom_12 : decode cX6_makeRoom 12 = .ok (.iload_n 2, 1) := by decide +kernel
theorem dX6_makeRoom_13 : decode cX6_makeRoom 13 = .ok (.ifCond .le 32, 3) := by decide +kernel
theorem dX6_makeRoom_45 : decode cX6_makeRoom 45 = .ok (.iload_n 1, 1) := by decide +kernel
theorem dX6_makeRoom_46 : decode cX6_makeRoom 46 = .ok (.ireturn, 1) := by decide +kernel
theorem dX6_areBodiesSound_0 : decode cX6_areBodiesSound 0 = .ok (.iconst 0, 1) := by decide +kernel
theorem dX6_areBodiesSound_1 : decode cX6_areBodiesSound 1 = .ok (.istore_n 1, 1) := by decide +kernel
theorem dX6_areBodiesSound_2 : decode cX6_areBodiesSound 2 = .ok (.iload_n 1, 1) := by decide +kernel
theorem dX6_areBodiesSound_3 : decode cX6_areBodiesSound 3 = .ok (.aload_n 0, 1) := by decide +kernel
theorem dX6_areBodiesSound_4 : decode cX6_areBodiesSound 4 = .ok (.getfield 65, 3) := by decide +kernel
theorem dX6_areBodiesSound_7 : decode cX6_areBodiesSound 7 = .ok (.if_icmp .ge 52, 3) := by decide +kernel
theorem dX6_areBodiesSound_59 : decode cX6_areBodiesSound 59 = .ok (.iconst 1, 1) := by decide +kernel
theorem dX6_areBodiesSound_60 : decode cX6_areBodiesSound 60 = .ok (.ireturn, 1) := by decide +kernel
theorem dX6_areBeltsSound_0 : decode cX6_areBeltsSound 0 = .ok (.iconst 0, 1) := by decide +kernel
theorem dX6_areBeltsSound_1 : decode cX6_areBeltsSound 1 = .ok (.istore_n 1, 1) := by decide +kernel
theorem dX6_areBeltsSound_2 : decode cX6_areBeltsSound 2 = .ok (.iload_n 1, 1) := by decide +kernel
theorem dX6_areBeltsSound_3 : decode cX6_areBeltsSound 3 = .ok (.aload_n 0, 1) := by decide +kernel
theorem dX6_areBeltsSound_4 : decode cX6_areBeltsSound 4 = .ok (.getfield 65, 3) := by decide +kernel
theorem dX6_areBeltsSound_7 : decode cX6_areBeltsSound 7 = .ok (.if_icmp .ge 23, 3) := by decide +kernel
theorem dX6_areBeltsSound_30 : decode cX6_areBeltsSound 30 = .ok (.iconst 0, 1) := by decide +kernel
theorem dX6_areBeltsSound_31 : decode cX6_areBeltsSound 31 = .ok (.istore_n 1, 1) := by decide +kernel
theorem dX6_areBeltsSound_32 : decode cX6_areBeltsSound 32 = .ok (.iload_n 1, 1) := by decide +kernel
theorem dX6_areBeltsSound_33 : decode cX6_areBeltsSound 33 = .ok (.aload_n 0, 1) := by decide +kernel
theorem dX6_areBeltsSound_34 : decode cX6_areBeltsSound 34 = .ok (.getfield 62, 3) := by decide +kernel
theorem dX6_areBeltsSound_37 : decode cX6_areBeltsSound 37 = .ok (.if_icmp .ge 24, 3) := by decide +kernel
theorem dX6_areBeltsSound_61 : decode cX6_areBeltsSound 61 = .ok (.iconst 1, 1) := by decide +kernel
theorem dX6_areBeltsSound_62 : decode cX6_areBeltsSound 62 = .ok (.ireturn, 1) := by decide +kernel
theorem dX6_areChallengesSound_0 : decode cX6_areChallengesSound 0 = .ok (.iconst 0, 1) := by decide +kernel
theorem dX6_areChallengesSound_1 : decode cX6_areChallengesSound 1 = .ok (.istore_n 1, 1) := by decide +kernel
theorem dX6_areChallengesSound_2 : decode cX6_areChallengesSound 2 = .ok (.iconst 0, 1) := by decide +kernel
theorem dX6_areChallengesSound_3 : decode cX6_areChallengesSound 3 = .ok (.istore_n 2, 1) := by decide +kernel
theorem dX6_areChallengesSound_4 : decode cX6_areChallengesSound 4 = .ok (.iload_n 2, 1) := by decide +kernel
theorem dX6_areChallengesSound_5 : decode cX6_areChallengesSound 5 = .ok (.aload_n 0, 1) := by decide +kernel
theorem dX6_areChallengesSound_6 : decode cX6_areChallengesSound 6 = .ok (.getfield 65, 3) := by decide +kernel
theorem dX6_areChallengesSound_9 : decode cX6_areChallengesSound 9 = .ok (.if_icmp .ge 26, 3) := by decide +kernel
theorem dX6_areChallengesSound_35 : decode cX6_areChallengesSound 35 = .ok (.iconst 0, 1) := by decide +kernel
theorem dX6_areChallengesSound_36 : decode cX6_areChallengesSound 36 = .ok (.istore_n 2, 1) := by decide +kernel
theorem dX6_areChallengesSound_37 : decode cX6_areChallengesSound 37 = .ok (.iload_n 2, 1) := by decide +kernel
theorem dX6_areChallengesSound_38 : decode cX6_areChallengesSound 38 = .ok (.aload_n 0, 1) := by decide +kernel
theorem dX6_areChallengesSound_39 : decode cX6_areChallengesSound 39 = .ok (.getfield 68, 3) := by decide +kernel
theorem dX6_areChallengesSound_42 : decode cX6_areChallengesSound 42 = .ok (.if_icmp .ge 38, 3) := by decide +kernel
theorem dX6_areChallengesSound_80 : decode cX6_areChallengesSound 80 = .ok (.iload_n 1, 1) := by decide +kernel
theorem dX6_areChallengesSound_81 : decode cX6_areChallengesSound 81 = .ok (.aload_n 0, 1) := by decide +kernel
theorem dX6_areChallengesSound_82 : decode cX6_areChallengesSound 82 = .ok (.getfield 68, 3) := by decide +kernel
theorem dX6_areChallengesSound_85 : decode cX6_areChallengesSound 85 = .ok (.if_icmp .ne 7, 3) := by decide +kernel
theorem dX6_areChallengesSound_88 : decode cX6_areChallengesSound 88 = .ok (.iconst 1, 1) := by decide +kernel
theorem dX6_areChallengesSound_89 : decode cX6_areChallengesSound 89 = .ok (.goto 4, 3) := by decide +kernel
theorem dX6_areChallengesSound_93 : decode cX6_areChallengesSound 93 = .ok (.ireturn, 1) := by decide +kernel
theorem dX7_in_0 : decode cX7_in 0 = .ok (.iload_n 0, 1) := by decide +kernel
theorem dX7_in_1 : decode cX7_in 1 = .ok (.iload_n 1, 1) := by decide +kernel
theorem dX7_in_2 : decode cX7_in 2 = .ok (.if_icmp .lt 12, 3) := by decide +kernel
theorem dX7_in_5 : decode cX7_in 5 = .ok (.iload_n 0, 1) := by decide +kernel
theorem dX7_in_6 : decode cX7_in 6 = .ok (.iload_n 2, 1) := by decide +kernel
theorem dX7_in_7 : decode cX7_in 7 = .ok (.if_icmp .gt 7, 3) := by decide +kernel
theorem dX7_in_10 : decode cX7_in 10 = .ok (.iconst 1, 1) := by decide +kernel
theorem dX7_in_11 : decode cX7_in 11 = .ok (.goto 4, 3) := by decide +kernel
theorem dX7_in_14 : decode cX7_in 14 = .ok (.iconst 0, 1) := by decide +kernel
theorem dX7_in_15 : decode cX7_in 15 = .ok (.ireturn, 1) := by decide +kernel
theorem dX7_fails_0 : decode cX7_fails 0 = .ok (.aload_n 0, 1) := by decide +kernel
theorem dX7_fails_1 : decode cX7_fails 1 = .ok (.iload_n 1, 1) := by decide +kernel
theorem dX7_fails_2 : decode cX7_fails 2 = .ok (.putfield 37, 3) := by decide +kernel
theorem dX7_fails_5 : decode cX7_fails 5 = .ok (.iconst 0, 1) := by decide +kernel
theorem dX7_fails_6 : decode cX7_fails 6 = .ok (.ireturn, 1) := by decide +kernel
theorem dX7_tells_0 : decode cX7_tells 0 = .ok (.aload_n 0, 1) := by decide +kernel
theorem dX7_tells_1 : decode cX7_tells 1 = .ok (.iconst 0, 1) := by decide +kernel
theorem dX7_tells_2 : decode cX7_tells 2 = .ok (.putfield 37, 3) := by decide +kernel
theorem dX7_tells_5 : decode cX7_tells 5 = .ok (.iload_n 1, 1) := by decide +kernel
theorem dX7_tells_6 : decode cX7_tells 6 = .ok (.ireturn, 1) := by decide +kernel
theorem dX7_wipe_0 : decode cX7_wipe 0 = .ok (.aload_n 0, 1) := by decide +kernel
theorem dX7_wipe_1 : decode cX7_wipe 1 = .ok (.getfield 7, 3) := by decide +kernel
theorem dX7_wipe_4 : decode cX7_wipe 4 = .ok (.istore_n 1, 1) := by decide +kernel
theorem dX7_wipe_5 : decode cX7_wipe 5 = .ok (.aload_n 0, 1) := by decide +kernel
theorem dX7_wipe_6 : decode cX7_wipe 6 = .ok (.iconst 0, 1) := by decide +kernel
theorem dX7_wipe_7 : decode cX7_wipe 7 = .ok (.putfield 7, 3) := by decide +kernel
theorem dX7_wipe_10 : decode cX7_wipe 10 = .ok (.aload_n 0, 1) := by decide +kernel
theorem dX7_wipe_11 : decode cX7_wipe 11 = .ok (.getfield 48, 3) := by decide +kernel
theorem dX7_wipe_14 : decode cX7_wipe 14 = .ok (.bipush 40, 2) := by decide +kernel
theorem dX7_wipe_16 : decode cX7_wipe 16 = .ok (.iconst 0, 1) := by decide +kernel
theorem dX7_wipe_17 : decode cX7_wipe 17 = .ok (.iastore, 1) := by decide +kernel
theorem dX7_wipe_18 : decode cX7_wipe 18 = .ok (.aload_n 0, 1) := by decide +kernel
theorem dX7_wipe_19 : decode cX7_wipe 19 = .ok (.iload_n 1, 1) := by decide +kernel
theorem dX7_wipe_20 : decode cX7_wipe 20 = .ok (.invokevirtual 169, 3) := by decide +kernel
theorem dX7_wipe_23 : decode cX7_wipe 23 = .ok (.ireturn, 1) := by decide +kernel
theorem dX7_number_0 : decode cX7_number 0 = .ok (.iload_n 1, 1) := by decide +kernel
theorem dX7_number_1 : decode cX7_number 1 = .ok (.sipush (-999), 3) := by decide +kernel
theorem dX7_number_4 : decode cX7_number 4 = .ok (.sipush 999, 3) := by decide +kernel
theorem dX7_number_7 : decode cX7_number 7 = .ok (.invokestatic 161, 3) := by decide +kernel
theorem dX7_number_10 : decode cX7_number 10 = .ok (.ifCond .ne 9, 3) := by decide +kernel
theorem dX7_number_13 : decode cX7_number 13 = .ok (.aload_n 0, 1) := by decide +kernel
theorem dX7_number_14 : decode cX7_number 14 = .ok (.iconst 1, 1) := by decide +kernel
theorem dX7_number_15 : decode cX7_number 15 = .ok (.invokevirtual 165, 3) := by decide +kernel
theorem dX7_number_18 : decode cX7_number 18 = .ok (.ireturn, 1) := by decide +kernel
theorem dX7_number_19 : decode cX7_number 19 = .ok (.iload_n 2, 1) := by decide +kernel
theorem dX7_number_20 : decode cX7_number 20 = .ok (.ifCond .eq 15, 3) := by decide +kernel
theorem dX7_number_23 : decode cX7_number 23 = .ok (.aload_n 0, 1) := by decide +kernel
theorem dX7_number_24 : decode cX7_number 24 = .ok (.getfield 16, 3) := by decide +kernel
theorem dX7_number_27 : decode cX7_number 27 = .ok (.bipush 6, 2) := by decide +kernel
theorem dX7_number_29 : decode cX7_number 29 = .ok (.if_icmp .ne 20, 3) := by decide +kernel
theorem dX7_number_35 : decode cX7_number 35 = .ok (.aload_n 0, 1) := by decide +kernel
theorem dX7_number_36 : decode cX7_number 36 = .ok (.getfield 13, 3) := by decide +kernel
theorem dX7_number_39 : decode cX7_number 39 = .ok (.iconst 4, 1) := by decide +kernel
theorem dX7_number_40 : decode cX7_number 40 = .ok (.if_icmp .ne 9, 3) := by decide +kernel
theorem dX7_number_49 : decode cX7_number 49 = .ok (.iload_n 2, 1) := by decide +kernel
theorem dX7_number_50 : decode cX7_number 50 = .ok (.ifCond .eq 32, 3) := by decide +kernel
theorem dX7_number_53 : decode cX7_number 53 = .ok (.aload_n 0, 1) := by decide +kernel
theorem dX7_number_54 : decode cX7_number 54 = .ok (.getfield 54, 3) := by decide +kernel
theorem dX7_number_57 : decode cX7_number 57 = .ok (.aload_n 0, 1) := by decide +kernel
theorem dX7_number_58 : decode cX7_number 58 = .ok (.getfield 16, 3) := by decide +kernel
theorem dX7_number_61 : decode cX7_number 61 = .ok (.iload_n 1, 1) := by decide +kernel
theorem dX7_number_62 : decode cX7_number 62 = .ok (.iastore, 1) := by decide +kernel
theorem dX7_number_63 : decode cX7_number 63 = .ok (.aload_n 0, 1) := by decide +kernel
theorem dX7_number_64 : decode cX7_number 64 = .ok (.dup, 1) := by decide +kernel
theorem dX7_number_65 : decode cX7_number 65 = .ok (.getfield 16, 3) := by decide +kernel
theorem dX7_number_68 : decode cX7_number 68 = .ok (.iconst 1, 1) := by decide +kernel
theorem dX7_number_69 : decode cX7_number 69 = .ok (.iadd, 1) := by decide +kernel
theorem dX7_number_70 : decode cX7_number 70 = .ok (.putfield 16, 3) := by decide +kernel
theorem dX7_number_73 : decode cX7_number 73 = .ok (.aload_n 0, 1) := by decide +kernel
theorem dX7_number_74 : decode cX7_number 74 = .ok (.aload_n 0, 1) := by decide +kernel
theorem dX7_number_75 : decode cX7_number 75 = .ok (.getfield 16, 3) := by decide +kernel
theorem dX7_number_78 : decode cX7_number 78 = .ok (.invokevirtual 169, 3) := by decide +kernel
theorem dX7_number_81 : decode cX7_number 81 = .ok (.ireturn, 1) := by decide +kernel
theorem dX7_number_82 : decode cX7_number 82 = .ok (.aload_n 0, 1) := by decide +kernel
theorem dX7_number_83 : decode cX7_number 83 = .ok (.getfield 51, 3) := by decide +kernel
theorem dX7_number_86 : decode cX7_number 86 = .ok (.aload_n 0, 1) := by decide +kernel
theorem dX7_number_87 : decode cX7_number 87 = .ok (.getfield 13, 3) := by decide +kernel
theorem dX7_number_90 : decode cX7_number 90 = .ok (.iload_n 1, 1) := by decide +kernel
theorem dX7_number_91 : decode cX7_number 91 = .ok (.iastore, 1) := by decide +kernel
theorem dX7_number_92 : decode cX7_number 92 = .ok (.aload_n 0, 1) := by decide +kernel
theorem dX7_number_93 : decode cX7_number 93 = .ok (.dup, 1) := by decide +kernel
theorem dX7_number_94 : decode cX7_number 94 = .ok (.getfield 13, 3) := by decide +kernel
theorem dX7_number_97 : decode cX7_number 97 = .ok (.iconst 1, 1) := by decide +kernel
theorem dX7_number_98 : decode cX7_number 98 = .ok (.iadd, 1) := by decide +kernel
theorem dX7_number_99 : decode cX7_number 99 = .ok (.putfield 13, 3) := by decide +kernel
theorem dX7_number_102 : decode cX7_number 102 = .ok (.aload_n 0, 1) := by decide +kernel
theorem dX7_number_103 : decode cX7_number 103 = .ok (.aload_n 0, 1) := by decide +kernel
theorem dX7_number_104 : decode cX7_number 104 = .ok (.getfield 13, 3) := by decide +kernel
theorem dX7_number_107 : decode cX7_number 107 = .ok (.invokevirtual 169, 3) := by decide +kernel
theorem dX7_number_110 : decode cX7_number 110 = .ok (.ireturn, 1) := by decide +kernel
theorem dX7_clears_0 : decode cX7_clears 0 = .ok (.aload_n 0, 1) := by decide +kernel
theorem dX7_clears_1 : decode cX7_clears 1 = .ok (.getfield 13, 3) := by decide +kernel
theorem dX7_clears_4 : decode cX7_clears 4 = .ok (.aload_n 0, 1) := by decide +kernel
theorem dX7_clears_5 : decode cX7_clears 5 = .ok (.getfield 16, 3) := by decide +kernel
theorem dX7_clears_8 : decode cX7_clears 8 = .ok (.iadd, 1) := by decide +kernel
theorem dX7_clears_9 : decode cX7_clears 9 = .ok (.istore_n 1, 1) := by decide +kernel
theorem dX7_clears_10 : decode cX7_clears 10 = .ok (.aload_n 0, 1) := by decide +kernel
theorem dX7_clears_11 : decode cX7_clears 11 = .ok (.iconst 0, 1) := by decide +kernel
theorem dX7_clears_12 : decode cX7_clears 12 = .ok (.putfield 13, 3) := by decide +kernel
theorem dX7_clears_15 : decode cX7_clears 15 = .ok (.aload_n 0, 1) := by decide +kernel
theorem dX7_clears_16 : decode cX7_clears 16 = .ok (.iconst 0, 1) := by decide +kernel
theorem dX7_clears_17 : decode cX7_clears 17 = .ok (.putfield 16, 3) := by decide +kernel
theorem dX7_clears_20 : decode cX7_clears 20 = .ok (.iload_n 1, 1) := by decide +kernel
theorem dX7_clears_21 : decode cX7_clears 21 = .ok (.ireturn, 1) := by decide +kernel
theorem dX7_clear_0 : decode cX7_clear 0 = .ok (.aload_n 0, 1) := by decide +kernel
theorem dX7_clear_1 : decode cX7_clear 1 = .ok (.aload_n 0, 1) := by decide +kernel
theorem dX7_clear_2 : decode cX7_clear 2 = .ok (.invokevirtual 172, 3) := by decide +kernel
theorem dX7_clear_5 : decode cX7_clear 5 = .ok (.invokevirtual 169, 3) := by decide +kernel
theorem dX7_clear_8 : decode cX7_clear 8 = .ok (.ireturn, 1) := by decide +kernel
theorem dX7_isKata_0 : decode cX7_isKata 0 = .ok (.iload_n 1, 1) := by decide +kernel
theorem dX7_isKata_1 : decode cX7_isKata 1 = .ok (.iconst 0, 1) := by decide +kernel
theorem dX7_isKata_2 : decode cX7_isKata 2 = .ok (.aload_n 0, 1) := by decide +kernel
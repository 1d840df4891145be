theorem dX7_clears_11 : decode cX7_clears 11 = .ok (.iconst 0, 1) := by decide +kernel
theorem dX7_clears_12 : decode cX7_clears 12 = .ok (.putfield 13, 3) := by decide +kernel
theorem dX7_clears_15 : decode cX7_clears 15 = .ok (.aload_n 0, 1) := by decide +kernel
theorem dX7_clears_16 : decode cX7_clears 16 = .ok (.iconst 0, 1) := by decide +kernel
theorem dX7_clears_17 : decode cX7_clears 17 = .ok (.putfield 16, 3) := by decide +kernel
theorem dX7_clears_20 : decode cX7_clears 20 = .ok (.iload_n 1, 1) := by decide +kernel
theorem dX7_clears_21 : decode cX7_clears 21 = .ok (.ireturn, 1) := by decide +kernel
theorem dX7_clear_0 : decode cX7_clear 0 = .ok (.aload_n 0, 1) := by decide +kernel
theorem dX7_clear_1 : decode cX7_clear 1 = .ok (.aload_n 0, 1) := by decide +kernel
theorem dX7_clear_2 : decode cX7_clear 2 = .ok (.invokevirtual 172, 3) := by decide +kernel
theorem dX7_clear_5 : decode cX7_clear 5 = .ok (.invokevirtual 169, 3) := by decide +kernel
theorem dX7_clear_8 : decode cX7_clear 8 = .ok (.ireturn, 1) := by decide +kernel
theorem dX7_isKata_0 : decode cX7_isKata 0 = .ok (.iload_n 1, 1) := by decide +kernel
theorem dX7_isKata_1 : decode cX7_isKata 1 = .ok (.iconst 0, 1) := by decide +kernel
theorem dX7_isKata_2 : decode cX7_isKata 2 = .ok (.aload_n 0, 1) := by decide +kernel
theorem dX7_isKata_3 : decode cX7_isKata 3 = .ok (.getfield 19, 3) := by decide +kernel
theorem dX7_isKata_6 : decode cX7_isKata 6 = .ok (.iconst 1, 1) := by decide +kernel
theorem dX7_isKata_7 : decode cX7_isKata 7 = .ok (.isub, 1) := by decide +kernel
theorem dX7_isKata_8 : decode cX7_isKata 8 = .ok (.invokestatic 161, 3) := by decide +kernel
theorem dX7_isKata_11 : decode cX7_isKata 11 = .ok (.ireturn, 1) := by decide +kernel
theorem dX7_isTest_0 : decode cX7_isTest 0 = .ok (.aload_n 0, 1) := by decide +kernel
theorem dX7_isTest_1 : decode cX7_isTest 1 = .ok (.iload_n 1, 1) := by decide +kernel
theorem dX7_isTest_2 : decode cX7_isTest 2 = .ok (.invokevirtual 192, 3) := by decide +kernel
theorem dX7_isTest_5 : decode cX7_isTest 5 = .ok (.ifCond .eq 23, 3) := by decide +kernel
theorem dX7_isTest_28 : decode cX7_isTest 28 = .ok (.iconst 0, 1) := by decide +kernel
theorem dX7_isTest_29 : decode cX7_isTest 29 = .ok (.ireturn, 1) := by decide +kernel
theorem dX7_kata_0 : decode cX7_kata 0 = .ok (.iload_n 1, 1) := by decide +kernel
theorem dX7_kata_1 : decode cX7_kata 1 = .ok (.iconst 1, 1) := by decide +kernel
theorem dX7_kata_2 : decode cX7_kata 2 = .ok (.iconst 5, 1) := by decide +kernel
theorem dX7_kata_3 : decode cX7_kata 3 = .ok (.invokestatic 161, 3) := by decide +kernel
theorem dX7_kata_6 : decode cX7_kata 6 = .ok (.ifCond .ne 9, 3) := by decide +kernel
theorem dX7_kata_9 : decode cX7_kata 9 = .ok (.aload_n 0, 1) := by decide +kernel
theorem dX7_kata_10 : decode cX7_kata 10 = .ok (.iconst 1, 1) := by decide +kernel
theorem dX7_kata_11 : decode cX7_kata 11 = .ok (.invokevirtual 165, 3) := by decide +kernel
theorem dX7_kata_14 : decode cX7_kata 14 = .ok (.ireturn, 1) := by decide +kernel
theorem dX7_kata_15 : decode cX7_kata 15 = .ok (.aload_n 0, 1) := by decide +kernel
theorem dX7_kata_16 : decode cX7_kata 16 = .ok (.getfield 19, 3) := by decide +kernel
theorem dX7_kata_19 : decode cX7_kata 19 = .ok (.bipush 8, 2) := by decide +kernel
theorem dX7_kata_21 : decode cX7_kata 21 = .ok (.if_icmp .ne 9, 3) := by decide +kernel
theorem dX7_kata_30 : decode cX7_kata 30 = .ok (.aload_n 0, 1) := by decide +kernel
theorem dX7_kata_31 : decode cX7_kata 31 = .ok (.getfield 57, 3) := by decide +kernel
theorem dX7_kata_34 : decode cX7_kata 34 = .ok (.aload_n 0, 1) := by decide +kernel
theorem dX7_kata_35 : decode cX7_kata 35 = .ok (.getfield 19, 3) := by decide +kernel
theorem dX7_kata_38 : decode cX7_kata 38 = .ok (.iload_n 1, 1) := by decide +kernel
theorem dX7_kata_39 : decode cX7_kata 39 = .ok (.iastore, 1) := by decide +kernel
theorem dX7_kata_40 : decode cX7_kata 40 = .ok (.aload_n 0, 1) := by decide +kernel
theorem dX7_kata_41 : decode cX7_kata 41 = .ok (.dup, 1) := by decide +kernel
theorem dX7_kata_42 : decode cX7_kata 42 = .ok (.getfield 19, 3) := by decide +kernel
theorem dX7_kata_45 : decode cX7_kata 45 = .ok (.iconst 1, 1) := by decide +kernel
theorem dX7_kata_46 : decode cX7_kata 46 = .ok (.iadd, 1) := by decide +kernel
theorem dX7_kata_47 : decode cX7_kata 47 = .ok (.putfield 19, 3) := by decide +kernel
theorem dX7_kata_50 : decode cX7_kata 50 = .ok (.aload_n 0, 1) := by decide +kernel
theorem dX7_kata_51 : decode cX7_kata 51 = .ok (.aload_n 0, 1) := by decide +kernel
theorem dX7_kata_52 : decode cX7_kata 52 = .ok (.getfield 19, 3) := by decide +kernel
theorem dX7_kata_55 : decode cX7_kata 55 = .ok (.iconst 1, 1) := by decide +kernel
theorem dX7_kata_56 : decode cX7_kata 56 = .ok (.isub, 1) := by decide +kernel
theorem dX7_kata_57 : decode cX7_kata 57 = .ok (.invokevirtual 169, 3) := by decide +kernel
theorem dX7_kata_60 : decode cX7_kata 60 = .ok (.ireturn, 1) := by decide +kernel
theorem dX7_test_0 : decode cX7_test 0 = .ok (.aload_n 0, 1) := by decide +kernel
theorem dX7_test_1 : decode cX7_test 1 = .ok (.iload_n 1, 1) := by decide +kernel
theorem dX7_test_2 : decode cX7_test 2 = .ok (.invokevirtual 192, 3) := by decide +kernel
theorem dX7_test_5 : decode cX7_test 5 = .ok (.ifCond .ne 9, 3) := by decide +kernel
theorem dX7_test_8 : decode cX7_test 8 = .ok (.aload_n 0, 1) := by decide +kernel
theorem dX7_test_9 : decode cX7_test 9 = .ok (.iconst 1, 1) := by decide +kernel
theorem dX7_test_10 : decode cX7_test 10 = .ok (.invokevirtual 165, 3) := by decide +kernel
theorem dX7_test_13 : decode cX7_test 13 = .ok (.ireturn, 1) := by decide +kernel
theorem dX7_fix_0 : decode cX7_fix 0 = .ok (.aload_n 0, 1) := by decide +kernel
theorem dX7_fix_1 : decode cX7_fix 1 = .ok (.iload_n 1, 1) := by decide +kernel
theorem dX7_fix_2 : decode cX7_fix 2 = .ok (.iload_n 2, 1) := by decide +kernel
theorem dX7_fix_3 : decode cX7_fix 3 = .ok (.invokevirtual 208, 3) := by decide +kernel
theorem dX7_fix_6 : decode cX7_fix 6 = .ok (.ifCond .eq 16, 3) := by decide +kernel
theorem dX7_fix_22 : decode cX7_fix 22 = .ok (.aload_n 0, 1) := by decide +kernel
theorem dX7_fix_23 : decode cX7_fix 23 = .ok (.iconst 1, 1) := by decide +kernel
theorem dX7_fix_24 : decode cX7_fix 24 = .ok (.invokevirtual 165, 3) := by decide +kernel
theorem dX7_fix_27 : decode cX7_fix 27 = .ok (.ireturn, 1) := by decide +kernel
theorem dX7_tests_0 : decode cX7_tests 0 = .ok (.aload_n 0, 1) := by decide +kernel
theorem dX7_tests_1 : decode cX7_tests 1 = .ok (.iload_n 1, 1) := by decide +kernel
theorem dX7_tests_2 : decode cX7_tests 2 = .ok (.invokevirtual 192, 3) := by decide +kernel
theorem dX7_tests_5 : decode cX7_tests 5 = .ok (.ifCond .eq 16, 3) := by decide +kernel
theorem dX7_tests_21 : decode cX7_tests 21 = .ok (.aload_n 0, 1) := by decide +kernel
theorem dX7_tests_22 : decode cX7_tests 22 = .ok (.iconst 1, 1) := by decide +kernel
theorem dX7_tests_23 : decode cX7_tests 23 = .ok (.invokevirtual 165, 3) := by decide +kernel
theorem dX7_tests_26 : decode cX7_tests 26 = .ok (.ireturn, 1) := by decide +kernel
theorem dX7_run_0 : decode cX7_run 0 = .ok (.aload_n 0, 1) := by decide +kernel
theorem dX7_run_1 : decode cX7_run 1 = .ok (.aload_n 0, 1) := by decide +kernel
theorem dX7_run_2 : decode cX7_run 2 = .ok (.iload_n 1, 1) := by decide +kernel
theorem dX7_run_3 : decode cX7_run 3 = .ok (.iload_n 2, 1) := by decide +kernel
theorem dX7_run_4 : decode cX7_run 4 = .ok (.invokevirtual 208, 3) := by decide +kernel
theorem dX7_run_7 : decode cX7_run 7 = .ok (.ifCond .ne 7, 3) := by decide +kernel
theorem dX7_run_10 : decode cX7_run 10 = .ok (.iconst 1, 1) := by decide +kernel
theorem dX7_run_11 : decode cX7_run 11 = .ok (.goto 17, 3) := by decide +kernel
theorem dX7_run_28 : decode cX7_run 28 = .ok (.putfield 37, 3) := by decide +kernel
theorem dX7_run_31 : decode cX7_run 31 = .ok (.aload_n 0, 1) := by decide +kernel
theorem dX7_run_32 : decode cX7_run 32 = .ok (.getfield 37, 3) := by decide +kernel
theorem dX7_run_35 : decode cX7_run 35 = .ok (.ifCond .le 5, 3) := by decide +kernel
theorem dX7_run_38 : decode cX7_run 38 = .ok (.iconst 0, 1) := by decide +kernel
theorem dX7_run_39 : decode cX7_run 39 = .ok (.ireturn, 1) := by decide +kernel
theorem dX7_done_0 : decode cX7_done 0 = .ok (.aload_n 0, 1) := by decide +kernel
theorem dX7_done_1 : decode cX7_done 1 = .ok (.getfield 137, 3) := by decide +kernel
theorem dX7_done_4 : decode cX7_done 4 = .ok (.ifCond .eq 14, 3) := by decide +kernel
theorem dX7_done_18 : decode cX7_done 18 = .ok (.aload_n 0, 1) := by decide +kernel
theorem dX7_done_19 : decode cX7_done 19 = .ok (.iconst 1, 1) := by decide +kernel
theorem dX7_done_20 : decode cX7_done 20 = .ok (.invokevirtual 165, 3) := by decide +kernel
theorem dX7_done_23 : decode cX7_done 23 = .ok (.ireturn, 1) := by decide +kernel
theorem dX7_outputs_0 : decode cX7_outputs 0 = .ok (.aload_n 0, 1) := by decide +kernel
theorem dX7_outputs_1 : decode cX7_outputs 1 = .ok (.getfield 137, 3) := by decide +kernel
theorem dX7_outputs_4 : decode cX7_outputs 4 = .ok (.ifCond .eq 14, 3) := by decide +kernel
theorem dX7_outputs_18 : decode cX7_outputs 18 = .ok (.aload_n 0, 1) := by decide +kernel
theorem dX7_outputs_19 : decode cX7_outputs 19 = .ok (.iconst 1, 1) := by decide +kernel
theorem dX7_outputs_20 : decode cX7_outputs 20 = .ok (.invokevirtual 165, 3) := by decide +kernel
theorem dX7_outputs_23 : decode cX7_outputs 23 = .ok (.ireturn, 1) := by decide +kernel
theorem dX7_output_0 : decode cX7_output 0 = .ok (.aload_n 0, 1) := by decide +kernel
theorem dX7_output_1 : decode cX7_output 1 = .ok (.getfield 137, 3) := by decide +kernel
theorem dX7_output_4 : decode cX7_output 4 = .ok (.ifCond .eq 30, 3) := by decide +kernel
theorem dX7_output_34 : decode cX7_output 34 = .ok (.aload_n 0, 1) := by decide +kernel
theorem dX7_output_35 : decode cX7_output 35 = .ok (.iconst 1, 1) := by decide +kernel
theorem dX7_output_36 : decode cX7_output 36 = .ok (.invokevirtual 165, 3) := by decide +kernel
theorem dX7_output_39 : decode cX7_output 39 = .ok (.ireturn, 1) := by decide +kernel
theorem dX7_depth_0 : decode cX7_depth 0 = .ok (.aload_n 0, 1) := by decide +kernel
theorem dX7_depth_1 : decode cX7_depth 1 = .ok (.getfield 137, 3) := by decide +kernel
theorem dX7_depth_4 : decode cX7_depth 4 = .ok (.ifCond .eq 14, 3) := by decide +kernel
theorem dX7_depth_18 : decode cX7_depth 18 = .ok (.aload_n 0, 1) := by decide +kernel
theorem dX7_depth_19 : decode cX7_depth 19 = .ok (.iconst 1, 1) := by decide +kernel
theorem dX7_depth_20 : decode cX7_depth 20 = .ok (.invokevirtual 165, 3) := by decide +kernel
theorem dX7_depth_23 : decode cX7_depth 23 = .ok (.ireturn, 1) := by decide +kernel
theorem dX7_isMember_0 : decode cX7_isMember 0 = .ok (.iload_n 1, 1) := by decide +kernel
theorem dX7_isMember_1 : decode cX7_isMember 1 = .ok (.iconst 0, 1) := by decide +kernel
theorem dX7_isMember_2 : decode cX7_isMember 2 = .ok (.aload_n 0, 1) := by decide +kernel
theorem dX7_isMember_3 : decode cX7_isMember 3 = .ok (.getfield 22, 3) := by decide +kernel
theorem dX7_isMember_6 : decode cX7_isMember 6 = .ok (.iconst 1, 1) := by decide +kernel
theorem dX7_isMember_7 : decode cX7_isMember 7 = .ok (.isub, 1) := by decide +kernel
theorem dX7_isMember_8 : decode cX7_isMember 8 = .ok (.invokestatic 161, 3) := by decide +kernel
theorem dX7_isMember_11 : decode cX7_isMember 11 = .ok (.ireturn, 1) := by decide +kernel
theorem dX7_isWork_0 : decode cX7_isWork 0 = .ok (.iload_n 1, 1) := by decide +kernel
theorem dX7_isWork_1 : decode cX7_isWork 1 = .ok (.iconst 0, 1) := by decide +kernel
theorem dX7_isWork_2 : decode cX7_isWork 2 = .ok (.aload_n 0, 1) := by decide +kernel
theorem dX7_isWork_3 : decode cX7_isWork 3 = .ok (.getfield 25, 3) := by decide +kernel
theorem dX7_isWork_6 : decode cX7_isWork 6 = .ok (.iconst 1, 1) := by decide +kernel
theorem dX7_isWork_7 : decode cX7_isWork 7 = .ok (.isub, 1) := by decide +kernel
theorem dX7_isWork_8 : decode cX7_isWork 8 = .ok (.invokestatic 161, 3) := by decide +kernel
theorem dX7_isWork_11 : decode cX7_isWork 11 = .ok (.ireturn, 1) := by decide +kernel
theorem dX7_member_0 : decode cX7_member 0 = .ok (.aload_n 0, 1) := by decide +kernel
theorem dX7_member_1 : decode cX7_member 1 = .ok (.getfield 22, 3) := by decide +kernel
theorem dX7_member_4 : decode cX7_member 4 = .ok (.bipush 10, 2) := by decide +kernel
theorem dX7_member_6 : decode cX7_member 6 = .ok (.if_icmp .ne 9, 3) := by decide +kernel
theorem dX7_member_15 : decode cX7_member 15 = .ok (.aload_n 0, 1) := by decide +kernel
theorem dX7_member_16 : decode cX7_member 16 = .ok (.getfield 116, 3) := by decide +kernel
theorem dX7_member_19 : decode cX7_member 19 = .ok (.aload_n 0, 1) := by decide +kernel
theorem dX7_member_20 : decode cX7_member 20 = .ok (.getfield 22, 3) := by decide +kernel
theorem dX7_member_23 : decode cX7_member 23 = .ok (.bipush 10, 2) := by decide +kernel
theorem dX7_member_25 : decode cX7_member 25 = .ok (.iastore, 1) := by decide +kernel
theorem dX7_member_26 : decode cX7_member 26 = .ok (.aload_n 0, 1) := by decide +kernel
theorem dX7_member_27 : decode cX7_member 27 = .ok (.dup, 1) := by decide +kernel
theorem dX7_member_28 : decode cX7_member 28 = .ok (.getfield 22, 3) := by decide +kernel
theorem dX7_member_31 : decode cX7_member 31 = .ok (.iconst 1, 1) := by decide +kernel
theorem dX7_member_32 : decode cX7_member 32 = .ok (.iadd, 1) := by decide +kernel
theorem dX7_member_33 : decode cX7_member 33 = .ok (.putfield 22, 3) := by decide +kernel
theorem dX7_member_36 : decode cX7_member 36 = .ok (.aload_n 0, 1) := by decide +kernel
theorem dX7_member_37 : decode cX7_member 37 = .ok (.aload_n 0, 1) := by decide +kernel
theorem dX7_member_38 : decode cX7_member 38 = .ok (.getfield 22, 3) := by decide +kernel
theorem dX7_member_41 : decode cX7_member 41 = .ok (.iconst 1, 1) := by decide +kernel
theorem dX7_member_42 : decode cX7_member 42 = .ok (.isub, 1) := by decide +kernel
theorem dX7_member_43 : decode cX7_member 43 = .ok (.invokevirtual 169, 3) := by decide +kernel
theorem dX7_member_46 : decode cX7_member 46 = .ok (.ireturn, 1) := by decide +kernel
theorem dX7_submit_0 : decode cX7_submit 0 = .ok (.aload_n 0, 1) := by decide +kernel
theorem dX7_submit_1 : decode cX7_submit 1 = .ok (.iload_n 1, 1) := by decide +kernel
theorem dX7_submit_2 : decode cX7_submit 2 = .ok (.invokevirtual 214, 3) := by decide +kernel
theorem dX7_submit_5 : decode cX7_submit 5 = .ok (.ifCond .eq 11, 3) := by decide +kernel
theorem dX7_submit_16 : decode cX7_submit 16 = .ok (.aload_n 0, 1) := by decide +kernel
theorem dX7_submit_17 : decode cX7_submit 17 = .ok (.iconst 1, 1) := by decide +kernel
theorem dX7_submit_18 : decode cX7_submit 18 = .ok (.invokevirtual 165, 3) := by decide +kernel
theorem dX7_submit_21 : decode cX7_submit 21 = .ok (.ireturn, 1) := by decide +kernel
theorem dX7_works_0 : decode cX7_works 0 = .ok (.aload_n 0, 1) := by decide +kernel
theorem dX7_works_1 : decode cX7_works 1 = .ok (.aload_n 0, 1) := by decide +kernel
theorem dX7_works_2 : decode cX7_works 2 = .ok (.getfield 25, 3) := by decide +kernel
theorem dX7_works_5 : decode cX7_works 5 = .ok (.invokevirtual 169, 3) := by decide +kernel
theorem dX7_works_8 : decode cX7_works 8 = .ok (.ireturn, 1) := by decide +kernel
theorem dX7_of_0 : decode cX7_of 0 = .ok (.aload_n 0, 1) := by decide +kernel
theorem dX7_of_1 : decode cX7_of 1 = .ok (.iload_n 1, 1) := by decide +kernel
theorem dX7_of_2 : decode cX7_of 2 = .ok (.invokevirtual 227, 3) := by decide +kernel
theorem dX7_of_5 : decode cX7_of 5 = .ok (.ifCond .ne 9, 3) := by decide +kernel
theorem dX7_of_8 : decode cX7_of 8 = .ok (.aload_n 0, 1) := by decide +kernel
theorem dX7_of_9 : decode cX7_of 9 = .ok (.iconst 1, 1) := by decide +kernel
theorem dX7_of_10 : decode cX7_of 10 = .ok (.invokevirtual 165, 3) := by decide +kernel
theorem dX7_of_13 : decode cX7_of 13 = .ok (.ireturn, 1) := by decide +kernel
theorem dX7_state_0 : decode cX7_state 0 = .ok (.aload_n 0, 1) := by decide +kernel
theorem dX7_state_1 : decode cX7_state 1 = .ok (.aload_n 0, 1) := by decide +kernel
theorem dX7_state_2 : decode cX7_state 2 = .ok (.iload_n 1, 1) := by decide +kernel
theorem dX7_state_3 : decode cX7_state 3 = .ok (.invokevirtual 227, 3) := by decide +kernel
theorem dX7_state_6 : decode cX7_state 6 = .ok (.ifCond .eq 7, 3) := by decide +kernel
theorem dX7_state_13 : decode cX7_state 13 = .ok (.iconst 1, 1) := by decide +kernel
theorem dX7_state_14 : decode cX7_state 14 = .ok (.putfield 37, 3) := by decide +kernel
theorem dX7_state_17 : decode cX7_state 17 = .ok (.aload_n 0, 1) := by decide +kernel
theorem dX7_state_18 : decode cX7_state 18 = .ok (.getfield 37, 3) := by decide +kernel
theorem dX7_state_21 : decode cX7_state 21 = .ok (.ifCond .le 7, 3) := by decide +kernel
theorem dX7_state_24 : decode cX7_state 24 = .ok (.iconst 0, 1) := by decide +kernel
theorem dX7_state_25 : decode cX7_state 25 = .ok (.goto 9, 3) := by decide +kernel
theorem dX7_state_34 : decode cX7_state 34 = .ok (.ireturn, 1) := by decide +kernel
theorem dX7_sum_0 : decode cX7_sum 0 = .ok (.aload_n 0, 1) := by decide +kernel
theorem dX7_sum_1 : decode cX7_sum 1 = .ok (.aload_n 0, 1) := by decide +kernel
theorem dX7_sum_2 : decode cX7_sum 2 = .ok (.iload_n 1, 1) := by decide +kernel
theorem dX7_sum_3 : decode cX7_sum 3 = .ok (.invokevirtual 227, 3) := by decide +kernel
theorem dX7_sum_6 : decode cX7_sum 6 = .ok (.ifCond .eq 7, 3) := by decide +kernel
theorem dX7_sum_13 : decode cX7_sum 13 = .ok (.iconst 1, 1) := by decide +kernel
theorem dX7_sum_14 : decode cX7_sum 14 = .ok (.putfield 37, 3) := by decide +kernel
theorem dX7_sum_17 : decode cX7_sum 17 = .ok (.aload_n 0, 1) := by decide +kernel
theorem dX7_sum_18 : decode cX7_sum 18 = .ok (.getfield 37, 3) := by decide +kernel
theorem dX7_sum_21 : decode cX7_sum 21 = .ok (.ifCond .le 7, 3) := by decide +kernel
theorem dX7_sum_24 : decode cX7_sum 24 = .ok (.lconst 0, 1) := by decide +kernel
theorem dX7_sum_25 : decode cX7_sum 25 = .ok (.goto 9, 3) := by decide +kernel
theorem dX7_sum_34 : decode cX7_sum 34 = .ok (.lreturn, 1) := by decide +kernel
theorem dX7_steps_0 : decode cX7_steps 0 = .ok (.aload_n 0, 1) := by decide +kernel
theorem dX7_steps_1 : decode cX7_steps 1 = .ok (.iload_n 1, 1) := by decide +kernel
theorem dX7_steps_2 : decode cX7_steps 2 = .ok (.invokevirtual 227, 3) := by decide +kernel
theorem dX7_steps_5 : decode cX7_steps 5 = .ok (.ifCond .eq 17, 3) := by decide +kernel
theorem dX7_steps_22 : decode cX7_steps 22 = .ok (.aload_n 0, 1) := by decide +kernel
theorem dX7_steps_23 : decode cX7_steps 23 = .ok (.iconst 1, 1) := by decide +kernel
theorem dX7_steps_24 : decode cX7_steps 24 = .ok (.invokevirtual 165, 3) := by decide +kernel
theorem dX7_steps_27 : decode cX7_steps 27 = .ok (.ireturn, 1) := by decide +kernel
theorem dX7_hasBody_0 : decode cX7_hasBody 0 = .ok (.aload_n 0, 1) := by decide +kernel
theorem dX7_hasBody_1 : decode cX7_hasBody 1 = .ok (.aload_n 0, 1) := by decide +kernel
theorem dX7_hasBody_2 : decode cX7_hasBody 2 = .ok (.iload_n 1, 1) := by decide +kernel
theorem dX7_hasBody_3 : decode cX7_hasBody 3 = .ok (.invokevirtual 227, 3) := by decide +kernel
theorem dX7_hasBody_6 : decode cX7_hasBody 6 = .ok (.ifCond .eq 7, 3) := by decide +kernel
theorem dX7_hasBody_13 : decode cX7_hasBody 13 = .ok (.iconst 1, 1) := by decide +kernel
theorem dX7_hasBody_14 : decode cX7_hasBody 14 = .ok (.putfield 37, 3) := by decide +kernel
theorem dX7_hasBody_17 : decode cX7_hasBody 17 = .ok (.aload_n 0, 1) := by decide +kernel
theorem dX7_hasBody_18 : decode cX7_hasBody 18 = .ok (.getfield 37, 3) := by decide +kernel
theorem dX7_hasBody_21 : decode cX7_hasBody 21 = .ok (.ifCond .ne 16, 3) := by decide +kernel
theorem dX7_hasBody_37 : decode cX7_hasBody 37 = .ok (.iconst 0, 1) := by decide +kernel
theorem dX7_hasBody_38 : decode cX7_hasBody 38 = .ok (.ireturn, 1) := by decide +kernel
theorem dX7_letter_0 : decode cX7_letter 0 = .ok (.aload_n 0, 1) := by decide +kernel
theorem dX7_letter_1 : decode cX7_letter 1 = .ok (.aload_n 0, 1) := by decide +kernel
theorem dX7_letter_2 : decode cX7_letter 2 = .ok (.iload_n 1, 1) := by decide +kernel
theorem dX7_letter_3 : decode cX7_letter 3 = .ok (.invokevirtual 227, 3) := by decide +kernel
theorem dX7_letter_6 : decode cX7_letter 6 = .ok (.ifCond .ne 7, 3) := by decide +kernel
theorem dX7_letter_9 : decode cX7_letter 9 = .ok (.iconst 1, 1) := by decide +kernel
theorem dX7_letter_10 : decode cX7_letter 10 = .ok (.goto 33, 3) := by decide +kernel
theorem dX7_letter_43 : decode cX7_letter 43 = .ok (.putfield 37, 3) := by decide +kernel
theorem dX7_letter_46 : decode cX7_letter 46 = .ok (.aload_n 0, 1) := by decide +kernel
theorem dX7_letter_47 : decode cX7_letter 47 = .ok (.getfield 37, 3) := by decide +kernel
theorem dX7_letter_50 : decode cX7_letter 50 = .ok (.ifCond .le 7, 3) := by decide +kernel
theorem dX7_letter_53 : decode cX7_letter 53 = .ok (.iconst 0, 1) := by decide +kernel
theorem dX7_letter_54 : decode cX7_letter 54 = .ok (.goto 14, 3) := by decide +kernel
theorem dX7_letter_68 : decode cX7_letter 68 = .ok (.ireturn, 1) := by decide +kernel
theorem dX7_bodyCount_0 : decode cX7_bodyCount 0 = .ok (.iconst 0, 1) := by decide +kernel
theorem dX7_bodyCount_1 : decode cX7_bodyCount 1 = .ok (.istore_n 1, 1) := by decide +kernel
theorem dX7_bodyCount_2 : decode cX7_bodyCount 2 = .ok (.iconst 0, 1) := by decide +kernel
theorem dX7_bodyCount_3 : decode cX7_bodyCount 3 = .ok (.istore_n 2, 1) := by decide +kernel
theorem dX7_bodyCount_4 : decode cX7_bodyCount 4 = .ok (.iload_n 2, 1) := by decide +kernel
theorem dX7_bodyCount_5 : decode cX7_bodyCount 5 = .ok (.aload_n 0, 1) := by decide +kernel
theorem dX7_bodyCount_6 : decode cX7_bodyCount 6 = .ok (.getfield 25, 3) := by decide +kernel
theorem dX7_bodyCount_9 : decode cX7_bodyCount 9 = .ok (.if_icmp .ge 26, 3) := by decide +kernel
theorem dX7_bodyCount_35 : decode cX7_bodyCount 35 = .ok (.iload_n 1, 1) := by decide +kernel
theorem dX7_bodyCount_36 : decode cX7_bodyCount 36 = .ok (.ireturn, 1) := by decide +kernel
theorem dX7_makesRoom_0 : decode cX7_makesRoom 0 = .ok (.iconst 0, 1) := by decide +kernel
theorem dX7_makesRoom_1 : decode cX7_makesRoom 1 = .ok (.istore_n 1, 1) := by decide +kernel
theorem dX7_makesRoom_2 : decode cX7_makesRoom 2 = .ok (.aload_n 0, 1) := by decide +kernel
theorem dX7_makesRoom_3 : decode cX7_makesRoom 3 = .ok (.invokevirtual 243, 3) := by decide +kernel
theorem dX7_makesRoom_6 : decode cX7_makesRoom 6 = .ok (.aload_n 0, 1) := by decide +kernel
theorem dX7_makesRoom_7 : decode cX7_makesRoom 7 = .ok (.getfield 28, 3) := by decide +kernel
theorem dX7_makesRoom_10 : decode cX7_makesRoom 10 = .ok (.if_icmp .le 61, 3) := by decide +kernel
theorem dX7_makesRoom_71 : decode cX7_makesRoom 71 = .ok (.iload_n 1, 1) := by decide +kernel
theorem dX7_makesRoom_72 : decode cX7_makesRoom 72 = .ok (.ireturn, 1) := by decide +kernel
theorem dX7_drop_0 : decode cX7_drop 0 = .ok (.aload_n 0, 1) := by decide +kernel
theorem dX7_drop_1 : decode cX7_drop 1 = .ok (.iload_n 1, 1) := by decide +kernel
theorem dX7_drop_2 : decode cX7_drop 2 = .ok (.invokevirtual 227, 3) := by decide +kernel
theorem dX7_drop_5 : decode cX7_drop 5 = .ok (.ifCond .ne 9, 3) := by decide +kernel
theorem dX7_drop_8 : decode cX7_drop 8 = .ok (.aload_n 0, 1) := by decide +kernel
theorem dX7_drop_9 : decode cX7_drop 9 = .ok (.iconst 1, 1) := by decide +kernel
theorem dX7_drop_10 : decode cX7_drop 10 = .ok (.invokevirtual 165, 3) := by decide +kernel
theorem dX7_drop_13 : decode cX7_drop 13 = .ok (.ireturn, 1) := by decide +kernel
theorem dX7_capacity_0 : decode cX7_capacity 0 = .ok (.iload_n 1, 1) := by decide +kernel
theorem dX7_capacity_1 : decode cX7_capacity 1 = .ok (.iconst 1, 1) := by decide +kernel
theorem dX7_capacity_2 : decode cX7_capacity 2 = .ok (.bipush 40, 2) := by decide +kernel
theorem dX7_capacity_4 : decode cX7_capacity 4 = .ok (.invokestatic 161, 3) := by decide +kernel
theorem dX7_capacity_7 : decode cX7_capacity 7 = .ok (.ifCond .ne 9, 3) := by decide +kernel
theorem dX7_capacity_10 : decode cX7_capacity 10 = .ok (.aload_n 0, 1) := by decide +kernel
theorem dX7_capacity_11 : decode cX7_capacity 11 = .ok (.iconst 1, 1) := by decide +kernel
theorem dX7_capacity_12 : decode cX7_capacity 12 = .ok (.invokevirtual 165, 3) := by decide +kernel
theorem dX7_capacity_15 : decode cX7_capacity 15 = .ok (.ireturn, 1) := by decide +kernel
theorem dX7_capacity_16 : decode cX7_capacity 16 = .ok (.aload_n 0, 1) := by decide +kernel
theorem dX7_capacity_17 : decode cX7_capacity 17 = .ok (.iload_n 1, 1) := by decide +kernel
theorem dX7_capacity_18 : decode cX7_capacity 18 = .ok (.putfield 28, 3) := by decide +kernel
theorem dX7_capacity_21 : decode cX7_capacity 21 = .ok (.aload_n 0, 1) := by decide +kernel
theorem dX7_capacity_22 : decode cX7_capacity 22 = .ok (.aload_n 0, 1) := by decide +kernel
theorem dX7_capacity_23 : decode cX7_capacity 23 = .ok (.invokevirtual 224, 3) := by decide +kernel
theorem dX7_capacity_26 : decode cX7_capacity 26 = .ok (.invokevirtual 169, 3) := by decide +kernel
theorem dX7_capacity_29 : decode cX7_capacity 29 = .ok (.ireturn, 1) := by decide +kernel
theorem dX7_bodies_0 : decode cX7_bodies 0 = .ok (.aload_n 0, 1) := by decide +kernel
theorem dX7_bodies_1 : decode cX7_bodies 1 = .ok (.aload_n 0, 1) := by decide +kernel
theorem dX7_bodies_2 : decode cX7_bodies 2 = .ok (.invokevirtual 243, 3) := by decide +kernel
theorem dX7_bodies_5 : decode cX7_bodies 5 = .ok (.invokevirtual 169, 3) := by decide +kernel
theorem dX7_bodies_8 : decode cX7_bodies 8 = .ok (.ireturn, 1) := by decide +kernel
theorem dX7_read_0 : decode cX7_read 0 = .ok (.aload_n 0, 1) := by decide +kernel
theorem dX7_read_1 : decode cX7_read 1 = .ok (.iload_n 1, 1) := by decide +kernel
theorem dX7_read_2 : decode cX7_read 2 = .ok (.invokevirtual 214, 3) := by decide +kernel
theorem dX7_read_5 : decode cX7_read 5 = .ok (.ifCond .eq 11, 3) := by decide +kernel
theorem dX7_read_16 : decode cX7_read 16 = .ok (.aload_n 0, 1) := by decide +kernel
theorem dX7_read_17 : decode cX7_read 17 = .ok (.iconst 1, 1) := by decide +kernel
theorem dX7_read_18 : decode cX7_read 18 = .ok (.invokevirtual 165, 3) := by decide +kernel
theorem dX7_read_21 : decode cX7_read 21 = .ok (.ireturn, 1) := by decide +kernel
theorem dX7_copy_0 : decode cX7_copy 0 = .ok (.aload_n 0, 1) := by decide +kernel
theorem dX7_copy_1 : decode cX7_copy 1 = .ok (.iload_n 1, 1) := by decide +kernel
theorem dX7_copy_2 : decode cX7_copy 2 = .ok (.invokevirtual 214, 3) := by decide +kernel
theorem dX7_copy_5 : decode cX7_copy 5 = .ok (.ifCond .ne 9, 3) := by decide +kernel
theorem dX7_copy_8 : decode cX7_copy 8 = .ok (.aload_n 0, 1) := by decide +kernel
theorem dX7_copy_9 : decode cX7_copy 9 = .ok (.iconst 1, 1) := by decide +kernel
theorem dX7_copy_10 : decode cX7_copy 10 = .ok (.invokevirtual 165, 3) := by decide +kernel
theorem dX7_copy_13 : decode cX7_copy 13 = .ok (.ireturn, 1) := by decide +kernel
theorem dX7_vote_0 : decode cX7_vote 0 = .ok (.aload_n 0, 1) := by decide +kernel
theorem dX7_vote_1 : decode cX7_vote 1 = .ok (.iload_n 1, 1) := by decide +kernel
theorem dX7_vote_2 : decode cX7_vote 2 = .ok (.invokevirtual 214, 3) := by decide +kernel
theorem dX7_vote_5 : decode cX7_vote 5 = .ok (.ifCond .eq 11, 3) := by decide +kernel
theorem dX7_vote_16 : decode cX7_vote 16 = .ok (.aload_n 0, 1) := by decide +kernel
theorem dX7_vote_17 : decode cX7_vote 17 = .ok (.iconst 1, 1) := by decide +kernel
theorem dX7_vote_18 : decode cX7_vote 18 = .ok (.invokevirtual 165, 3) := by decide +kernel
theorem dX7_vote_21 : decode cX7_vote 21 = .ok (.ireturn, 1) := by decide +kernel
theorem dX7_style_0 : decode cX7_style 0 = .ok (.aload_n 0, 1) := by decide +kernel
theorem dX7_style_1 : decode cX7_style 1 = .ok (.aload_n 0, 1) := by decide +kernel
theorem dX7_style_2 : decode cX7_style 2 = .ok (.iload_n 1, 1) := by decide +kernel
theorem dX7_style_3 : decode cX7_style 3 = .ok (.invokevirtual 227, 3) := by decide +kernel
theorem dX7_style_6 : decode cX7_style 6 = .ok (.ifCond .eq 7, 3) := by decide +kernel
theorem dX7_style_13 : decode cX7_style 13 = .ok (.iconst 1, 1) := by decide +kernel
theorem dX7_style_14 : decode cX7_style 14 = .ok (.putfield 37, 3) := by decide +kernel
theorem dX7_style_17 : decode cX7_style 17 = .ok (.aload_n 0, 1) := by decide +kernel
theorem dX7_style_18 : decode cX7_style 18 = .ok (.getfield 37, 3) := by decide +kernel
theorem dX7_style_21 : decode cX7_style 21 = .ok (.ifCond .le 5, 3) := by decide +kernel
theorem dX7_style_24 : decode cX7_style 24 = .ok (.lconst 0, 1) := by decide +kernel
theorem dX7_style_25 : decode cX7_style 25 = .ok (.lreturn, 1) := by decide +kernel
theorem dX7_review_0 : decode cX7_review 0 = .ok (.aload_n 0, 1) := by decide +kernel
theorem dX7_review_1 : decode cX7_review 1 = .ok (.iload_n 1, 1) := by decide +kernel
theorem dX7_review_2 : decode cX7_review 2 = .ok (.invokevirtual 214, 3) := by decide +kernel
theorem dX7_review_5 : decode cX7_review 5 = .ok (.ifCond .ne 9, 3) := by decide +kernel
theorem dX7_review_8 : decode cX7_review 8 = .ok (.aload_n 0, 1) := by decide +kernel
theorem dX7_review_9 : decode cX7_review 9 = .ok (.iconst 1, 1) := by decide +kernel
theorem dX7_review_10 : decode cX7_review 10 = .ok (.invokevirtual 165, 3) := by decide +kernel
theorem dX7_review_13 : decode cX7_review 13 = .ok (.ireturn, 1) := by decide +kernel
theorem dX7_best_0 : decode cX7_best 0 = .ok (.aload_n 0, 1) := by decide +kernel
theorem dX7_best_1 : decode cX7_best 1 = .ok (.iload_n 1, 1) := by decide +kernel
theorem dX7_best_2 : decode cX7_best 2 = .ok (.invokevirtual 214, 3) := by decide +kernel
theorem dX7_best_5 : decode cX7_best 5 = .ok (.ifCond .eq 11, 3) := by decide +kernel
theorem dX7_best_16 : decode cX7_best 16 = .ok (.aload_n 0, 1) := by decide +kernel
theorem dX7_best_17 : decode cX7_best 17 = .ok (.iconst 1, 1) := by decide +kernel
theorem dX7_best_18 : decode cX7_best 18 = .ok (.invokevirtual 165, 3) := by decide +kernel
theorem dX7_best_21 : decode cX7_best 21 = .ok (.ireturn, 1) := by decide +kernel
theorem dX7_points_0 : decode cX7_points 0 = .ok (.aload_n 0, 1) := by decide +kernel
theorem dX7_points_1 : decode cX7_points 1 = .ok (.aload_n 0, 1) := by decide +kernel
theorem dX7_points_2 : decode cX7_points 2 = .ok (.iload_n 1, 1) := by decide +kernel
theorem dX7_points_3 : decode cX7_points 3 = .ok (.invokevirtual 214, 3) := by decide +kernel
theorem dX7_points_6 : decode cX7_points 6 = .ok (.ifCond .eq 7, 3) := by decide +kernel
theorem dX7_points_13 : decode cX7_points 13 = .ok (.iconst 1, 1) := by decide +kernel
theorem dX7_points_14 : decode cX7_points 14 = .ok (.putfield 37, 3) := by decide +kernel
theorem dX7_points_17 : decode cX7_points 17 = .ok (.aload_n 0, 1) := by decide +kernel
theorem dX7_points_18 : decode cX7_points 18 = .ok (.getfield 37, 3) := by decide +kernel
theorem dX7_points_21 : decode cX7_points 21 = .ok (.ifCond .le 7, 3) := by decide +kernel
theorem dX7_points_24 : decode cX7_points 24 = .ok (.fconst 0, 1) := by decide +kernel
theorem dX7_points_25 : decode cX7_points 25 = .ok (.goto 8, 3) := by decide +kernel
theorem dX7_points_33 : decode cX7_points 33 = .ok (.freturn, 1) := by decide +kernel
theorem dX7_belt_0 : decode cX7_belt 0 = .ok (.aload_n 0, 1) := by decide +kernel
theorem dX7_belt_1 : decode cX7_belt 1 = .ok (.iload_n 1, 1) := by decide +kernel
theorem dX7_belt_2 : decode cX7_belt 2 = .ok (.invokevirtual 214, 3) := by decide +kernel
theorem dX7_belt_5 : decode cX7_belt 5 = .ok (.ifCond .eq 15, 3) := by decide +kernel
theorem dX7_belt_20 : decode cX7_belt 20 = .ok (.aload_n 0, 1) := by decide +kernel
theorem dX7_belt_21 : decode cX7_belt 21 = .ok (.iconst 1, 1) := by decide +kernel
theorem dX7_belt_22 : decode cX7_belt 22 = .ok (.invokevirtual 165, 3) := by decide +kernel
theorem dX7_belt_25 : decode cX7_belt 25 = .ok (.ireturn, 1) := by decide +kernel
theorem dX7_honour_0 : decode cX7_honour 0 = .ok (.aload_n 0, 1) := by decide +kernel
theorem dX7_honour_1 : decode cX7_honour 1 = .ok (.iload_n 1, 1) := by decide +kernel
theorem dX7_honour_2 : decode cX7_honour 2 = .ok (.invokevirtual 214, 3) := by decide +kernel
theorem dX7_honour_5 : decode cX7_honour 5 = .ok (.ifCond .eq 16, 3) := by decide +kernel
theorem dX7_honour_21 : decode cX7_honour 21 = .ok (.aload_n 0, 1) := by decide +kernel
theorem dX7_honour_22 : decode cX7_honour 22 = .ok (.iconst 1, 1) := by decide +kernel
theorem dX7_honour_23 : decode cX7_honour 23 = .ok (.invokevirtual 165, 3) := by decide +kernel
theorem dX7_honour_26 : decode cX7_honour 26 = .ok (.ireturn, 1) := by decide +kernel
theorem dX7_ranked_0 : decode cX7_ranked 0 = .ok (.iconst 0, 1) := by decide +kernel
theorem dX7_ranked_1 : decode cX7_ranked 1 = .ok (.istore_n 2, 1) := by decide +kernel
theorem dX7_ranked_2 : decode cX7_ranked 2 = .ok (.iload_n 2, 1) := by decide +kernel
theorem dX7_ranked_3 : decode cX7_ranked 3 = .ok (.aload_n 0, 1) := by decide +kernel
theorem dX7_ranked_4 : decode cX7_ranked 4 = .ok (.getfield 22, 3) := by decide +kernel
theorem dX7_ranked_7 : decode cX7_ranked 7 = .ok (.if_icmp .ge 64, 3) := by decide +kernel
theorem dX7_ranked_71 : decode cX7_ranked 71 = .ok (.aload_n 0, 1) := by decide +kernel
theorem dX7_ranked_72 : decode cX7_ranked 72 = .ok (.iconst 1, 1) := by decide +kernel
theorem dX7_ranked_73 : decode cX7_ranked 73 = .ok (.invokevirtual 165, 3) := by decide +kernel
theorem dX7_ranked_76 : decode cX7_ranked 76 = .ok (.ireturn, 1) := by decide +kernel
theorem dX7_challenge_0 : decode cX7_challenge 0 = .ok (.aload_n 0, 1) := by decide +kernel
theorem dX7_challenge_1 : decode cX7_challenge 1 = .ok (.iload_n 1, 1) := by decide +kernel
theorem dX7_challenge_2 : decode cX7_challenge 2 = .ok (.invokevirtual 214, 3) := by decide +kernel
theorem dX7_challenge_5 : decode cX7_challenge 5 = .ok (.ifCond .eq 11, 3) := by decide +kernel
theorem dX7_challenge_16 : decode cX7_challenge 16 = .ok (.aload_n 0, 1) := by decide +kernel
theorem dX7_challenge_17 : decode cX7_challenge 17 = .ok (.iconst 1, 1) := by decide +kernel
theorem dX7_challenge_18 : decode cX7_challenge 18 = .ok (.invokevirtual 165, 3) := by decide +kernel
theorem dX7_challenge_21 : decode cX7_challenge 21 = .ok (.ireturn, 1) := by decide +kernel
theorem dX7_give_0 : decode cX7_give 0 = .ok (.aload_n 0, 1) := by decide +kernel
theorem dX7_give_1 : decode cX7_give 1 = .ok (.aload_n 0, 1) := by decide +kernel
theorem dX7_give_2 : decode cX7_give 2 = .ok (.iload_n 1, 1) := by decide +kernel
theorem dX7_give_3 : decode cX7_give 3 = .ok (.invokevirtual 214, 3) := by decide +kernel
theorem dX7_give_6 : decode cX7_give 6 = .ok (.ifCond .eq 11, 3) := by decide +kernel
theorem dX7_give_17 : decode cX7_give 17 = .ok (.iconst 1, 1) := by decide +kernel
theorem dX7_give_18 : decode cX7_give 18 = .ok (.goto 32, 3) := by decide +kernel
theorem dX7_give_50 : decode cX7_give 50 = .ok (.putfield 37, 3) := by decide +kernel
theorem dX7_give_53 : decode cX7_give 53 = .ok (.aload_n 0, 1) := by decide +kernel
theorem dX7_give_54 : decode cX7_give 54 = .ok (.getfield 37, 3) := by decide +kernel
theorem dX7_give_57 : decode cX7_give 57 = .ok (.ifCond .le 7, 3) := by decide +kernel
theorem dX7_give_60 : decode cX7_give 60 = .ok (.iconst 0, 1) := by decide +kernel
theorem dX7_give_61 : decode cX7_give 61 = .ok (.goto 9, 3) := by decide +kernel
theorem dX7_give_70 : decode cX7_give 70 = .ok (.ireturn, 1) := by decide +kernel
theorem dX7_answer_0 : decode cX7_answer 0 = .ok (.aload_n 0, 1) := by decide +kernel
theorem dX7_answer_1 : decode cX7_answer 1 = .ok (.aload_n 0, 1) := by decide +kernel
theorem dX7_answer_2 : decode cX7_answer 2 = .ok (.iload_n 1, 1) := by decide +kernel
theorem dX7_answer_3 : decode cX7_answer 3 = .ok (.invokevirtual 214, 3) := by decide +kernel
theorem dX7_answer_6 : decode cX7_answer 6 = .ok (.ifCond .eq 11, 3) := by decide +kernel
theorem dX7_answer_17 : decode cX7_answer 17 = .ok (.iconst 1, 1) := by decide +kernel
theorem dX7_answer_18 : decode cX7_answer 18 = .ok (.goto 28, 3) := by decide +kernel
theorem dX7_answer_46 : decode cX7_answer 46 = .ok (.putfield 37, 3) := by decide +kernel
theorem dX7_answer_49 : decode cX7_answer 49 = .ok (.aload_n 0, 1) := by decide +kernel
theorem dX7_answer_50 : decode cX7_answer 50 = .ok (.getfield 37, 3) := by decide +kernel
theorem dX7_answer_53 : decode cX7_answer 53 = .ok (.ifCond .le 5, 3) := by decide +kernel
theorem dX7_answer_56 : decode cX7_answer 56 = .ok (.iconst 0, 1) := by decide +kernel
theorem dX7_answer_57 : decode cX7_answer 57 = .ok (.ireturn, 1) := by decide +kernel
theorem dX7_open_0 : decode cX7_open 0 = .ok (.iconst 0, 1) := by decide +kernel
theorem dX7_open_1 : decode cX7_open 1 = .ok (.istore_n 2, 1) := by decide +kernel
theorem dX7_open_2 : decode cX7_open 2 = .ok (.iload_n 2, 1) := by decide +kernel
theorem dX7_open_3 : decode cX7_open 3 = .ok (.aload_n 0, 1) := by decide +kernel
theorem dX7_open_4 : decode cX7_open 4 = .ok (.getfield 25, 3) := by decide +kernel
theorem dX7_open_7 : decode cX7_open 7 = .ok (.if_icmp .ge 131, 3) := by decide +kernel
theorem dX7_open_138 : decode cX7_open 138 = .ok (.aload_n 0, 1) := by decide +kernel
theorem dX7_open_139 : decode cX7_open 139 = .ok (.iconst 1, 1) := by decide +kernel
theorem dX7_open_140 : decode cX7_open 140 = .ok (.invokevirtual 165, 3) := by decide +kernel
theorem dX7_open_143 : decode cX7_open 143 = .ok (.ireturn, 1) := by decide +kernel
theorem dX7_left_0 : decode cX7_left 0 = .ok (.aload_n 0, 1) := by decide +kernel
theorem dX7_left_1 : decode cX7_left 1 = .ok (.iload_n 1, 1) := by decide +kernel
theorem dX7_left_2 : decode cX7_left 2 = .ok (.invokevirtual 227, 3) := by decide +kernel
theorem dX7_left_5 : decode cX7_left 5 = .ok (.ifCond .ne 9, 3) := by decide +kernel
theorem dX7_left_8 : decode cX7_left 8 = .ok (.aload_n 0, 1) := by decide +kernel
theorem dX7_left_9 : decode cX7_left 9 = .ok (.iconst 1, 1) := by decide +kernel
theorem dX7_left_10 : decode cX7_left 10 = .ok (.invokevirtual 165, 3) := by decide +kernel
theorem dX7_left_13 : decode cX7_left 13 = .ok (.ireturn, 1) := by decide +kernel
theorem dX7_days_0 : decode cX7_days 0 = .ok (.iload_n 1, 1) := by decide +kernel
theorem dX7_days_1 : decode cX7_days 1 = .ok (.iconst 1, 1) := by decide +kernel
theorem dX7_days_2 : decode cX7_days 2 = .ok (.bipush 30, 2) := by decide +kernel
theorem dX7_days_4 : decode cX7_days 4 = .ok (.invokestatic 161, 3) := by decide +kernel
theorem dX7_days_7 : decode cX7_days 7 = .ok (.ifCond .ne 9, 3) := by decide +kernel
theorem dX7_days_10 : decode cX7_days 10 = .ok (.aload_n 0, 1) := by decide +kernel
theorem dX7_days_11 : decode cX7_days 11 = .ok (.iconst 1, 1) := by decide +kernel
theorem dX7_days_12 : decode cX7_days 12 = .ok (.invokevirtual 165, 3) := by decide +kernel
theorem dX7_days_15 : decode cX7_days 15 = .ok (.ireturn, 1) := by decide +kernel
theorem dX7_days_16 : decode cX7_days 16 = .ok (.iconst 0, 1) := by decide +kernel
theorem dX7_days_17 : decode cX7_days 17 = .ok (.istore_n 2, 1) := by decide +kernel
theorem dX7_days_18 : decode cX7_days 18 = .ok (.iconst 0, 1) := by decide +kernel
theorem dX7_days_19 : decode cX7_days 19 = .ok (.istore_n 3, 1) := by decide +kernel
theorem dX7_days_20 : decode cX7_days 20 = .ok (.iload_n 3, 1) := by decide +kernel
theorem dX7_days_21 : decode cX7_days 21 = .ok (.aload_n 0, 1) := by decide +kernel
theorem dX7_days_22 : decode cX7_days 22 = .ok (.getfield 25, 3) := by decide +kernel
theorem dX7_days_25 : decode cX7_days 25 = .ok (.if_icmp .ge 65, 3) := by decide +kernel
theorem dX7_days_90 : decode cX7_days 90 = .ok (.aload_n 0, 1) := by decide +kernel
theorem dX7_days_91 : decode cX7_days 91 = .ok (.iload_n 2, 1) := by decide +kernel
theorem dX7_days_92 : decode cX7_days 92 = .ok (.invokevirtual 169, 3) := by decide +kernel
theorem dX7_days_95 : decode cX7_days 95 = .ok (.ireturn, 1) := by decide +kernel
theorem dX7_checksum_0 : decode cX7_checksum 0 = .ok (.aload_n 0, 1) := by decide +kernel
theorem dX7_checksum_1 : decode cX7_checksum 1 = .ok (.iconst 0, 1) := by decide +kernel
theorem dX7_checksum_2 : decode cX7_checksum 2 = .ok (.putfield 37, 3) := by decide +kernel
theorem dX7_checksum_5 : decode cX7_checksum 5 = .ok (.ldc2_w 293, 3) := by decide +kernel
theorem dX7_checksum_8 : decode cX7_checksum 8 = .ok (.lstore_n 1, 1) := by decide +kernel
theorem dX7_checksum_9 : decode cX7_checksum 9 = .ok (.iconst 0, 1) := by decide +kernel
theorem dX7_checksum_10 : decode cX7_checksum 10 = .ok (.istore_n 3, 1) := by decide +kernel
theorem dX7_checksum_11 : decode cX7_checksum 11 = .ok (.iload_n 3, 1) := by decide +kernel
theorem dX7_checksum_12 : decode cX7_checksum 12 = .ok (.aload_n 0, 1) := by decide +kernel
theorem dX7_checksum_13 : decode cX7_checksum 13 = .ok (.getfield 25, 3) := by decide +kernel
theorem dX7_checksum_16 : decode cX7_checksum 16 = .ok (.if_icmp .ge 34, 3) := by decide +kernel
theorem dX7_checksum_50 : decode cX7_checksum 50 = .ok (.iconst 0, 1) := by decide +kernel
theorem dX7_checksum_51 : decode cX7_checksum 51 = .ok (.istore_n 3, 1) := by decide +kernel
theorem dX7_checksum_52 : decode cX7_checksum 52 = .ok (.iload_n 3, 1) := by decide +kernel
theorem dX7_checksum_53 : decode cX7_checksum 53 = .ok (.aload_n 0, 1) := by decide +kernel
theorem dX7_checksum_54 : decode cX7_checksum 54 = .ok (.getfield 22, 3) := by decide +kernel
theorem dX7_checksum_57 : decode cX7_checksum 57 = .ok (.if_icmp .ge 23, 3) := by decide +kernel
theorem dX7_checksum_80 : decode cX7_checksum 80 = .ok (.lload_n 1, 1) := by decide +kernel
theorem dX7_checksum_81 : decode cX7_checksum 81 = .ok (.lreturn, 1) := by decide +kernel
theorem dX7_standingShare_0 : decode cX7_standingShare 0 = .ok (.aload_n 0, 1) := by decide +kernel
theorem dX7_standingShare_1 : decode cX7_standingShare 1 = .ok (.aload_n 0, 1) := by decide +kernel
theorem dX7_standingShare_2 : decode cX7_standingShare 2 = .ok (.getfield 25, 3) := by decide +kernel
theorem dX7_standingShare_5 : decode cX7_standingShare 5 = .ok (.ifCond .ne 7, 3) := by decide +kernel
theorem dX7_standingShare_8 : decode cX7_standingShare 8 = .ok (.iconst 1, 1) := by decide +kernel
theorem dX7_standingShare_9 : decode cX7_standingShare 9 = .ok (.goto 4, 3) := by decide +kernel
theorem dX7_standingShare_13 : decode cX7_standingShare 13 = .ok (.putfield 37, 3) := by decide +kernel
theorem dX7_standingShare_16 : decode cX7_standingShare 16 = .ok (.iconst 0, 1) := by decide +kernel
theorem dX7_standingShare_17 : decode cX7_standingShare 17 = .ok (.istore_n 1, 1) := by decide +kernel
theorem dX7_standingShare_18 : decode cX7_standingShare 18 = .ok (.iconst 0, 1) := by decide +kernel
theorem dX7_standingShare_19 : decode cX7_standingShare 19 = .ok (.istore_n 2, 1) := by decide +kernel
theorem dX7_standingShare_20 : decode cX7_standingShare 20 = .ok (.iload_n 2, 1) := by decide +kernel
theorem dX7_standingShare_21 : decode cX7_standingShare 21 = .ok (.aload_n 0, 1) := by decide +kernel
theorem dX7_standingShare_22 : decode cX7_standingShare 22 = .ok (.getfield 25, 3) := by decide +kernel
theorem dX7_standingShare_25 : decode cX7_standingShare 25 = .ok (.if_icmp .ge 25, 3) := by decide +kernel
theorem dX7_standingShare_50 : decode cX7_standingShare 50 = .ok (.aload_n 0, 1) := by decide +kernel
theorem dX7_standingShare_51 : decode cX7_standingShare 51 = .ok (.getfield 37, 3) := by decide +kernel
theorem dX7_standingShare_54 : decode cX7_standingShare 54 = .ok (.ifCond .le 7, 3) := by decide +kernel
theorem dX7_standingShare_57 : decode cX7_standingShare 57 = .ok (.fconst 0, 1) := by decide +kernel
theorem dX7_standingShare_58 : decode cX7_standingShare 58 = .ok (.goto 11, 3) := by decide +kernel
theorem dX7_standingShare_69 : decode cX7_standingShare 69 = .ok (.freturn, 1) := by decide +kernel
theorem dX7_meanSteps_0 : decode cX7_meanSteps 0 = .ok (.aload_n 0, 1) := by decide +kernel
theorem dX7_meanSteps_1 : decode cX7_meanSteps 1 = .ok (.aload_n 0, 1) := by decide +kernel
theorem dX7_meanSteps_2 : decode cX7_meanSteps 2 = .ok (.iload_n 1, 1) := by decide +kernel
theorem dX7_meanSteps_3 : decode cX7_meanSteps 3 = .ok (.invokevirtual 227, 3) := by decide +kernel
theorem dX7_meanSteps_6 : decode cX7_meanSteps 6 = .ok (.ifCond .eq 7, 3) := by decide +kernel
theorem dX7_meanSteps_13 : decode cX7_meanSteps 13 = .ok (.iconst 1, 1) := by decide +kernel
theorem dX7_meanSteps_14 : decode cX7_meanSteps 14 = .ok (.putfield 37, 3) := by decide +kernel
theorem dX7_meanSteps_17 : decode cX7_meanSteps 17 = .ok (.aload_n 0, 1) := by decide +kernel
theorem dX7_meanSteps_18 : decode cX7_meanSteps 18 = .ok (.getfield 37, 3) := by decide +kernel
theorem dX7_meanSteps_21 : decode cX7_meanSteps 21 = .ok (.ifCond .le 5, 3) := by decide +kernel
theorem dX7_meanSteps_24 : decode cX7_meanSteps 24 = .ok (.dconst 0, 1) := by decide +kernel
theorem dX7_meanSteps_25 : decode cX7_meanSteps 25 = .ok (.dreturn, 1) := by decide +kernel
theorem dX7_isSound_0 : decode cX7_isSound 0 = .ok (.aload_n 0, 1) := by decide +kernel
theorem dX7_isSound_1 : decode cX7_isSound 1 = .ok (.iconst 0, 1) := by decide +kernel
theorem dX7_isSound_2 : decode cX7_isSound 2 = .ok (.putfield 37, 3) := by decide +kernel
theorem dX7_isSound_5 : decode cX7_isSound 5 = .ok (.iconst 1, 1) := by decide +kernel
theorem dX7_isSound_6 : decode cX7_isSound 6 = .ok (.ireturn, 1) := by decide +kernel
theorem dJ0_length_8abf5_0 : decode cJ0_length_8abf5 0 = .ok (.aload_n 0, 1) := by decide +kernel
theorem dJ0_length_8abf5_1 : decode cJ0_length_8abf5 1 = .ok (.getfield 9, 3) := by decide +kernel
theorem dJ0_length_8abf5_4 : decode cJ0_length_8abf5 4 = .ok (.arraylength, 1) := by decide +kernel
theorem dJ0_length_8abf5_5 : decode cJ0_length_8abf5 5 = .ok (.aload_n 0, 1) := by decide +kernel
theorem dJ0_length_8abf5_6 : decode cJ0_length_8abf5 6 = .ok (.invokevirtual 335, 3) := by decide +kernel
theorem dJ0_length_8abf5_9 : decode cJ0_length_8abf5 9 = .ok (.ishr, 1) := by decide +kernel
theorem dJ0_length_8abf5_10 : decode cJ0_length_8abf5 10 = .ok (.ireturn, 1) := by decide +kernel
theorem dJ0_indexOf_0f7a4_0 : decode cJ0_indexOf_0f7a4 0 = .ok (.aload_n 0, 1) := by decide +kernel
theorem dJ0_indexOf_0f7a4_1 : decode cJ0_indexOf_0f7a4 1 = .ok (.iload_n 1, 1) := by decide +kernel
theorem dJ0_indexOf_0f7a4_2 : decode cJ0_indexOf_0f7a4 2 = .ok (.iconst 0, 1) := by decide +kernel
theorem dJ0_indexOf_0f7a4_3 : decode cJ0_indexOf_0f7a4 3 = .ok (.invokevirtual 633, 3) := by decide +kernel
theorem dJ0_indexOf_0f7a4_6 : decode cJ0_indexOf_0f7a4 6 = .ok (.ireturn, 1) := by decide +kernel
theorem dJ0_indexOf_7cf53_0 : decode cJ0_indexOf_7cf53 0 = .ok (.aload_n 0, 1) := by decide +kernel
theorem dJ0_indexOf_7cf53_1 : decode cJ0_indexOf_7cf53 1 = .ok (.invokevirtual 492, 3) := by decide +kernel
theorem dJ0_indexOf_7cf53_4 : decode cJ0_indexOf_7cf53 4 = .ok (.ifCond .eq 19, 3) := by decide +kernel
theorem dJ0_indexOf_7cf53_7 : decode cJ0_indexOf_7cf53 7 = .ok (.aload_n 0, 1) := by decide +kernel
theorem dJ0_indexOf_7cf53_8 : decode cJ0_indexOf_7cf53 8 = .ok (.getfield 9, 3) := by decide +kernel
theorem dJ0_indexOf_7cf53_11 : decode cJ0_indexOf_7cf53 11 = .ok (.iload_n 1, 1) := by decide +kernel
theorem dJ0_indexOf_7cf53_12 : decode cJ0_indexOf_7cf53 12 = .ok (.iload_n 2, 1) := by decide +kernel
theorem dJ0_indexOf_7cf53_13 : decode cJ0_indexOf_7cf53 13 = .ok (.aload_n 0, 1) := by decide +kernel
theorem dJ0_indexOf_7cf53_14 : decode cJ0_indexOf_7cf53 14 = .ok (.invokevirtual 505, 3) := by decide +kernel
theorem dJ0_indexOf_7cf53_17 : decode cJ0_indexOf_7cf53 17 = .ok (.invokestatic 637, 3) := by decide +kernel
theorem dJ0_indexOf_7cf53_20 : decode cJ0_indexOf_7cf53 20 = .ok (.goto 16, 3) := by decide +kernel
theorem dJ0_indexOf_7cf53_23 : decode cJ0_indexOf_7cf53 23 = .ok (.aload_n 0, 1) := by decide +kernel
theorem dJ0_indexOf_7cf53_24 : decode cJ0_indexOf_7cf53 24 = .ok (.getfield 9, 3) := by decide +kernel
theorem dJ0_indexOf_7cf53_27 : decode cJ0_indexOf_7cf53 27 = .ok (.iload_n 1, 1) := by decide +kernel
theorem dJ0_indexOf_7cf53_28 : decode cJ0_indexOf_7cf53 28 = .ok (.iload_n 2, 1) := by decide +kernel
theorem dJ0_indexOf_7cf53_29 : decode cJ0_indexOf_7cf53 29 = .ok (.aload_n 0, 1) := by decide +kernel
theorem dJ0_indexOf_7cf53_30 : decode cJ0_indexOf_7cf53 30 = .ok (.invokevirtual 505, 3) := by decide +kernel
theorem dJ0_indexOf_7cf53_33 : decode cJ0_indexOf_7cf53 33 = .ok (.invokestatic 640, 3) := by decide +kernel
theorem dJ0_indexOf_7cf53_36 : decode cJ0_indexOf_7cf53 36 = .ok (.ireturn, 1) := by decide +kernel
theorem dJ0_coder_7d493_0 : decode cJ0_coder_7d493 0 = .ok (.getstatic 38, 3) := by decide +kernel
theorem dJ0_coder_7d493_3 : decode cJ0_coder_7d493 3 = .ok (.ifCond .eq 10, 3) := by decide +kernel
theorem dJ0_coder_7d493_6 : decode cJ0_coder_7d493 6 = .ok (.aload_n 0, 1) := by decide +kernel
theorem dJ0_coder_7d493_7 : decode cJ0_coder_7d493 7 = .ok (.getfield 15, 3) := by decide +kernel
theorem dJ0_coder_7d493_10 : decode cJ0_coder_7d493 10 = .ok (.goto 4, 3) := by decide +kernel
theorem dJ0_coder_7d493_13 : decode cJ0_coder_7d493 13 = .ok (.iconst 1, 1) := by decide +kernel
theorem dJ0_coder_7d493_14 : decode cJ0_coder_7d493 14 = .ok (.ireturn, 1) := by decide +kernel
theorem dJ0_isLatin1_aae02_0 : decode cJ0_isLatin1_aae02 0 = .ok (.getstatic 38, 3) := by decide +kernel
theorem dJ0_isLatin1_aae02_3 : decode cJ0_isLatin1_aae02 3 = .ok (.ifCond .eq 14, 3) := by decide +kernel
theorem dJ0_isLatin1_aae02_6 : decode cJ0_isLatin1_aae02 6 = .ok (.aload_n 0, 1) := by decide +kernel
theorem dJ0_isLatin1_aae02_7 : decode cJ0_isLatin1_aae02 7 = .ok (.getfield 15, 3) := by decide +kernel
theorem dJ0_isLatin1_aae02_10 : decode cJ0_isLatin1_aae02 10 = .ok (.ifCond .ne 7, 3) := by decide +kernel
theorem dJ0_isLatin1_aae02_13 : decode cJ0_isLatin1_aae02 13 = .ok (.iconst 1, 1) := by decide +kernel
theorem dJ0_isLatin1_aae02_14 : decode cJ0_isLatin1_aae02 14 = .ok (.goto 4, 3) := by decide +kernel
theorem dJ0_isLatin1_aae02_17 : decode cJ0_isLatin1_aae02 17 = .ok (.iconst 0, 1) := by decide +kernel
theorem dJ0_isLatin1_aae02_18 : decode cJ0_isLatin1_aae02 18 = .ok (.ireturn, 1) := by decide +kernel
theorem dJ1_canEncode_9a6ad_0 : decode cJ1_canEncode_9a6ad 0 = .ok (.iload_n 0, 1) := by decide +kernel
theorem dJ1_canEncode_9a6ad_1 : decode cJ1_canEncode_9a6ad 1 = .ok (.ifCond .lt 14, 3) := by decide +kernel
theorem dJ1_canEncode_9a6ad_4 : decode cJ1_canEncode_9a6ad 4 = .ok (.iload_n 0, 1) := by decide +kernel
theorem dJ1_canEncode_9a6ad_5 : decode cJ1_canEncode_9a6ad 5 = .ok (.sipush 255, 3) := by decide +kernel
theorem dJ1_canEncode_9a6ad_8 : decode cJ1_canEncode_9a6ad 8 = .ok (.if_icmp .gt 7, 3) := by decide +kernel
theorem dJ1_canEncode_9a6ad_11 : decode cJ1_canEncode_9a6ad 11 = .ok (.iconst 1, 1) := by decide +kernel
theorem dJ1_canEncode_9a6ad_12 : decode cJ1_canEncode_9a6ad 12 = .ok (.goto 4, 3) := by decide +kernel
theorem dJ1_canEncode_9a6ad_15 : decode cJ1_canEncode_9a6ad 15 = .ok (.iconst 0, 1) := by decide +kernel
theorem dJ1_canEncode_9a6ad_16 : decode cJ1_canEncode_9a6ad 16 = .ok (.ireturn, 1) := by decide +kernel
theorem dJ1_indexOf_4cfef_0 : decode cJ1_indexOf_4cfef 0 = .ok (.iload_n 1, 1) := by decide +kernel
theorem dJ1_indexOf_4cfef_1 : decode cJ1_indexOf_4cfef 1 = .ok (.invokestatic 88, 3) := by decide +kernel
theorem dJ1_indexOf_4cfef_4 : decode cJ1_indexOf_4cfef 4 = .ok (.ifCond .ne 5, 3) := by decide +kernel
theorem dJ1_indexOf_4cfef_7 : decode cJ1_indexOf_4cfef 7 = .ok (.iconst (-1), 1) := by decide +kernel
theorem dJ1_indexOf_4cfef_8 : decode cJ1_indexOf_4cfef 8 = .ok (.ireturn, 1) := by decide +kernel
theorem dJ1_indexOf_4cfef_9 : decode cJ1_indexOf_4cfef 9 = .ok (.iload_n 2, 1) := by decide +kernel
theorem dJ1_indexOf_4cfef_10 : decode cJ1_indexOf_4cfef 10 = .ok (.iconst 0, 1) := by decide +kernel
theorem dJ1_indexOf_4cfef_11 : decode cJ1_indexOf_4cfef 11 = .ok (.invokestatic 92, 3) := by decide +kernel
theorem dJ1_indexOf_4cfef_14 : decode cJ1_indexOf_4cfef 14 = .ok (.istore_n 2, 1) := by decide +kernel
theorem dJ1_indexOf_4cfef_15 : decode cJ1_indexOf_4cfef 15 = .ok (.iload_n 3, 1) := by decide +kernel
theorem dJ1_indexOf_4cfef_16 : decode cJ1_indexOf_4cfef 16 = .ok (.aload_n 0, 1) := by decide +kernel
theorem dJ1_indexOf_4cfef_17 : decode cJ1_indexOf_4cfef 17 = .ok (.arraylength, 1) := by decide +kernel
theorem dJ1_indexOf_4cfef_18 : decode cJ1_indexOf_4cfef 18 = .ok (.invokestatic 38, 3) := by decide +kernel
theorem dJ1_indexOf_4cfef_21 : decode cJ1_indexOf_4cfef 21 = .ok (.istore_n 3, 1) := by decide +kernel
theorem dJ1_indexOf_4cfef_22 : decode cJ1_indexOf_4cfef 22 = .ok (.iload_n 2, 1) := by decide +kernel
theorem dJ1_indexOf_4cfef_23 : decode cJ1_indexOf_4cfef 23 = .ok (.iload_n 3, 1) := by decide +kernel
theorem dJ1_indexOf_4cfef_24 : decode cJ1_indexOf_4cfef 24 = .ok (.if_icmp .lt 5, 3) := by decide +kernel
theorem dJ1_indexOf_4cfef_27 : decode cJ1_indexOf_4cfef 27 = .ok (.iconst (-1), 1) := by decide +kernel
theorem dJ1_indexOf_4cfef_28 : decode cJ1_indexOf_4cfef 28 = .ok (.ireturn, 1) := by decide +kernel
theorem dJ1_indexOf_4cfef_29 : decode cJ1_indexOf_4cfef 29 = .ok (.aload_n 0, 1) := by decide +kernel
theorem dJ1_indexOf_4cfef_30 : decode cJ1_indexOf_4cfef 30 = .ok (.iload_n 1, 1) := by decide +kernel
theorem dJ1_indexOf_4cfef_31 : decode cJ1_indexOf_4cfef 31 = .ok (.iload_n 2, 1) := by decide +kernel
theorem dJ1_indexOf_4cfef_32 : decode cJ1_indexOf_4cfef 32 = .ok (.iload_n 3, 1) := by decide +kernel
theorem dJ1_indexOf_4cfef_33 : decode cJ1_indexOf_4cfef 33 = .ok (.invokestatic 95, 3) := by decide +kernel
theorem dJ1_indexOf_4cfef_36 : decode cJ1_indexOf_4cfef 36 = .ok (.ireturn, 1) := by decide +kernel
theorem dJ1_indexOfChar_4cfef_0 : decode cJ1_indexOfChar_4cfef 0 = .ok (.iload_n 1, 1) := by decide +kernel
theorem dJ1_indexOfChar_4cfef_1 : decode cJ1_indexOfChar_4cfef 1 = .ok (.i2b, 1) := by decide +kernel
theorem dJ1_indexOfChar_4cfef_2 : decode cJ1_indexOfChar_4cfef 2 = .ok (.istore 4, 2) := by decide +kernel
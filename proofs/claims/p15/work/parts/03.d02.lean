theorem dX6_number_72 : decode cX6_number 72 = .ok (.aload_n 0, 1) := by decide +kernel
theorem dX6_number_73 : decode cX6_number 73 = .ok (.getfield 19, 3) := by decide +kernel
theorem dX6_number_76 : decode cX6_number 76 = .ok (.iload_n 1, 1) := by decide +kernel
theorem dX6_number_77 : decode cX6_number 77 = .ok (.invokevirtual 131, 3) := by decide +kernel
theorem dX6_number_80 : decode cX6_number 80 = .ok (.ireturn, 1) := by decide +kernel
theorem dX6_clear_0 : decode cX6_clear 0 = .ok (.aload_n 0, 1) := by decide +kernel
theorem dX6_clear_1 : decode cX6_clear 1 = .ok (.getfield 19, 3) := by decide +kernel
theorem dX6_clear_4 : decode cX6_clear 4 = .ok (.getfield 123, 3) := by decide +kernel
theorem dX6_clear_7 : decode cX6_clear 7 = .ok (.aload_n 0, 1) := by decide +kernel
theorem dX6_clear_8 : decode cX6_clear 8 = .ok (.getfield 19, 3) := by decide +kernel
theorem dX6_clear_11 : decode cX6_clear 11 = .ok (.getfield 120, 3) := by decide +kernel
theorem dX6_clear_14 : decode cX6_clear 14 = .ok (.iadd, 1) := by decide +kernel
theorem dX6_clear_15 : decode cX6_clear 15 = .ok (.istore_n 1, 1) := by decide +kernel
theorem dX6_clear_16 : decode cX6_clear 16 = .ok (.aload_n 0, 1) := by decide +kernel
theorem dX6_clear_17 : decode cX6_clear 17 = .ok (.getfield 19, 3) := by decide +kernel
theorem dX6_clear_20 : decode cX6_clear 20 = .ok (.invokevirtual 134, 3) := by decide +kernel
theorem dX6_clear_23 : decode cX6_clear 23 = .ok (.iload_n 1, 1) := by decide +kernel
theorem dX6_clear_24 : decode cX6_clear 24 = .ok (.ireturn, 1) := by decide +kernel
theorem dX6_kata_0 : decode cX6_kata 0 = .ok (.iload_n 1, 1) := by decide +kernel
theorem dX6_kata_1 : decode cX6_kata 1 = .ok (.iconst 1, 1) := by decide +kernel
theorem dX6_kata_2 : decode cX6_kata 2 = .ok (.if_icmp .lt 8, 3) := by decide +kernel
theorem dX6_kata_5 : decode cX6_kata 5 = .ok (.iload_n 1, 1) := by decide +kernel
theorem dX6_kata_6 : decode cX6_kata 6 = .ok (.iconst 5, 1) := by decide +kernel
theorem dX6_kata_7 : decode cX6_kata 7 = .ok (.if_icmp .le 13, 3) := by decide +kernel
theorem dX6_kata_10 : decode cX6_kata 10 = .ok (.new 92, 3) := by decide +kernel
theorem dX6_kata_13 : decode cX6_kata 13 = .ok (.dup, 1) := by decide +kernel
theorem dX6_kata_14 : decode cX6_kata 14 = .ok (.ldc 135, 2) := by decide +kernel
theorem dX6_kata_16 : decode cX6_kata 16 = .ok (.invokespecial 96, 3) := by decide +kernel
theorem dX6_kata_19 : decode cX6_kata 19 = .ok (.athrow, 1) := by decide +kernel
theorem dX6_kata_20 : decode cX6_kata 20 = .ok (.aload_n 0, 1) := by decide +kernel
theorem dX6_kata_21 : decode cX6_kata 21 = .ok (.getfield 58, 3) := by decide +kernel
theorem dX6_kata_24 : decode cX6_kata 24 = .ok (.bipush 8, 2) := by decide +kernel
theorem dX6_kata_26 : decode cX6_kata 26 = .ok (.if_icmp .lt 13, 3) := by decide +kernel
theorem dX6_kata_29 : decode cX6_kata 29 = .ok (.new 108, 3) := by decide +kernel
theorem dX6_kata_32 : decode cX6_kata 32 = .ok (.dup, 1) := by decide +kernel
theorem dX6_kata_33 : decode cX6_kata 33 = .ok (.ldc 137, 2) := by decide +kernel
theorem dX6_kata_35 : decode cX6_kata 35 = .ok (.invokespecial 112, 3) := by decide +kernel
theorem dX6_kata_38 : decode cX6_kata 38 = .ok (.athrow, 1) := by decide +kernel
theorem dX6_kata_39 : decode cX6_kata 39 = .ok (.aload_n 0, 1) := by decide +kernel
theorem dX6_kata_40 : decode cX6_kata 40 = .ok (.getfield 25, 3) := by decide +kernel
theorem dX6_kata_43 : decode cX6_kata 43 = .ok (.aload_n 0, 1) := by decide +kernel
theorem dX6_kata_44 : decode cX6_kata 44 = .ok (.getfield 58, 3) := by decide +kernel
theorem dX6_kata_47 : decode cX6_kata 47 = .ok (.aaload, 1) := by decide +kernel
theorem dX6_kata_48 : decode cX6_kata 48 = .ok (.iload_n 1, 1) := by decide +kernel
theorem dX6_kata_49 : decode cX6_kata 49 = .ok (.putfield 139, 3) := by decide +kernel
theorem dX6_kata_52 : decode cX6_kata 52 = .ok (.aload_n 0, 1) := by decide +kernel
theorem dX6_kata_53 : decode cX6_kata 53 = .ok (.dup, 1) := by decide +kernel
theorem dX6_kata_54 : decode cX6_kata 54 = .ok (.getfield 58, 3) := by decide +kernel
theorem dX6_kata_57 : decode cX6_kata 57 = .ok (.iconst 1, 1) := by decide +kernel
theorem dX6_kata_58 : decode cX6_kata 58 = .ok (.iadd, 1) := by decide +kernel
theorem dX6_kata_59 : decode cX6_kata 59 = .ok (.putfield 58, 3) := by decide +kernel
theorem dX6_kata_62 : decode cX6_kata 62 = .ok (.aload_n 0, 1) := by decide +kernel
theorem dX6_kata_63 : decode cX6_kata 63 = .ok (.getfield 58, 3) := by decide +kernel
theorem dX6_kata_66 : decode cX6_kata 66 = .ok (.iconst 1, 1) := by decide +kernel
theorem dX6_kata_67 : decode cX6_kata 67 = .ok (.isub, 1) := by decide +kernel
theorem dX6_kata_68 : decode cX6_kata 68 = .ok (.ireturn, 1) := by decide +kernel
theorem dX6_test_0 : decode cX6_test 0 = .ok (.aload_n 0, 1) := by decide +kernel
theorem dX6_test_1 : decode cX6_test 1 = .ok (.iload_n 1, 1) := by decide +kernel
theorem dX6_test_2 : decode cX6_test 2 = .ok (.invokevirtual 142, 3) := by decide +kernel
theorem dX6_test_5 : decode cX6_test 5 = .ok (.astore_n 2, 1) := by decide +kernel
theorem dX6_test_6 : decode cX6_test 6 = .ok (.aload_n 2, 1) := by decide +kernel
theorem dX6_test_7 : decode cX6_test 7 = .ok (.getfield 146, 3) := by decide +kernel
theorem dX6_test_10 : decode cX6_test 10 = .ok (.iconst 5, 1) := by decide +kernel
theorem dX6_test_11 : decode cX6_test 11 = .ok (.if_icmp .lt 13, 3) := by decide +kernel
theorem dX6_test_14 : decode cX6_test 14 = .ok (.new 108, 3) := by decide +kernel
theorem dX6_test_17 : decode cX6_test 17 = .ok (.dup, 1) := by decide +kernel
theorem dX6_test_18 : decode cX6_test 18 = .ok (.ldc 149, 2) := by decide +kernel
theorem dX6_test_20 : decode cX6_test 20 = .ok (.invokespecial 112, 3) := by decide +kernel
theorem dX6_test_23 : decode cX6_test 23 = .ok (.athrow, 1) := by decide +kernel
theorem dX6_test_24 : decode cX6_test 24 = .ok (.aload_n 2, 1) := by decide +kernel
theorem dX6_test_25 : decode cX6_test 25 = .ok (.getfield 146, 3) := by decide +kernel
theorem dX6_test_28 : decode cX6_test 28 = .ok (.istore_n 3, 1) := by decide +kernel
theorem dX6_test_29 : decode cX6_test 29 = .ok (.aload_n 2, 1) := by decide +kernel
theorem dX6_test_30 : decode cX6_test 30 = .ok (.dup, 1) := by decide +kernel
theorem dX6_test_31 : decode cX6_test 31 = .ok (.getfield 146, 3) := by decide +kernel
theorem dX6_test_34 : decode cX6_test 34 = .ok (.iconst 1, 1) := by decide +kernel
theorem dX6_test_35 : decode cX6_test 35 = .ok (.iadd, 1) := by decide +kernel
theorem dX6_test_36 : decode cX6_test 36 = .ok (.putfield 146, 3) := by decide +kernel
theorem dX6_test_39 : decode cX6_test 39 = .ok (.aload_n 0, 1) := by decide +kernel
theorem dX6_test_40 : decode cX6_test 40 = .ok (.iload_n 1, 1) := by decide +kernel
theorem dX6_test_41 : decode cX6_test 41 = .ok (.aload_n 2, 1) := by decide +kernel
theorem dX6_test_42 : decode cX6_test 42 = .ok (.getfield 151, 3) := by decide +kernel
theorem dX6_test_45 : decode cX6_test 45 = .ok (.iload_n 3, 1) := by decide +kernel
theorem dX6_test_46 : decode cX6_test 46 = .ok (.aaload, 1) := by decide +kernel
theorem dX6_test_47 : decode cX6_test 47 = .ok (.invokevirtual 155, 3) := by decide +kernel
theorem dX6_test_50 : decode cX6_test 50 = .ok (.ireturn, 1) := by decide +kernel
theorem dX6_fix_0 : decode cX6_fix 0 = .ok (.aload_n 0, 1) := by decide +kernel
theorem dX6_fix_1 : decode cX6_fix 1 = .ok (.iload_n 1, 1) := by decide +kernel
theorem dX6_fix_2 : decode cX6_fix 2 = .ok (.aload_n 0, 1) := by decide +kernel
theorem dX6_fix_3 : decode cX6_fix 3 = .ok (.aload_n 0, 1) := by decide +kernel
theorem dX6_fix_4 : decode cX6_fix 4 = .ok (.iload_n 1, 1) := by decide +kernel
theorem dX6_fix_5 : decode cX6_fix 5 = .ok (.invokevirtual 142, 3) := by decide +kernel
theorem dX6_fix_8 : decode cX6_fix 8 = .ok (.iload_n 2, 1) := by decide +kernel
theorem dX6_fix_9 : decode cX6_fix 9 = .ok (.invokevirtual 159, 3) := by decide +kernel
theorem dX6_fix_12 : decode cX6_fix 12 = .ok (.invokevirtual 155, 3) := by decide +kernel
theorem dX6_fix_15 : decode cX6_fix 15 = .ok (.ireturn, 1) := by decide +kernel
theorem dX6_tests_0 : decode cX6_tests 0 = .ok (.aload_n 0, 1) := by decide +kernel
theorem dX6_tests_1 : decode cX6_tests 1 = .ok (.iload_n 1, 1) := by decide +kernel
theorem dX6_tests_2 : decode cX6_tests 2 = .ok (.invokevirtual 142, 3) := by decide +kernel
theorem dX6_tests_5 : decode cX6_tests 5 = .ok (.getfield 146, 3) := by decide +kernel
theorem dX6_tests_8 : decode cX6_tests 8 = .ok (.ireturn, 1) := by decide +kernel
theorem dX6_run_0 : decode cX6_run 0 = .ok (.aload_n 0, 1) := by decide +kernel
theorem dX6_run_1 : decode cX6_run 1 = .ok (.aload_n 0, 1) := by decide +kernel
theorem dX6_run_2 : decode cX6_run 2 = .ok (.iload_n 1, 1) := by decide +kernel
theorem dX6_run_3 : decode cX6_run 3 = .ok (.invokevirtual 142, 3) := by decide +kernel
theorem dX6_run_6 : decode cX6_run 6 = .ok (.iload_n 2, 1) := by decide +kernel
theorem dX6_run_7 : decode cX6_run 7 = .ok (.invokevirtual 159, 3) := by decide +kernel
theorem dX6_run_10 : decode cX6_run 10 = .ok (.astore_n 3, 1) := by decide +kernel
theorem dX6_run_11 : decode cX6_run 11 = .ok (.aload_n 0, 1) := by decide +kernel
theorem dX6_run_12 : decode cX6_run 12 = .ok (.getfield 10, 3) := by decide +kernel
theorem dX6_run_15 : decode cX6_run 15 = .ok (.invokevirtual 163, 3) := by decide +kernel
theorem dX6_run_18 : decode cX6_run 18 = .ok (.ifCond .ne 13, 3) := by decide +kernel
theorem dX6_run_21 : decode cX6_run 21 = .ok (.new 167, 3) := by decide +kernel
theorem dX6_run_24 : decode cX6_run 24 = .ok (.dup, 1) := by decide +kernel
theorem dX6_run_25 : decode cX6_run 25 = .ok (.ldc 169, 2) := by decide +kernel
theorem dX6_run_27 : decode cX6_run 27 = .ok (.invokespecial 171, 3) := by decide +kernel
theorem dX6_run_30 : decode cX6_run 30 = .ok (.athrow, 1) := by decide +kernel
theorem dX6_run_31 : decode cX6_run 31 = .ok (.aload_n 0, 1) := by decide +kernel
theorem dX6_run_32 : decode cX6_run 32 = .ok (.iconst 1, 1) := by decide +kernel
theorem dX6_run_33 : decode cX6_run 33 = .ok (.putfield 77, 3) := by decide +kernel
theorem dX6_run_36 : decode cX6_run 36 = .ok (.aload_n 0, 1) := by decide +kernel
theorem dX6_run_37 : decode cX6_run 37 = .ok (.getfield 51, 3) := by decide +kernel
theorem dX6_run_40 : decode cX6_run 40 = .ok (.aload_n 0, 1) := by decide +kernel
theorem dX6_run_41 : decode cX6_run 41 = .ok (.getfield 10, 3) := by decide +kernel
theorem dX6_run_44 : decode cX6_run 44 = .ok (.aload_n 3, 1) := by decide +kernel
theorem dX6_run_45 : decode cX6_run 45 = .ok (.invokevirtual 172, 3) := by decide +kernel
theorem dX6_run_48 : decode cX6_run 48 = .ok (.ireturn, 1) := by decide +kernel
theorem dX6_done_0 : decode cX6_done 0 = .ok (.aload_n 0, 1) := by decide +kernel
theorem dX6_done_1 : decode cX6_done 1 = .ok (.invokevirtual 176, 3) := by decide +kernel
theorem dX6_done_4 : decode cX6_done 4 = .ok (.getfield 180, 3) := by decide +kernel
theorem dX6_done_7 : decode cX6_done 7 = .ok (.ireturn, 1) := by decide +kernel
theorem dX6_outputs_0 : decode cX6_outputs 0 = .ok (.aload_n 0, 1) := by decide +kernel
theorem dX6_outputs_1 : decode cX6_outputs 1 = .ok (.invokevirtual 176, 3) := by decide +kernel
theorem dX6_outputs_4 : decode cX6_outputs 4 = .ok (.getfield 183, 3) := by decide +kernel
theorem dX6_outputs_7 : decode cX6_outputs 7 = .ok (.ireturn, 1) := by decide +kernel
theorem dX6_output_0 : decode cX6_output 0 = .ok (.aload_n 0, 1) := by decide +kernel
theorem dX6_output_1 : decode cX6_output 1 = .ok (.invokevirtual 176, 3) := by decide +kernel
theorem dX6_output_4 : decode cX6_output 4 = .ok (.astore_n 2, 1) := by decide +kernel
theorem dX6_output_5 : decode cX6_output 5 = .ok (.iload_n 1, 1) := by decide +kernel
theorem dX6_output_6 : decode cX6_output 6 = .ok (.ifCond .lt 11, 3) := by decide +kernel
theorem dX6_output_9 : decode cX6_output 9 = .ok (.iload_n 1, 1) := by decide +kernel
theorem dX6_output_10 : decode cX6_output 10 = .ok (.aload_n 2, 1) := by decide +kernel
theorem dX6_output_11 : decode cX6_output 11 = .ok (.getfield 183, 3) := by decide +kernel
theorem dX6_output_14 : decode cX6_output 14 = .ok (.if_icmp .lt 13, 3) := by decide +kernel
theorem dX6_output_17 : decode cX6_output 17 = .ok (.new 186, 3) := by decide +kernel
theorem dX6_output_20 : decode cX6_output 20 = .ok (.dup, 1) := by decide +kernel
theorem dX6_output_21 : decode cX6_output 21 = .ok (.ldc 188, 2) := by decide +kernel
theorem dX6_output_23 : decode cX6_output 23 = .ok (.invokespecial 190, 3) := by decide +kernel
theorem dX6_output_26 : decode cX6_output 26 = .ok (.athrow, 1) := by decide +kernel
theorem dX6_output_27 : decode cX6_output 27 = .ok (.aload_n 2, 1) := by decide +kernel
theorem dX6_output_28 : decode cX6_output 28 = .ok (.getfield 191, 3) := by decide +kernel
theorem dX6_output_31 : decode cX6_output 31 = .ok (.iload_n 1, 1) := by decide +kernel
theorem dX6_output_32 : decode cX6_output 32 = .ok (.iaload, 1) := by decide +kernel
theorem dX6_output_33 : decode cX6_output 33 = .ok (.ireturn, 1) := by decide +kernel
theorem dX6_depth_0 : decode cX6_depth 0 = .ok (.aload_n 0, 1) := by decide +kernel
theorem dX6_depth_1 : decode cX6_depth 1 = .ok (.invokevirtual 176, 3) := by decide +kernel
theorem dX6_depth_4 : decode cX6_depth 4 = .ok (.getfield 194, 3) := by decide +kernel
theorem dX6_depth_7 : decode cX6_depth 7 = .ok (.ireturn, 1) := by decide +kernel
theorem dX6_member_0 : decode cX6_member 0 = .ok (.aload_n 0, 1) := by decide +kernel
theorem dX6_member_1 : decode cX6_member 1 = .ok (.getfield 62, 3) := by decide +kernel
theorem dX6_member_4 : decode cX6_member 4 = .ok (.bipush 10, 2) := by decide +kernel
theorem dX6_member_6 : decode cX6_member 6 = .ok (.if_icmp .lt 13, 3) := by decide +kernel
theorem dX6_member_9 : decode cX6_member 9 = .ok (.new 108, 3) := by decide +kernel
theorem dX6_member_12 : decode cX6_member 12 = .ok (.dup, 1) := by decide +kernel
theorem dX6_member_13 : decode cX6_member 13 = .ok (.ldc 197, 2) := by decide +kernel
theorem dX6_member_15 : decode cX6_member 15 = .ok (.invokespecial 112, 3) := by decide +kernel
theorem dX6_member_18 : decode cX6_member 18 = .ok (.athrow, 1) := by decide +kernel
theorem dX6_member_19 : decode cX6_member 19 = .ok (.aload_n 0, 1) := by decide +kernel
theorem dX6_member_20 : decode cX6_member 20 = .ok (.dup, 1) := by decide +kernel
theorem dX6_member_21 : decode cX6_member 21 = .ok (.getfield 62, 3) := by decide +kernel
theorem dX6_member_24 : decode cX6_member 24 = .ok (.iconst 1, 1) := by decide +kernel
theorem dX6_member_25 : decode cX6_member 25 = .ok (.iadd, 1) := by decide +kernel
theorem dX6_member_26 : decode cX6_member 26 = .ok (.putfield 62, 3) := by decide +kernel
theorem dX6_member_29 : decode cX6_member 29 = .ok (.aload_n 0, 1) := by decide +kernel
theorem dX6_member_30 : decode cX6_member 30 = .ok (.getfield 62, 3) := by decide +kernel
theorem dX6_member_33 : decode cX6_member 33 = .ok (.iconst 1, 1) := by decide +kernel
theorem dX6_member_34 : decode cX6_member 34 = .ok (.isub, 1) := by decide +kernel
theorem dX6_member_35 : decode cX6_member 35 = .ok (.ireturn, 1) := by decide +kernel
theorem dX6_submit_0 : decode cX6_submit 0 = .ok (.aload_n 0, 1) := by decide +kernel
theorem dX6_submit_1 : decode cX6_submit 1 = .ok (.iload_n 1, 1) := by decide +kernel
theorem dX6_submit_2 : decode cX6_submit 2 = .ok (.invokevirtual 199, 3) := by decide +kernel
theorem dX6_submit_5 : decode cX6_submit 5 = .ok (.pop, 1) := by decide +kernel
theorem dX6_submit_6 : decode cX6_submit 6 = .ok (.aload_n 0, 1) := by decide +kernel
theorem dX6_submit_7 : decode cX6_submit 7 = .ok (.iload_n 2, 1) := by decide +kernel
theorem dX6_submit_8 : decode cX6_submit 8 = .ok (.invokevirtual 142, 3) := by decide +kernel
theorem dX6_submit_11 : decode cX6_submit 11 = .ok (.astore_n 3, 1) := by decide +kernel
theorem dX6_submit_12 : decode cX6_submit 12 = .ok (.aload_n 0, 1) := by decide +kernel
theorem dX6_submit_13 : decode cX6_submit 13 = .ok (.getfield 10, 3) := by decide +kernel
theorem dX6_submit_16 : decode cX6_submit 16 = .ok (.invokevirtual 163, 3) := by decide +kernel
theorem dX6_submit_19 : decode cX6_submit 19 = .ok (.ifCond .eq 10, 3) := by decide +kernel
theorem dX6_submit_22 : decode cX6_submit 22 = .ok (.aload_n 3, 1) := by decide +kernel
theorem dX6_submit_23 : decode cX6_submit 23 = .ok (.getfield 146, 3) := by decide +kernel
theorem dX6_submit_26 : decode cX6_submit 26 = .ok (.ifCond .ne 13, 3) := by decide +kernel
theorem dX6_submit_29 : decode cX6_submit 29 = .ok (.new 167, 3) := by decide +kernel
theorem dX6_submit_32 : decode cX6_submit 32 = .ok (.dup, 1) := by decide +kernel
theorem dX6_submit_33 : decode cX6_submit 33 = .ok (.ldc 203, 2) := by decide +kernel
theorem dX6_submit_35 : decode cX6_submit 35 = .ok (.invokespecial 171, 3) := by decide +kernel
theorem dX6_submit_38 : decode cX6_submit 38 = .ok (.athrow, 1) := by decide +kernel
theorem dX6_submit_39 : decode cX6_submit 39 = .ok (.aload_n 0, 1) := by decide +kernel
theorem dX6_submit_40 : decode cX6_submit 40 = .ok (.getfield 65, 3) := by decide +kernel
theorem dX6_submit_43 : decode cX6_submit 43 = .ok (.bipush 40, 2) := by decide +kernel
theorem dX6_submit_45 : decode cX6_submit 45 = .ok (.if_icmp .lt 13, 3) := by decide +kernel
theorem dX6_submit_48 : decode cX6_submit 48 = .ok (.new 108, 3) := by decide +kernel
theorem dX6_submit_51 : decode cX6_submit 51 = .ok (.dup, 1) := by decide +kernel
theorem dX6_submit_52 : decode cX6_submit 52 = .ok (.ldc 205, 2) := by decide +kernel
theorem dX6_submit_54 : decode cX6_submit 54 = .ok (.invokespecial 112, 3) := by decide +kernel
theorem dX6_submit_57 : decode cX6_submit 57 = .ok (.athrow, 1) := by decide +kernel
theorem dX6_submit_58 : decode cX6_submit 58 = .ok (.aload_n 0, 1) := by decide +kernel
theorem dX6_submit_59 : decode cX6_submit 59 = .ok (.aload_n 0, 1) := by decide +kernel
theorem dX6_submit_60 : decode cX6_submit 60 = .ok (.getfield 10, 3) := by decide +kernel
theorem dX6_submit_63 : decode cX6_submit 63 = .ok (.aload_n 3, 1) := by decide +kernel
theorem dX6_submit_64 : decode cX6_submit 64 = .ok (.invokevirtual 207, 3) := by decide +kernel
theorem dX6_submit_67 : decode cX6_submit 67 = .ok (.ifCond .ne 5, 3) := by decide +kernel
theorem dX6_submit_70 : decode cX6_submit 70 = .ok (.iconst (-1), 1) := by decide +kernel
theorem dX6_submit_71 : decode cX6_submit 71 = .ok (.ireturn, 1) := by decide +kernel
theorem dX6_submit_72 : decode cX6_submit 72 = .ok (.aload_n 0, 1) := by decide +kernel
theorem dX6_submit_73 : decode cX6_submit 73 = .ok (.getfield 65, 3) := by decide +kernel
theorem dX6_submit_76 : decode cX6_submit 76 = .ok (.istore 4, 2) := by decide +kernel
theorem dX6_submit_78 : decode cX6_submit 78 = .ok (.aload_n 0, 1) := by decide +kernel
theorem dX6_submit_79 : decode cX6_submit 79 = .ok (.dup, 1) := by decide +kernel
theorem dX6_submit_80 : decode cX6_submit 80 = .ok (.getfield 65, 3) := by decide +kernel
theorem dX6_submit_83 : decode cX6_submit 83 = .ok (.iconst 1, 1) := by decide +kernel
theorem dX6_submit_84 : decode cX6_submit 84 = .ok (.iadd, 1) := by decide +kernel
theorem dX6_submit_85 : decode cX6_submit 85 = .ok (.putfield 65, 3) := by decide +kernel
theorem dX6_submit_88 : decode cX6_submit 88 = .ok (.aload_n 0, 1) := by decide +kernel
theorem dX6_submit_89 : decode cX6_submit 89 = .ok (.getfield 37, 3) := by decide +kernel
theorem dX6_submit_92 : decode cX6_submit 92 = .ok (.iload 4, 2) := by decide +kernel
theorem dX6_submit_94 : decode cX6_submit 94 = .ok (.aaload, 1) := by decide +kernel
theorem dX6_submit_95 : decode cX6_submit 95 = .ok (.iload_n 1, 1) := by decide +kernel
theorem dX6_submit_96 : decode cX6_submit 96 = .ok (.iload_n 2, 1) := by decide +kernel
theorem dX6_submit_97 : decode cX6_submit 97 = .ok (.aload_n 0, 1) := by decide +kernel
theorem dX6_submit_98 : decode cX6_submit 98 = .ok (.getfield 10, 3) := by decide +kernel
theorem dX6_submit_101 : decode cX6_submit 101 = .ok (.invokevirtual 211, 3) := by decide +kernel
theorem dX6_submit_104 : decode cX6_submit 104 = .ok (.aload_n 0, 1) := by decide +kernel
theorem dX6_submit_105 : decode cX6_submit 105 = .ok (.invokevirtual 215, 3) := by decide +kernel
theorem dX6_submit_108 : decode cX6_submit 108 = .ok (.pop, 1) := by decide +kernel
theorem dX6_submit_109 : decode cX6_submit 109 = .ok (.iload 4, 2) := by decide +kernel
theorem dX6_submit_111 : decode cX6_submit 111 = .ok (.ireturn, 1) := by decide +kernel
theorem dX6_works_0 : decode cX6_works 0 = .ok (.aload_n 0, 1) := by decide +kernel
theorem dX6_works_1 : decode cX6_works 1 = .ok (.getfield 65, 3) := by decide +kernel
theorem dX6_works_4 : decode cX6_works 4 = .ok (.ireturn, 1) := by decide +kernel
theorem dX6_of_0 : decode cX6_of 0 = .ok (.aload_n 0, 1) := by decide +kernel
theorem dX6_of_1 : decode cX6_of 1 = .ok (.iload_n 1, 1) := by decide +kernel
theorem dX6_of_2 : decode cX6_of 2 = .ok (.invokevirtual 219, 3) := by decide +kernel
theorem dX6_of_5 : decode cX6_of 5 = .ok (.astore_n 3, 1) := by decide +kernel
theorem dX6_of_6 : decode cX6_of 6 = .ok (.iload_n 2, 1) := by decide +kernel
theorem dX6_of_7 : decode cX6_of 7 = .ok (.tableswitch 90 107 119 #[70, 90, 65, 75, 90, 90, 90, 90, 90, 90, 90, 80, 85], 65) := by decide +kernel
theorem dX6_of_72 : decode cX6_of 72 = .ok (.aload_n 3, 1) := by decide +kernel
theorem dX6_of_73 : decode cX6_of 73 = .ok (.getfield 223, 3) := by decide +kernel
theorem dX6_of_76 : decode cX6_of 76 = .ok (.ireturn, 1) := by decide +kernel
theorem dX6_of_77 : decode cX6_of 77 = .ok (.aload_n 3, 1) := by decide +kernel
theorem dX6_of_78 : decode cX6_of 78 = .ok (.getfield 226, 3) := by decide +kernel
theorem dX6_of_81 : decode cX6_of 81 = .ok (.ireturn, 1) := by decide +kernel
theorem dX6_of_82 : decode cX6_of 82 = .ok (.aload_n 3, 1) := by decide +kernel
theorem dX6_of_83 : decode cX6_of 83 = .ok (.getfield 229, 3) := by decide +kernel
theorem dX6_of_86 : decode cX6_of 86 = .ok (.ireturn, 1) := by decide +kernel
theorem dX6_of_87 : decode cX6_of 87 = .ok (.aload_n 3, 1) := by decide +kernel
theorem dX6_of_88 : decode cX6_of 88 = .ok (.getfield 230, 3) := by decide +kernel
theorem dX6_of_91 : decode cX6_of 91 = .ok (.ireturn, 1) := by decide +kernel
theorem dX6_of_92 : decode cX6_of 92 = .ok (.aload_n 3, 1) := by decide +kernel
theorem dX6_of_93 : decode cX6_of 93 = .ok (.getfield 233, 3) := by decide +kernel
theorem dX6_of_96 : decode cX6_of 96 = .ok (.ireturn, 1) := by decide +kernel
theorem dX6_of_97 : decode cX6_of 97 = .ok (.new 92, 3) := by decide +kernel
theorem dX6_of_100 : decode cX6_of 100 = .ok (.dup, 1) := by decide +kernel
theorem dX6_of_101 : decode cX6_of 101 = .ok (.ldc 236, 2) := by decide +kernel
theorem dX6_of_103 : decode cX6_of 103 = .ok (.invokespecial 96, 3) := by decide +kernel
theorem dX6_of_106 : decode cX6_of 106 = .ok (.athrow, 1) := by decide +kernel
theorem dX6_state_0 : decode cX6_state 0 = .ok (.aload_n 0, 1) := by decide +kernel
theorem dX6_state_1 : decode cX6_state 1 = .ok (.iload_n 1, 1) := by decide +kernel
theorem dX6_state_2 : decode cX6_state 2 = .ok (.invokevirtual 219, 3) := by decide +kernel
theorem dX6_state_5 : decode cX6_state 5 = .ok (.getfield 238, 3) := by decide +kernel
theorem dX6_state_8 : decode cX6_state 8 = .ok (.ireturn, 1) := by decide +kernel
theorem dX6_sum_0 : decode cX6_sum 0 = .ok (.aload_n 0, 1) := by decide +kernel
theorem dX6_sum_1 : decode cX6_sum 1 = .ok (.iload_n 1, 1) := by decide +kernel
theorem dX6_sum_2 : decode cX6_sum 2 = .ok (.invokevirtual 219, 3) := by decide +kernel
theorem dX6_sum_5 : decode cX6_sum 5 = .ok (.getfield 242, 3) := by decide +kernel
theorem dX6_sum_8 : decode cX6_sum 8 = .ok (.lreturn, 1) := by decide +kernel
theorem dX6_steps_0 : decode cX6_steps 0 = .ok (.aload_n 0, 1) := by decide +kernel
theorem dX6_steps_1 : decode cX6_steps 1 = .ok (.iload_n 1, 1) := by decide +kernel
theorem dX6_steps_2 : decode cX6_steps 2 = .ok (.invokevirtual 219, 3) := by decide +kernel
theorem dX6_steps_5 : decode cX6_steps 5 = .ok (.astore_n 3, 1) := by decide +kernel
theorem dX6_steps_6 : decode cX6_steps 6 = .ok (.aload_n 0, 1) := by decide +kernel
theorem dX6_steps_7 : decode cX6_steps 7 = .ok (.aload_n 0, 1) := by decide +kernel
theorem dX6_steps_8 : decode cX6_steps 8 = .ok (.getfield 25, 3) := by decide +kernel
theorem dX6_steps_11 : decode cX6_steps 11 = .ok (.aload_n 3, 1) := by decide +kernel
theorem dX6_steps_12 : decode cX6_steps 12 = .ok (.getfield 226, 3) := by decide +kernel
theorem dX6_steps_15 : decode cX6_steps 15 = .ok (.aaload, 1) := by decide +kernel
theorem dX6_steps_16 : decode cX6_steps 16 = .ok (.iload_n 2, 1) := by decide +kernel
theorem dX6_steps_17 : decode cX6_steps 17 = .ok (.invokevirtual 159, 3) := by decide +kernel
theorem dX6_steps_20 : decode cX6_steps 20 = .ok (.pop, 1) := by decide +kernel
theorem dX6_steps_21 : decode cX6_steps 21 = .ok (.aload_n 0, 1) := by decide +kernel
theorem dX6_steps_22 : decode cX6_steps 22 = .ok (.aload_n 3, 1) := by decide +kernel
theorem dX6_steps_23 : decode cX6_steps 23 = .ok (.iload_n 2, 1) := by decide +kernel
theorem dX6_steps_24 : decode cX6_steps 24 = .ok (.invokevirtual 246, 3) := by decide +kernel
theorem dX6_steps_27 : decode cX6_steps 27 = .ok (.istore 4, 2) := by decide +kernel
theorem dX6_steps_29 : decode cX6_steps 29 = .ok (.iload 4, 2) := by decide +kernel
theorem dX6_steps_31 : decode cX6_steps 31 = .ok (.iconst (-1), 1) := by decide +kernel
theorem dX6_steps_32 : decode cX6_steps 32 = .ok (.if_icmp .ne 13, 3) := by decide +kernel
theorem dX6_steps_35 : decode cX6_steps 35 = .ok (.new 186, 3) := by decide +kernel
theorem dX6_steps_38 : decode cX6_steps 38 = .ok (.dup, 1) := by decide +kernel
theorem dX6_steps_39 : decode cX6_steps 39 = .ok (.ldc 250, 2) := by decide +kernel
theorem dX6_steps_41 : decode cX6_steps 41 = .ok (.invokespecial 190, 3) := by decide +kernel
theorem dX6_steps_44 : decode cX6_steps 44 = .ok (.athrow, 1) := by decide +kernel
theorem dX6_steps_45 : decode cX6_steps 45 = .ok (.iload 4, 2) := by decide +kernel
theorem dX6_steps_47 : decode cX6_steps 47 = .ok (.ireturn, 1) := by decide +kernel
theorem dX6_hasBody_0 : decode cX6_hasBody 0 = .ok (.aload_n 0, 1) := by decide +kernel
theorem dX6_hasBody_1 : decode cX6_hasBody 1 = .ok (.iload_n 1, 1) := by decide +kernel
theorem dX6_hasBody_2 : decode cX6_hasBody 2 = .ok (.invokevirtual 219, 3) := by decide +kernel
theorem dX6_hasBody_5 : decode cX6_hasBody 5 = .ok (.getfield 252, 3) := by decide +kernel
theorem dX6_hasBody_8 : decode cX6_hasBody 8 = .ok (.ireturn, 1) := by decide +kernel
theorem dX6_letter_0 : decode cX6_letter 0 = .ok (.aload_n 0, 1) := by decide +kernel
theorem dX6_letter_1 : decode cX6_letter 1 = .ok (.iload_n 1, 1) := by decide +kernel
theorem dX6_letter_2 : decode cX6_letter 2 = .ok (.invokevirtual 219, 3) := by decide +kernel
theorem dX6_letter_5 : decode cX6_letter 5 = .ok (.astore_n 3, 1) := by decide +kernel
theorem dX6_letter_6 : decode cX6_letter 6 = .ok (.aload_n 3, 1) := by decide +kernel
theorem dX6_letter_7 : decode cX6_letter 7 = .ok (.getfield 252, 3) := by decide +kernel
theorem dX6_letter_10 : decode cX6_letter 10 = .ok (.ifCond .eq 18, 3) := by decide +kernel
theorem dX6_letter_13 : decode cX6_letter 13 = .ok (.iload_n 2, 1) := by decide +kernel
theorem dX6_letter_14 : decode cX6_letter 14 = .ok (.ifCond .lt 14, 3) := by decide +kernel
theorem dX6_letter_17 : decode cX6_letter 17 = .ok (.iload_n 2, 1) := by decide +kernel
theorem dX6_letter_18 : decode cX6_letter 18 = .ok (.aload_n 3, 1) := by decide +kernel
theorem dX6_letter_19 : decode cX6_letter 19 = .ok (.getfield 255, 3) := by decide +kernel
theorem dX6_letter_22 : decode cX6_letter 22 = .ok (.getfield 105, 3) := by decide +kernel
theorem dX6_letter_25 : decode cX6_letter 25 = .ok (.if_icmp .lt 14, 3) := by decide +kernel
theorem dX6_letter_28 : decode cX6_letter 28 = .ok (.new 186, 3) := by decide +kernel
theorem dX6_letter_31 : decode cX6_letter 31 = .ok (.dup, 1) := by decide +kernel
theorem dX6_letter_32 : decode cX6_letter 32 = .ok (.ldc_w 258, 3) := by decide +kernel
theorem dX6_letter_35 : decode cX6_letter 35 = .ok (.invokespecial 190, 3) := by decide +kernel
theorem dX6_letter_38 : decode cX6_letter 38 = .ok (.athrow, 1) := by decide +kernel
theorem dX6_letter_39 : decode cX6_letter 39 = .ok (.aload_n 3, 1) := by decide +kernel
theorem dX6_letter_40 : decode cX6_letter 40 = .ok (.getfield 255, 3) := by decide +kernel
theorem dX6_letter_43 : decode cX6_letter 43 = .ok (.getfield 260, 3) := by decide +kernel
theorem dX6_letter_46 : decode cX6_letter 46 = .ok (.iload_n 2, 1) := by decide +kernel
theorem dX6_letter_47 : decode cX6_letter 47 = .ok (.caload, 1) := by decide +kernel
theorem dX6_letter_48 : decode cX6_letter 48 = .ok (.ireturn, 1) := by decide +kernel
theorem dX6_drop_0 : decode cX6_drop 0 = .ok (.aload_n 0, 1) := by decide +kernel
theorem dX6_drop_1 : decode cX6_drop 1 = .ok (.iload_n 1, 1) := by decide +kernel
theorem dX6_drop_2 : decode cX6_drop 2 = .ok (.invokevirtual 219, 3) := by decide +kernel
theorem dX6_drop_5 : decode cX6_drop 5 = .ok (.astore_n 2, 1) := by decide +kernel
theorem dX6_drop_6 : decode cX6_drop 6 = .ok (.aload_n 2, 1) := by decide +kernel
theorem dX6_drop_7 : decode cX6_drop 7 = .ok (.getfield 252, 3) := by decide +kernel
theorem dX6_drop_10 : decode cX6_drop 10 = .ok (.ifCond .ne 14, 3) := by decide +kernel
theorem dX6_drop_13 : decode cX6_drop 13 = .ok (.new 167, 3) := by decide +kernel
theorem dX6_drop_16 : decode cX6_drop 16 = .ok (.dup, 1) := by decide +kernel
theorem dX6_drop_17 : decode cX6_drop 17 = .ok (.ldc_w 264, 3) := by decide +kernel
theorem dX6_drop_20 : decode cX6_drop 20 = .ok (.invokespecial 171, 3) := by decide +kernel
theorem dX6_drop_23 : decode cX6_drop 23 = .ok (.athrow, 1) := by decide +kernel
theorem dX6_drop_24 : decode cX6_drop 24 = .ok (.aload_n 0, 1) := by decide +kernel
theorem dX6_drop_25 : decode cX6_drop 25 = .ok (.aload_n 2, 1) := by decide +kernel
theorem dX6_drop_26 : decode cX6_drop 26 = .ok (.invokevirtual 266, 3) := by decide +kernel
theorem dX6_drop_29 : decode cX6_drop 29 = .ok (.aload_n 0, 1) := by decide +kernel
theorem dX6_drop_30 : decode cX6_drop 30 = .ok (.invokevirtual 270, 3) := by decide +kernel
theorem dX6_drop_33 : decode cX6_drop 33 = .ok (.ireturn, 1) := by decide +kernel
theorem dX6_capacity_0 : decode cX6_capacity 0 = .ok (.iload_n 1, 1) := by decide +kernel
theorem dX6_capacity_1 : decode cX6_capacity 1 = .ok (.iconst 1, 1) := by decide +kernel
theorem dX6_capacity_2 : decode cX6_capacity 2 = .ok (.if_icmp .lt 9, 3) := by decide +kernel
theorem dX6_capacity_5 : decode cX6_capacity 5 = .ok (.iload_n 1, 1) := by decide +kernel
theorem dX6_capacity_6 : decode cX6_capacity 6 = .ok (.bipush 40, 2) := by decide +kernel
theorem dX6_capacity_8 : decode cX6_capacity 8 = .ok (.if_icmp .le 14, 3) := by decide +kernel
theorem dX6_capacity_11 : decode cX6_capacity 11 = .ok (.new 92, 3) := by decide +kernel
theorem dX6_capacity_14 : decode cX6_capacity 14 = .ok (.dup, 1) := by decide +kernel
theorem dX6_capacity_15 : decode cX6_capacity 15 = .ok (.ldc_w 273, 3) := by decide +kernel
theorem dX6_capacity_18 : decode cX6_capacity 18 = .ok (.invokespecial 96, 3) := by decide +kernel
theorem dX6_capacity_21 : decode cX6_capacity 21 = .ok (.athrow, 1) := by decide +kernel
theorem dX6_capacity_22 : decode cX6_capacity 22 = .ok (.aload_n 0, 1) := by decide +kernel
theorem dX6_capacity_23 : decode cX6_capacity 23 = .ok (.iload_n 1, 1) := by decide +kernel
theorem dX6_capacity_24 : decode cX6_capacity 24 = .ok (.putfield 71, 3) := by decide +kernel
theorem dX6_capacity_27 : decode cX6_capacity 27 = .ok (.aload_n 0, 1) := by decide +kernel
theorem dX6_capacity_28 : decode cX6_capacity 28 = .ok (.invokevirtual 215, 3) := by decide +kernel
theorem dX6_capacity_31 : decode cX6_capacity 31 = .ok (.ireturn, 1) := by decide +kernel
theorem dX6_bodies_0 : decode cX6_bodies 0 = .ok (.aload_n 0, 1) := by decide +kernel
theorem dX6_bodies_1 : decode cX6_bodies 1 = .ok (.invokevirtual 270, 3) := by decide +kernel
theorem dX6_bodies_4 : decode cX6_bodies 4 = .ok (.ireturn, 1) := by decide +kernel
theorem dX6_read_0 : decode cX6_read 0 = .ok (.aload_n 0, 1) := by decide +kernel
theorem dX6_read_1 : decode cX6_read 1 = .ok (.iload_n 1, 1) := by decide +kernel
theorem dX6_read_2 : decode cX6_read 2 = .ok (.invokevirtual 199, 3) := by decide +kernel
theorem dX6_read_5 : decode cX6_read 5 = .ok (.astore_n 3, 1) := by decide +kernel
theorem dX6_read_6 : decode cX6_read 6 = .ok (.aload_n 0, 1) := by decide +kernel
theorem dX6_read_7 : decode cX6_read 7 = .ok (.iload_n 2, 1) := by decide +kernel
theorem dX6_read_8 : decode cX6_read 8 = .ok (.invokevirtual 219, 3) := by decide +kernel
theorem dX6_read_11 : decode cX6_read 11 = .ok (.astore 4, 2) := by decide +kernel
theorem dX6_read_13 : decode cX6_read 13 = .ok (.aload 4, 2) := by decide +kernel
theorem dX6_read_15 : decode cX6_read 15 = .ok (.getfield 252, 3) := by decide +kernel
theorem dX6_read_18 : decode cX6_read 18 = .ok (.ifCond .ne 14, 3) := by decide +kernel
theorem dX6_read_21 : decode cX6_read 21 = .ok (.new 186, 3) := by decide +kernel
theorem dX6_read_24 : decode cX6_read 24 = .ok (.dup, 1) := by decide +kernel
theorem dX6_read_25 : decode cX6_read 25 = .ok (.ldc_w 264, 3) := by decide +kernel
theorem dX6_read_28 : decode cX6_read 28 = .ok (.invokespecial 190, 3) := by decide +kernel
theorem dX6_read_31 : decode cX6_read 31 = .ok (.athrow, 1) := by decide +kernel
theorem dX6_read_32 : decode cX6_read 32 = .ok (.aload_n 3, 1) := by decide +kernel
theorem dX6_read_33 : decode cX6_read 33 = .ok (.iload_n 2, 1) := by decide +kernel
theorem dX6_read_34 : decode cX6_read 34 = .ok (.aload 4, 2) := by decide +kernel
theorem dX6_read_36 : decode cX6_read 36 = .ok (.getfield 255, 3) := by decide +kernel
theorem dX6_read_39 : decode cX6_read 39 = .ok (.invokevirtual 275, 3) := by decide +kernel
theorem dX6_read_42 : decode cX6_read 42 = .ok (.aload_n 3, 1) := by decide +kernel
theorem dX6_read_43 : decode cX6_read 43 = .ok (.getfield 279, 3) := by decide +kernel
theorem dX6_read_46 : decode cX6_read 46 = .ok (.ireturn, 1) := by decide +kernel
theorem dX6_copy_0 : decode cX6_copy 0 = .ok (.aload_n 0, 1) := by decide +kernel
theorem dX6_copy_1 : decode cX6_copy 1 = .ok (.iload_n 1, 1) := by decide +kernel
theorem dX6_copy_2 : decode cX6_copy 2 = .ok (.invokevirtual 199, 3) := by decide +kernel
theorem dX6_copy_5 : decode cX6_copy 5 = .ok (.astore_n 3, 1) := by decide +kernel
theorem dX6_copy_6 : decode cX6_copy 6 = .ok (.iload_n 2, 1) := by decide +kernel
theorem dX6_copy_7 : decode cX6_copy 7 = .ok (.ifCond .lt 11, 3) := by decide +kernel
theorem dX6_copy_10 : decode cX6_copy 10 = .ok (.iload_n 2, 1) := by decide +kernel
theorem dX6_copy_11 : decode cX6_copy 11 = .ok (.aload_n 3, 1) := by decide +kernel
theorem dX6_copy_12 : decode cX6_copy 12 = .ok (.getfield 279, 3) := by decide +kernel
theorem dX6_copy_15 : decode cX6_copy 15 = .ok (.if_icmp .lt 14, 3) := by decide +kernel
theorem dX6_copy_18 : decode cX6_copy 18 = .ok (.new 186, 3) := by decide +kernel
theorem dX6_copy_21 : decode cX6_copy 21 = .ok (.dup, 1) := by decide +kernel
theorem dX6_copy_22 : decode cX6_copy 22 = .ok (.ldc_w 282, 3) := by decide +kernel
theorem dX6_copy_25 : decode cX6_copy 25 = .ok (.invokespecial 190, 3) := by decide +kernel
theorem dX6_copy_28 : decode cX6_copy 28 = .ok (.athrow, 1) := by decide +kernel
theorem dX6_copy_29 : decode cX6_copy 29 = .ok (.aload_n 3, 1) := by decide +kernel
theorem dX6_copy_30 : decode cX6_copy 30 = .ok (.getfield 284, 3) := by decide +kernel
theorem dX6_copy_33 : decode cX6_copy 33 = .ok (.iload_n 2, 1) := by decide +kernel
theorem dX6_copy_34 : decode cX6_copy 34 = .ok (.iaload, 1) := by decide +kernel
theorem dX6_copy_35 : decode cX6_copy 35 = .ok (.ireturn, 1) := by decide +kernel
theorem dX6_vote_0 : decode cX6_vote 0 = .ok (.aload_n 0, 1) := by decide +kernel
theorem dX6_vote_1 : decode cX6_vote 1 = .ok (.iload_n 1, 1) := by decide +kernel
theorem dX6_vote_2 : decode cX6_vote 2 = .ok (.invokevirtual 199, 3) := by decide +kernel
theorem dX6_vote_5 : decode cX6_vote 5 = .ok (.pop, 1) := by decide +kernel
theorem dX6_vote_6 : decode cX6_vote 6 = .ok (.aload_n 0, 1) := by decide +kernel
theorem dX6_vote_7 : decode cX6_vote 7 = .ok (.iload_n 2, 1) := by decide +kernel
theorem dX6_vote_8 : decode cX6_vote 8 = .ok (.invokevirtual 219, 3) := by decide +kernel
theorem dX6_vote_11 : decode cX6_vote 11 = .ok (.astore 4, 2) := by decide +kernel
theorem dX6_vote_13 : decode cX6_vote 13 = .ok (.iload_n 3, 1) := by decide +kernel
theorem dX6_vote_14 : decode cX6_vote 14 = .ok (.iconst 1, 1) := by decide +kernel
theorem dX6_vote_15 : decode cX6_vote 15 = .ok (.if_icmp .lt 8, 3) := by decide +kernel
theorem dX6_vote_18 : decode cX6_vote 18 = .ok (.iload_n 3, 1) := by decide +kernel
theorem dX6_vote_19 : decode cX6_vote 19 = .ok (.iconst 5, 1) := by decide +kernel
theorem dX6_vote_20 : decode cX6_vote 20 = .ok (.if_icmp .le 14, 3) := by decide +kernel
theorem dX6_vote_23 : decode cX6_vote 23 = .ok (.new 92, 3) := by decide +kernel
theorem dX6_vote_26 : decode cX6_vote 26 = .ok (.dup, 1) := by decide +kernel
theorem dX6_vote_27 : decode cX6_vote 27 = .ok (.ldc_w 287, 3) := by decide +kernel
theorem dX6_vote_30 : decode cX6_vote 30 = .ok (.invokespecial 96, 3) := by decide +kernel
theorem dX6_vote_33 : decode cX6_vote 33 = .ok (.athrow, 1) := by decide +kernel
theorem dX6_vote_34 : decode cX6_vote 34 = .ok (.iload_n 1, 1) := by decide +kernel
theorem dX6_vote_35 : decode cX6_vote 35 = .ok (.aload 4, 2) := by decide +kernel
theorem dX6_vote_37 : decode cX6_vote 37 = .ok (.invokestatic 289, 3) := by decide +kernel
theorem dX6_vote_40 : decode cX6_vote 40 = .ok (.ifCond .ne 14, 3) := by decide +kernel
theorem dX6_vote_43 : decode cX6_vote 43 = .ok (.new 167, 3) := by decide +kernel
theorem dX6_vote_46 : decode cX6_vote 46 = .ok (.dup, 1) := by decide +kernel
theorem dX6_vote_47 : decode cX6_vote 47 = .ok (.ldc_w 293, 3) := by decide +kernel
theorem dX6_vote_50 : decode cX6_vote 50 = .ok (.invokespecial 171, 3) := by decide +kernel
theorem dX6_vote_53 : decode cX6_vote 53 = .ok (.athrow, 1) := by decide +kernel
theorem dX6_vote_54 : decode cX6_vote 54 = .ok (.aload_n 0, 1) := by decide +kernel
theorem dX6_vote_55 : decode cX6_vote 55 = .ok (.iload_n 1, 1) := by decide +kernel
theorem dX6_vote_56 : decode cX6_vote 56 = .ok (.invokevirtual 295, 3) := by decide +kernel
theorem dX6_vote_59 : decode cX6_vote 59 = .ok (.iconst 1, 1) := by decide +kernel
theorem dX6_vote_60 : decode cX6_vote 60 = .ok (.iadd, 1) := by decide +kernel
theorem dX6_vote_61 : decode cX6_vote 61 = .ok (.istore 5, 2) := by decide +kernel
theorem dX6_vote_63 : decode cX6_vote 63 = .ok (.aload 4, 2) := by decide +kernel
theorem dX6_vote_65 : decode cX6_vote 65 = .ok (.iload_n 1, 1) := by decide +kernel
theorem dX6_vote_66 : decode cX6_vote 66 = .ok (.iload_n 3, 1) := by decide +kernel
theorem dX6_vote_67 : decode cX6_vote 67 = .ok (.iload 5, 2) := by decide +kernel
theorem dX6_vote_69 : decode cX6_vote 69 = .ok (.invokevirtual 298, 3) := by decide +kernel
theorem dX6_vote_72 : decode cX6_vote 72 = .ok (.iload 5, 2) := by decide +kernel
theorem dX6_vote_74 : decode cX6_vote 74 = .ok (.ireturn, 1) := by decide +kernel
theorem dX6_style_0 : decode cX6_style 0 = .ok (.aload_n 0, 1) := by decide +kernel
theorem dX6_style_1 : decode cX6_style 1 = .ok (.iload_n 1, 1) := by decide +kernel
theorem dX6_style_2 : decode cX6_style 2 = .ok (.invokevirtual 219, 3) := by decide +kernel
theorem dX6_style_5 : decode cX6_style 5 = .ok (.astore_n 3, 1) := by decide +kernel
theorem dX6_style_6 : decode cX6_style 6 = .ok (.aload_n 3, 1) := by decide +kernel
theorem dX6_style_7 : decode cX6_style 7 = .ok (.invokevirtual 302, 3) := by decide +kernel
theorem dX6_style_10 : decode cX6_style 10 = .ok (.istore 4, 2) := by decide +kernel
theorem dX6_style_12 : decode cX6_style 12 = .ok (.aload_n 3, 1) := by decide +kernel
theorem dX6_style_13 : decode cX6_style 13 = .ok (.invokevirtual 305, 3) := by decide +kernel
theorem dX6_style_16 : decode cX6_style 16 = .ok (.istore 5, 2) := by decide +kernel
theorem dX6_style_18 : decode cX6_style 18 = .ok (.iload 4, 2) := by decide +kernel
theorem dX6_style_20 : decode cX6_style 20 = .ok (.iload 5, 2) := by decide +kernel
theorem dX6_style_22 : decode cX6_style 22 = .ok (.invokestatic 308, 3) := by decide +kernel
theorem dX6_style_25 : decode cX6_style 25 = .ok (.istore 6, 2) := by decide +kernel
theorem dX6_style_27 : decode cX6_style 27 = .ok (.iload 6, 2) := by decide +kernel
theorem dX6_style_29 : decode cX6_style 29 = .ok (.iconst 1, 1) := by decide +kernel
theorem dX6_style_30 : decode cX6_style 30 = .ok (.if_icmp .ge 6, 3) := by decide +kernel
theorem dX6_style_33 : decode cX6_style 33 = .ok (.iconst 1, 1) := by decide +kernel
theorem dX6_style_34 : decode cX6_style 34 = .ok (.istore 6, 2) := by decide +kernel
theorem dX6_style_36 : decode cX6_style 36 = .ok (.iload_n 2, 1) := by decide +kernel
theorem dX6_style_37 : decode cX6_style 37 = .ok (.ifCond .eq 12, 3) := by decide +kernel
theorem dX6_style_40 : decode cX6_style 40 = .ok (.iload 5, 2) := by decide +kernel
theorem dX6_style_42 : decode cX6_style 42 = .ok (.iload 6, 2) := by decide +kernel
theorem dX6_style_44 : decode cX6_style 44 = .ok (.idiv, 1) := by decide +kernel
theorem dX6_style_45 : decode cX6_style 45 = .ok (.i2l, 1) := by decide +kernel
theorem dX6_style_46 : decode cX6_style 46 = .ok (.goto 9, 3) := by decide +kernel
theorem dX6_style_49 : decode cX6_style 49 = .ok (.iload 4, 2) := by decide +kernel
theorem dX6_style_51 : decode cX6_style 51 = .ok (.iload 6, 2) := by decide +kernel
theorem dX6_style_53 : decode cX6_style 53 = .ok (.idiv, 1) := by decide +kernel
theorem dX6_style_54 : decode cX6_style 54 = .ok (.i2l, 1) := by decide +kernel
theorem dX6_style_55 : decode cX6_style 55 = .ok (.lreturn, 1) := by decide +kernel
theorem dX6_review_0 : decode cX6_review 0 = .ok (.aload_n 0, 1) := by decide +kernel
theorem dX6_review_1 : decode cX6_review 1 = .ok (.iload_n 1, 1) := by decide +kernel
theorem dX6_review_2 : decode cX6_review 2 = .ok (.invokevirtual 199, 3) := by decide +kernel
theorem dX6_review_5 : decode cX6_review 5 = .ok (.pop, 1) := by decide +kernel
theorem dX6_review_6 : decode cX6_review 6 = .ok (.iconst (-1), 1) := by decide +kernel
theorem dX6_review_7 : decode cX6_review 7 = .ok (.istore_n 2, 1) := by decide +kernel
theorem dX6_review_8 : decode cX6_review 8 = .ok (.iconst 0, 1) := by decide +kernel
theorem dX6_review_9 : decode cX6_review 9 = .ok (.istore_n 3, 1) := by decide +kernel
theorem dX6_review_10 : decode cX6_review 10 = .ok (.iload_n 3, 1) := by decide +kernel
theorem dX6_review_11 : decode cX6_review 11 = .ok (.aload_n 0, 1) := by decide +kernel
theorem dX6_review_12 : decode cX6_review 12 = .ok (.getfield 65, 3) := by decide +kernel
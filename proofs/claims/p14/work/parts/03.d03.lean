theorem dX6_submit_60 : decode cX6_submit 60 = .ok (.getfield 10, 3) := by decide +kernel
theorem dX6_submit_63 : decode cX6_submit 63 = .ok (.aload_n 3, 1) := by decide +kernel
theorem dX6_submit_64 : decode cX6_submit 64 = .ok (.invokevirtual 207, 3) := by decide +kernel
theorem dX6_submit_67 : decode cX6_submit 67 = .ok (.ifCond .ne 5, 3) := by decide +kernel
theorem dX6_submit_70 : decode cX6_submit 70 = .ok (.iconst (-1), 1) := by decide +kernel
theorem dX6_submit_71 : decode cX6_submit 71 = .ok (.ireturn, 1) := by decide +kernel
theorem dX6_submit_72 : decode cX6_submit 72 = .ok (.aload_n 0, 1) := by decide +kernel
theorem dX6_submit_73 : decode cX6_submit 73 = .ok (.getfield 65, 3) := by decide +kernel
theorem dX6_submit_76 : decode cX6_submit 76 = .ok (.istore 4, 2) := by decide +kernel
theorem dX6_submit_78 : decode cX6_submit 78 = .ok (.aload_n 0, 1) := by decide +kernel
theorem dX6_submit_79 : decode cX6_submit 79 = .ok (.dup, 1) := by decide +kernel
theorem dX6_submit_80 : decode cX6_submit 80 = .ok (.getfield 65, 3) := by decide +kernel
theorem dX6_submit_83 : decode cX6_submit 83 = .ok (.iconst 1, 1) := by decide +kernel
theorem dX6_submit_84 : decode cX6_submit 84 = .ok (.iadd, 1) := by decide +kernel
theorem dX6_submit_85 : decode cX6_submit 85 = .ok (.putfield 65, 3) := by decide +kernel
theorem dX6_submit_88 : decode cX6_submit 88 = .ok (.aload_n 0, 1) := by decide +kernel
theorem dX6_submit_89 : decode cX6_submit 89 = .ok (.getfield 37, 3) := by decide +kernel
theorem dX6_submit_92 : decode cX6_submit 92 = .ok (.iload 4, 2) := by decide +kernel
theorem dX6_submit_94 : decode cX6_submit 94 = .ok (.aaload, 1) := by decide +kernel
theorem dX6_submit_95 : decode cX6_submit 95 = .ok (.iload_n 1, 1) := by decide +kernel
theorem dX6_submit_96 : decode cX6_submit 96 = .ok (.iload_n 2, 1) := by decide +kernel
theorem dX6_submit_97 : decode cX6_submit 97 = .ok (.aload_n 0, 1) := by decide +kernel
theorem dX6_submit_98 : decode cX6_submit 98 = .ok (.getfield 10, 3) := by decide +kernel
theorem dX6_submit_101 : decode cX6_submit 101 = .ok (.invokevirtual 211, 3) := by decide +kernel
theorem dX6_submit_104 : decode cX6_submit 104 = .ok (.aload_n 0, 1) := by decide +kernel
theorem dX6_submit_105 : decode cX6_submit 105 = .ok (.invokevirtual 215, 3) := by decide +kernel
theorem dX6_submit_108 : decode cX6_submit 108 = .ok (.pop, 1) := by decide +kernel
theorem dX6_submit_109 : decode cX6_submit 109 = .ok (.iload 4, 2) := by decide +kernel
theorem dX6_submit_111 : decode cX6_submit 111 = .ok (.ireturn, 1) := by decide +kernel
theorem dX6_works_0 : decode cX6_works 0 = .ok (.aload_n 0, 1) := by decide +kernel
theorem dX6_works_1 : decode cX6_works 1 = .ok (.getfield 65, 3) := by decide +kernel
theorem dX6_works_4 : decode cX6_works 4 = .ok (.ireturn, 1) := by decide +kernel
theorem dX6_of_0 : decode cX6_of 0 = .ok (.aload_n 0, 1) := by decide +kernel
theorem dX6_of_1 : decode cX6_of 1 = .ok (.iload_n 1, 1) := by decide +kernel
theorem dX6_of_2 : decode cX6_of 2 = .ok (.invokevirtual 219, 3) := by decide +kernel
theorem dX6_of_5 : decode cX6_of 5 = .ok (.astore_n 3, 1) := by decide +kernel
theorem dX6_of_6 : decode cX6_of 6 = .ok (.iload_n 2, 1) := by decide +kernel
theorem dX6_of_7 : decode cX6_of 7 = .ok (.tableswitch 90 107 119 #[70, 90, 65, 75, 90, 90, 90, 90, 90, 90, 90, 80, 85], 65) := by decide +kernel
theorem dX6_of_72 : decode cX6_of 72 = .ok (.aload_n 3, 1) := by decide +kernel
theorem dX6_of_73 : decode cX6_of 73 = .ok (.getfield 223, 3) := by decide +kernel
theorem dX6_of_76 : decode cX6_of 76 = .ok (.ireturn, 1) := by decide +kernel
theorem dX6_of_77 : decode cX6_of 77 = .ok (.aload_n 3, 1) := by decide +kernel
theorem dX6_of_78 : decode cX6_of 78 = .ok (.getfield 226, 3) := by decide +kernel
theorem dX6_of_81 : decode cX6_of 81 = .ok (.ireturn, 1) := by decide +kernel
theorem dX6_of_82 : decode cX6_of 82 = .ok (.aload_n 3, 1) := by decide +kernel
theorem dX6_of_83 : decode cX6_of 83 = .ok (.getfield 229, 3) := by decide +kernel
theorem dX6_of_86 : decode cX6_of 86 = .ok (.ireturn, 1) := by decide +kernel
theorem dX6_of_87 : decode cX6_of 87 = .ok (.aload_n 3, 1) := by decide +kernel
theorem dX6_of_88 : decode cX6_of 88 = .ok (.getfield 230, 3) := by decide +kernel
theorem dX6_of_91 : decode cX6_of 91 = .ok (.ireturn, 1) := by decide +kernel
theorem dX6_of_92 : decode cX6_of 92 = .ok (.aload_n 3, 1) := by decide +kernel
theorem dX6_of_93 : decode cX6_of 93 = .ok (.getfield 233, 3) := by decide +kernel
theorem dX6_of_96 : decode cX6_of 96 = .ok (.ireturn, 1) := by decide +kernel
theorem dX6_of_97 : decode cX6_of 97 = .ok (.new 92, 3) := by decide +kernel
theorem dX6_of_100 : decode cX6_of 100 = .ok (.dup, 1) := by decide +kernel
theorem dX6_of_101 : decode cX6_of 101 = .ok (.ldc 236, 2) := by decide +kernel
theorem dX6_of_103 : decode cX6_of 103 = .ok (.invokespecial 96, 3) := by decide +kernel
theorem dX6_of_106 : decode cX6_of 106 = .ok (.athrow, 1) := by decide +kernel
theorem dX6_state_0 : decode cX6_state 0 = .ok (.aload_n 0, 1) := by decide +kernel
theorem dX6_state_1 : decode cX6_state 1 = .ok (.iload_n 1, 1) := by decide +kernel
theorem dX6_state_2 : decode cX6_state 2 = .ok (.invokevirtual 219, 3) := by decide +kernel
theorem dX6_state_5 : decode cX6_state 5 = .ok (.getfield 238, 3) := by decide +kernel
theorem dX6_state_8 : decode cX6_state 8 = .ok (.ireturn, 1) := by decide +kernel
theorem dX6_sum_0 : decode cX6_sum 0 = .ok (.aload_n 0, 1) := by decide +kernel
theorem dX6_sum_1 : decode cX6_sum 1 = .ok (.iload_n 1, 1) := by decide +kernel
theorem dX6_sum_2 : decode cX6_sum 2 = .ok (.invokevirtual 219, 3) := by decide +kernel
theorem dX6_sum_5 : decode cX6_sum 5 = .ok (.getfield 242, 3) := by decide +kernel
theorem dX6_sum_8 : decode cX6_sum 8 = .ok (.lreturn, 1) := by decide +kernel
theorem dX6_steps_0 : decode cX6_steps 0 = .ok (.aload_n 0, 1) := by decide +kernel
theorem dX6_steps_1 : decode cX6_steps 1 = .ok (.iload_n 1, 1) := by decide +kernel
theorem dX6_steps_2 : decode cX6_steps 2 = .ok (.invokevirtual 219, 3) := by decide +kernel
theorem dX6_steps_5 : decode cX6_steps 5 = .ok (.astore_n 3, 1) := by decide +kernel
theorem dX6_steps_6 : decode cX6_steps 6 = .ok (.aload_n 0, 1) := by decide +kernel
theorem dX6_steps_7 : decode cX6_steps 7 = .ok (.aload_n 0, 1) := by decide +kernel
theorem dX6_steps_8 : decode cX6_steps 8 = .ok (.getfield 25, 3) := by decide +kernel
theorem dX6_steps_11 : decode cX6_steps 11 = .ok (.aload_n 3, 1) := by decide +kernel
theorem dX6_steps_12 : decode cX6_steps 12 = .ok (.getfield 226, 3) := by decide +kernel
theorem dX6_steps_15 : decode cX6_steps 15 = .ok (.aaload, 1) := by decide +kernel
theorem dX6_steps_16 : decode cX6_steps 16 = .ok (.iload_n 2, 1) := by decide +kernel
theorem dX6_steps_17 : decode cX6_steps 17 = .ok (.invokevirtual 159, 3) := by decide +kernel
theorem dX6_steps_20 : decode cX6_steps 20 = .ok (.pop, 1) := by decide +kernel
theorem dX6_steps_21 : decode cX6_steps 21 = .ok (.aload_n 0, 1) := by decide +kernel
theorem dX6_steps_22 : decode cX6_steps 22 = .ok (.aload_n 3, 1) := by decide +kernel
theorem dX6_steps_23 : decode cX6_steps 23 = .ok (.iload_n 2, 1) := by decide +kernel
theorem dX6_steps_24 : decode cX6_steps 24 = .ok (.invokevirtual 246, 3) := by decide +kernel
theorem dX6_steps_27 : decode cX6_steps 27 = .ok (.istore 4, 2) := by decide +kernel
theorem dX6_steps_29 : decode cX6_steps 29 = .ok (.iload 4, 2) := by decide +kernel
theorem dX6_steps_31 : decode cX6_steps 31 = .ok (.iconst (-1), 1) := by decide +kernel
theorem dX6_steps_32 : decode cX6_steps 32 = .ok (.if_icmp .ne 13, 3) := by decide +kernel
theorem dX6_steps_35 : decode cX6_steps 35 = .ok (.new 186, 3) := by decide +kernel
theorem dX6_steps_38 : decode cX6_steps 38 = .ok (.dup, 1) := by decide +kernel
theorem dX6_steps_39 : decode cX6_steps 39 = .ok (.ldc 250, 2) := by decide +kernel
theorem dX6_steps_41 : decode cX6_steps 41 = .ok (.invokespecial 190, 3) := by decide +kernel
theorem dX6_steps_44 : decode cX6_steps 44 = .ok (.athrow, 1) := by decide +kernel
theorem dX6_steps_45 : decode cX6_steps 45 = .ok (.iload 4, 2) := by decide +kernel
theorem dX6_steps_47 : decode cX6_steps 47 = .ok (.ireturn, 1) := by decide +kernel
theorem dX6_hasBody_0 : decode cX6_hasBody 0 = .ok (.aload_n 0, 1) := by decide +kernel
theorem dX6_hasBody_1 : decode cX6_hasBody 1 = .ok (.iload_n 1, 1) := by decide +kernel
theorem dX6_hasBody_2 : decode cX6_hasBody 2 = .ok (.invokevirtual 219, 3) := by decide +kernel
theorem dX6_hasBody_5 : decode cX6_hasBody 5 = .ok (.getfield 252, 3) := by decide +kernel
theorem dX6_hasBody_8 : decode cX6_hasBody 8 = .ok (.ireturn, 1) := by decide +kernel
theorem dX6_letter_0 : decode cX6_letter 0 = .ok (.aload_n 0, 1) := by decide +kernel
theorem dX6_letter_1 : decode cX6_letter 1 = .ok (.iload_n 1, 1) := by decide +kernel
theorem dX6_letter_2 : decode cX6_letter 2 = .ok (.invokevirtual 219, 3) := by decide +kernel
theorem dX6_letter_5 : decode cX6_letter 5 = .ok (.astore_n 3, 1) := by decide +kernel
theorem dX6_letter_6 : decode cX6_letter 6 = .ok (.aload_n 3, 1) := by decide +kernel
theorem dX6_letter_7 : decode cX6_letter 7 = .ok (.getfield 252, 3) := by decide +kernel
theorem dX6_letter_10 : decode cX6_letter 10 = .ok (.ifCond .eq 18, 3) := by decide +kernel
theorem dX6_letter_13 : decode cX6_letter 13 = .ok (.iload_n 2, 1) := by decide +kernel
theorem dX6_letter_14 : decode cX6_letter 14 = .ok (.ifCond .lt 14, 3) := by decide +kernel
theorem dX6_letter_17 : decode cX6_letter 17 = .ok (.iload_n 2, 1) := by decide +kernel
theorem dX6_letter_18 : decode cX6_letter 18 = .ok (.aload_n 3, 1) := by decide +kernel
theorem dX6_letter_19 : decode cX6_letter 19 = .ok (.getfield 255, 3) := by decide +kernel
theorem dX6_letter_22 : decode cX6_letter 22 = .ok (.getfield 105, 3) := by decide +kernel
theorem dX6_letter_25 : decode cX6_letter 25 = .ok (.if_icmp .lt 14, 3) := by decide +kernel
theorem dX6_letter_28 : decode cX6_letter 28 = .ok (.new 186, 3) := by decide +kernel
theorem dX6_letter_31 : decode cX6_letter 31 = .ok (.dup, 1) := by decide +kernel
theorem dX6_letter_32 : decode cX6_letter 32 = .ok (.ldc_w 258, 3) := by decide +kernel
theorem dX6_letter_35 : decode cX6_letter 35 = .ok (.invokespecial 190, 3) := by decide +kernel
theorem dX6_letter_38 : decode cX6_letter 38 = .ok (.athrow, 1) := by decide +kernel
theorem dX6_letter_39 : decode cX6_letter 39 = .ok (.aload_n 3, 1) := by decide +kernel
theorem dX6_letter_40 : decode cX6_letter 40 = .ok (.getfield 255, 3) := by decide +kernel
theorem dX6_letter_43 : decode cX6_letter 43 = .ok (.getfield 260, 3) := by decide +kernel
theorem dX6_letter_46 : decode cX6_letter 46 = .ok (.iload_n 2, 1) := by decide +kernel
theorem dX6_letter_47 : decode cX6_letter 47 = .ok (.caload, 1) := by decide +kernel
theorem dX6_letter_48 : decode cX6_letter 48 = .ok (.ireturn, 1) := by decide +kernel
theorem dX6_drop_0 : decode cX6_drop 0 = .ok (.aload_n 0, 1) := by decide +kernel
theorem dX6_drop_1 : decode cX6_drop 1 = .ok (.iload_n 1, 1) := by decide +kernel
theorem dX6_drop_2 : decode cX6_drop 2 = .ok (.invokevirtual 219, 3) := by decide +kernel
theorem dX6_drop_5 : decode cX6_drop 5 = .ok (.astore_n 2, 1) := by decide +kernel
theorem dX6_drop_6 : decode cX6_drop 6 = .ok (.aload_n 2, 1) := by decide +kernel
theorem dX6_drop_7 : decode cX6_drop 7 = .ok (.getfield 252, 3) := by decide +kernel
theorem dX6_drop_10 : decode cX6_drop 10 = .ok (.ifCond .ne 14, 3) := by decide +kernel
theorem dX6_drop_13 : decode cX6_drop 13 = .ok (.new 167, 3) := by decide +kernel
theorem dX6_drop_16 : decode cX6_drop 16 = .ok (.dup, 1) := by decide +kernel
theorem dX6_drop_17 : decode cX6_drop 17 = .ok (.ldc_w 264, 3) := by decide +kernel
theorem dX6_drop_20 : decode cX6_drop 20 = .ok (.invokespecial 171, 3) := by decide +kernel
theorem dX6_drop_23 : decode cX6_drop 23 = .ok (.athrow, 1) := by decide +kernel
theorem dX6_drop_24 : decode cX6_drop 24 = .ok (.aload_n 0, 1) := by decide +kernel
theorem dX6_drop_25 : decode cX6_drop 25 = .ok (.aload_n 2, 1) := by decide +kernel
theorem dX6_drop_26 : decode cX6_drop 26 = .ok (.invokevirtual 266, 3) := by decide +kernel
theorem dX6_drop_29 : decode cX6_drop 29 = .ok (.aload_n 0, 1) := by decide +kernel
theorem dX6_drop_30 : decode cX6_drop 30 = .ok (.invokevirtual 270, 3) := by decide +kernel
theorem dX6_drop_33 : decode cX6_drop 33 = .ok (.ireturn, 1) := by decide +kernel
theorem dX6_capacity_0 : decode cX6_capacity 0 = .ok (.iload_n 1, 1) := by decide +kernel
theorem dX6_capacity_1 : decode cX6_capacity 1 = .ok (.iconst 1, 1) := by decide +kernel
theorem dX6_capacity_2 : decode cX6_capacity 2 = .ok (.if_icmp .lt 9, 3) := by decide +kernel
theorem dX6_capacity_5 : decode cX6_capacity 5 = .ok (.iload_n 1, 1) := by decide +kernel
theorem dX6_capacity_6 : decode cX6_capacity 6 = .ok (.bipush 40, 2) := by decide +kernel
theorem dX6_capacity_8 : decode cX6_capacity 8 = .ok (.if_icmp .le 14, 3) := by decide +kernel
theorem dX6_capacity_11 : decode cX6_capacity 11 = .ok (.new 92, 3) := by decide +kernel
theorem dX6_capacity_14 : decode cX6_capacity 14 = .ok (.dup, 1) := by decide +kernel
theorem dX6_capacity_15 : decode cX6_capacity 15 = .ok (.ldc_w 273, 3) := by decide +kernel
theorem dX6_capacity_18 : decode cX6_capacity 18 = .ok (.invokespecial 96, 3) := by decide +kernel
theorem dX6_capacity_21 : decode cX6_capacity 21 = .ok (.athrow, 1) := by decide +kernel
theorem dX6_capacity_22 : decode cX6_capacity 22 = .ok (.aload_n 0, 1) := by decide +kernel
theorem dX6_capacity_23 : decode cX6_capacity 23 = .ok (.iload_n 1, 1) := by decide +kernel
theorem dX6_capacity_24 : decode cX6_capacity 24 = .ok (.putfield 71, 3) := by decide +kernel
theorem dX6_capacity_27 : decode cX6_capacity 27 = .ok (.aload_n 0, 1) := by decide +kernel
theorem dX6_capacity_28 : decode cX6_capacity 28 = .ok (.invokevirtual 215, 3) := by decide +kernel
theorem dX6_capacity_31 : decode cX6_capacity 31 = .ok (.ireturn, 1) := by decide +kernel
theorem dX6_bodies_0 : decode cX6_bodies 0 = .ok (.aload_n 0, 1) := by decide +kernel
theorem dX6_bodies_1 : decode cX6_bodies 1 = .ok (.invokevirtual 270, 3) := by decide +kernel
theorem dX6_bodies_4 : decode cX6_bodies 4 = .ok (.ireturn, 1) := by decide +kernel
theorem dX6_read_0 : decode cX6_read 0 = .ok (.aload_n 0, 1) := by decide +kernel
theorem dX6_read_1 : decode cX6_read 1 = .ok (.iload_n 1, 1) := by decide +kernel
theorem dX6_read_2 : decode cX6_read 2 = .ok (.invokevirtual 199, 3) := by decide +kernel
theorem dX6_read_5 : decode cX6_read 5 = .ok (.astore_n 3, 1) := by decide +kernel
theorem dX6_read_6 : decode cX6_read 6 = .ok (.aload_n 0, 1) := by decide +kernel
theorem dX6_read_7 : decode cX6_read 7 = .ok (.iload_n 2, 1) := by decide +kernel
theorem dX6_read_8 : decode cX6_read 8 = .ok (.invokevirtual 219, 3) := by decide +kernel
theorem dX6_read_11 : decode cX6_read 11 = .ok (.astore 4, 2) := by decide +kernel
theorem dX6_read_13 : decode cX6_read 13 = .ok (.aload 4, 2) := by decide +kernel
theorem dX6_read_15 : decode cX6_read 15 = .ok (.getfield 252, 3) := by decide +kernel
theorem dX6_read_18 : decode cX6_read 18 = .ok (.ifCond .ne 14, 3) := by decide +kernel
theorem dX6_read_21 : decode cX6_read 21 = .ok (.new 186, 3) := by decide +kernel
theorem dX6_read_24 : decode cX6_read 24 = .ok (.dup, 1) := by decide +kernel
theorem dX6_read_25 : decode cX6_read 25 = .ok (.ldc_w 264, 3) := by decide +kernel
theorem dX6_read_28 : decode cX6_read 28 = .ok (.invokespecial 190, 3) := by decide +kernel
theorem dX6_read_31 : decode cX6_read 31 = .ok (.athrow, 1) := by decide +kernel
theorem dX6_read_32 : decode cX6_read 32 = .ok (.aload_n 3, 1) := by decide +kernel
theorem dX6_read_33 : decode cX6_read 33 = .ok (.iload_n 2, 1) := by decide +kernel
theorem dX6_read_34 : decode cX6_read 34 = .ok (.aload 4, 2) := by decide +kernel
theorem dX6_read_36 : decode cX6_read 36 = .ok (.getfield 255, 3) := by decide +kernel
theorem dX6_read_39 : decode cX6_read 39 = .ok (.invokevirtual 275, 3) := by decide +kernel
theorem dX6_read_42 : decode cX6_read 42 = .ok (.aload_n 3, 1) := by decide +kernel
theorem dX6_read_43 : decode cX6_read 43 = .ok (.getfield 279, 3) := by decide +kernel
theorem dX6_read_46 : decode cX6_read 46 = .ok (.ireturn, 1) := by decide +kernel
theorem dX6_copy_0 : decode cX6_copy 0 = .ok (.aload_n 0, 1) := by decide +kernel
theorem dX6_copy_1 : decode cX6_copy 1 = .ok (.iload_n 1, 1) := by decide +kernel
theorem dX6_copy_2 : decode cX6_copy 2 = .ok (.invokevirtual 199, 3) := by decide +kernel
theorem dX6_copy_5 : decode cX6_copy 5 = .ok (.astore_n 3, 1) := by decide +kernel
theorem dX6_copy_6 : decode cX6_copy 6 = .ok (.iload_n 2, 1) := by decide +kernel
theorem dX6_copy_7 : decode cX6_copy 7 = .ok (.ifCond .lt 11, 3) := by decide +kernel
theorem dX6_copy_10 : decode cX6_copy 10 = .ok (.iload_n 2, 1) := by decide +kernel
theorem dX6_copy_11 : decode cX6_copy 11 = .ok (.aload_n 3, 1) := by decide +kernel
theorem dX6_copy_12 : decode cX6_copy 12 = .ok (.getfield 279, 3) := by decide +kernel
theorem dX6_copy_15 : decode cX6_copy 15 = .ok (.if_icmp .lt 14, 3) := by decide +kernel
theorem dX6_copy_18 : decode cX6_copy 18 = .ok (.new 186, 3) := by decide +kernel
theorem dX6_copy_21 : decode cX6_copy 21 = .ok (.dup, 1) := by decide +kernel
theorem dX6_copy_22 : decode cX6_copy 22 = .ok (.ldc_w 282, 3) := by decide +kernel
theorem dX6_copy_25 : decode cX6_copy 25 = .ok (.invokespecial 190, 3) := by decide +kernel
theorem dX6_copy_28 : decode cX6_copy 28 = .ok (.athrow, 1) := by decide +kernel
theorem dX6_copy_29 : decode cX6_copy 29 = .ok (.aload_n 3, 1) := by decide +kernel
theorem dX6_copy_30 : decode cX6_copy 30 = .ok (.getfield 284, 3) := by decide +kernel
theorem dX6_copy_33 : decode cX6_copy 33 = .ok (.iload_n 2, 1) := by decide +kernel
theorem dX6_copy_34 : decode cX6_copy 34 = .ok (.iaload, 1) := by decide +kernel
theorem dX6_copy_35 : decode cX6_copy 35 = .ok (.ireturn, 1) := by decide +kernel
theorem dX6_vote_0 : decode cX6_vote 0 = .ok (.aload_n 0, 1) := by decide +kernel
theorem dX6_vote_1 : decode cX6_vote 1 = .ok (.iload_n 1, 1) := by decide +kernel
theorem dX6_vote_2 : decode cX6_vote 2 = .ok (.invokevirtual 199, 3) := by decide +kernel
theorem dX6_vote_5 : decode cX6_vote 5 = .ok (.pop, 1) := by decide +kernel
theorem dX6_vote_6 : decode cX6_vote 6 = .ok (.aload_n 0, 1) := by decide +kernel
theorem dX6_vote_7 : decode cX6_vote 7 = .ok (.iload_n 2, 1) := by decide +kernel
theorem dX6_vote_8 : decode cX6_vote 8 = .ok (.invokevirtual 219, 3) := by decide +kernel
theorem dX6_vote_11 : decode cX6_vote 11 = .ok (.astore 4, 2) := by decide +kernel
theorem dX6_vote_13 : decode cX6_vote 13 = .ok (.iload_n 3, 1) := by decide +kernel
theorem dX6_vote_14 : decode cX6_vote 14 = .ok (.iconst 1, 1) := by decide +kernel
theorem dX6_vote_15 : decode cX6_vote 15 = .ok (.if_icmp .lt 8, 3) := by decide +kernel
theorem dX6_vote_18 : decode cX6_vote 18 = .ok (.iload_n 3, 1) := by decide +kernel
theorem dX6_vote_19 : decode cX6_vote 19 = .ok (.iconst 5, 1) := by decide +kernel
theorem dX6_vote_20 : decode cX6_vote 20 = .ok (.if_icmp .le 14, 3) := by decide +kernel
theorem dX6_vote_23 : decode cX6_vote 23 = .ok (.new 92, 3) := by decide +kernel
theorem dX6_vote_26 : decode cX6_vote 26 = .ok (.dup, 1) := by decide +kernel
theorem dX6_vote_27 : decode cX6_vote 27 = .ok (.ldc_w 287, 3) := by decide +kernel
theorem dX6_vote_30 : decode cX6_vote 30 = .ok (.invokespecial 96, 3) := by decide +kernel
theorem dX6_vote_33 : decode cX6_vote 33 = .ok (.athrow, 1) := by decide +kernel
theorem dX6_vote_34 : decode cX6_vote 34 = .ok (.iload_n 1, 1) := by decide +kernel
theorem dX6_vote_35 : decode cX6_vote 35 = .ok (.aload 4, 2) := by decide +kernel
theorem dX6_vote_37 : decode cX6_vote 37 = .ok (.invokestatic 289, 3) := by decide +kernel
theorem dX6_vote_40 : decode cX6_vote 40 = .ok (.ifCond .ne 14, 3) := by decide +kernel
theorem dX6_vote_43 : decode cX6_vote 43 = .ok (.new 167, 3) := by decide +kernel
theorem dX6_vote_46 : decode cX6_vote 46 = .ok (.dup, 1) := by decide +kernel
theorem dX6_vote_47 : decode cX6_vote 47 = .ok (.ldc_w 293, 3) := by decide +kernel
theorem dX6_vote_50 : decode cX6_vote 50 = .ok (.invokespecial 171, 3) := by decide +kernel
theorem dX6_vote_53 : decode cX6_vote 53 = .ok (.athrow, 1) := by decide +kernel
theorem dX6_vote_54 : decode cX6_vote 54 = .ok (.aload_n 0, 1) := by decide +kernel
theorem dX6_vote_55 : decode cX6_vote 55 = .ok (.iload_n 1, 1) := by decide +kernel
theorem dX6_vote_56 : decode cX6_vote 56 = .ok (.invokevirtual 295, 3) := by decide +kernel
theorem dX6_vote_59 : decode cX6_vote 59 = .ok (.iconst 1, 1) := by decide +kernel
theorem dX6_vote_60 : decode cX6_vote 60 = .ok (.iadd, 1) := by decide +kernel
theorem dX6_vote_61 : decode cX6_vote 61 = .ok (.istore 5, 2) := by decide +kernel
theorem dX6_vote_63 : decode cX6_vote 63 = .ok (.aload 4, 2) := by decide +kernel
theorem dX6_vote_65 : decode cX6_vote 65 = .ok (.iload_n 1, 1) := by decide +kernel
theorem dX6_vote_66 : decode cX6_vote 66 = .ok (.iload_n 3, 1) := by decide +kernel
theorem dX6_vote_67 : decode cX6_vote 67 = .ok (.iload 5, 2) := by decide +kernel
theorem dX6_vote_69 : decode cX6_vote 69 = .ok (.invokevirtual 298, 3) := by decide +kernel
theorem dX6_vote_72 : decode cX6_vote 72 = .ok (.iload 5, 2) := by decide +kernel
theorem dX6_vote_74 : decode cX6_vote 74 = .ok (.ireturn, 1) := by decide +kernel
theorem dX6_style_0 : decode cX6_style 0 = .ok (.aload_n 0, 1) := by decide +kernel
theorem dX6_style_1 : decode cX6_style 1 = .ok (.iload_n 1, 1) := by decide +kernel
theorem dX6_style_2 : decode cX6_style 2 = .ok (.invokevirtual 219, 3) := by decide +kernel
theorem dX6_style_5 : decode cX6_style 5 = .ok (.astore_n 3, 1) := by decide +kernel
theorem dX6_style_6 : decode cX6_style 6 = .ok (.aload_n 3, 1) := by decide +kernel
theorem dX6_style_7 : decode cX6_style 7 = .ok (.invokevirtual 302, 3) := by decide +kernel
theorem dX6_style_10 : decode cX6_style 10 = .ok (.istore 4, 2) := by decide +kernel
theorem dX6_style_12 : decode cX6_style 12 = .ok (.aload_n 3, 1) := by decide +kernel
theorem dX6_style_13 : decode cX6_style 13 = .ok (.invokevirtual 305, 3) := by decide +kernel
theorem dX6_style_16 : decode cX6_style 16 = .ok (.istore 5, 2) := by decide +kernel
theorem dX6_style_18 : decode cX6_style 18 = .ok (.iload 4, 2) := by decide +kernel
theorem dX6_style_20 : decode cX6_style 20 = .ok (.iload 5, 2) := by decide +kernel
theorem dX6_style_22 : decode cX6_style 22 = .ok (.invokestatic 308, 3) := by decide +kernel
theorem dX6_style_25 : decode cX6_style 25 = .ok (.istore 6, 2) := by decide +kernel
theorem dX6_style_27 : decode cX6_style 27 = .ok (.iload 6, 2) := by decide +kernel
theorem dX6_style_29 : decode cX6_style 29 = .ok (.iconst 1, 1) := by decide +kernel
theorem dX6_style_30 : decode cX6_style 30 = .ok (.if_icmp .ge 6, 3) := by decide +kernel
theorem dX6_style_33 : decode cX6_style 33 = .ok (.iconst 1, 1) := by decide +kernel
theorem dX6_style_34 : decode cX6_style 34 = .ok (.istore 6, 2) := by decide +kernel
theorem dX6_style_36 : decode cX6_style 36 = .ok (.iload_n 2, 1) := by decide +kernel
theorem dX6_style_37 : decode cX6_style 37 = .ok (.ifCond .eq 12, 3) := by decide +kernel
theorem dX6_style_40 : decode cX6_style 40 = .ok (.iload 5, 2) := by decide +kernel
theorem dX6_style_42 : decode cX6_style 42 = .ok (.iload 6, 2) := by decide +kernel
theorem dX6_style_44 : decode cX6_style 44 = .ok (.idiv, 1) := by decide +kernel
theorem dX6_style_45 : decode cX6_style 45 = .ok (.i2l, 1) := by decide +kernel
theorem dX6_style_46 : decode cX6_style 46 = .ok (.goto 9, 3) := by decide +kernel
theorem dX6_style_49 : decode cX6_style 49 = .ok (.iload 4, 2) := by decide +kernel
theorem dX6_style_51 : decode cX6_style 51 = .ok (.iload 6, 2) := by decide +kernel
theorem dX6_style_53 : decode cX6_style 53 = .ok (.idiv, 1) := by decide +kernel
theorem dX6_style_54 : decode cX6_style 54 = .ok (.i2l, 1) := by decide +kernel
theorem dX6_style_55 : decode cX6_style 55 = .ok (.lreturn, 1) := by decide +kernel
theorem dX6_review_0 : decode cX6_review 0 = .ok (.aload_n 0, 1) := by decide +kernel
theorem dX6_review_1 : decode cX6_review 1 = .ok (.iload_n 1, 1) := by decide +kernel
theorem dX6_review_2 : decode cX6_review 2 = .ok (.invokevirtual 199, 3) := by decide +kernel
theorem dX6_review_5 : decode cX6_review 5 = .ok (.pop, 1) := by decide +kernel
theorem dX6_review_6 : decode cX6_review 6 = .ok (.iconst (-1), 1) := by decide +kernel
theorem dX6_review_7 : decode cX6_review 7 = .ok (.istore_n 2, 1) := by decide +kernel
theorem dX6_review_8 : decode cX6_review 8 = .ok (.iconst 0, 1) := by decide +kernel
theorem dX6_review_9 : decode cX6_review 9 = .ok (.istore_n 3, 1) := by decide +kernel
theorem dX6_review_10 : decode cX6_review 10 = .ok (.iload_n 3, 1) := by decide +kernel
theorem dX6_review_11 : decode cX6_review 11 = .ok (.aload_n 0, 1) := by decide +kernel
theorem dX6_review_12 : decode cX6_review 12 = .ok (.getfield 65, 3) := by decide +kernel
theorem dX6_review_15 : decode cX6_review 15 = .ok (.if_icmp .ge 70, 3) := by decide +kernel
theorem dX6_review_18 : decode cX6_review 18 = .ok (.aload_n 0, 1) := by decide +kernel
theorem dX6_review_19 : decode cX6_review 19 = .ok (.getfield 37, 3) := by decide +kernel
theorem dX6_review_22 : decode cX6_review 22 = .ok (.iload_n 3, 1) := by decide +kernel
theorem dX6_review_23 : decode cX6_review 23 = .ok (.aaload, 1) := by decide +kernel
theorem dX6_review_24 : decode cX6_review 24 = .ok (.astore 4, 2) := by decide +kernel
theorem dX6_review_26 : decode cX6_review 26 = .ok (.iload_n 1, 1) := by decide +kernel
theorem dX6_review_27 : decode cX6_review 27 = .ok (.aload 4, 2) := by decide +kernel
theorem dX6_review_29 : decode cX6_review 29 = .ok (.invokestatic 289, 3) := by decide +kernel
theorem dX6_review_32 : decode cX6_review 32 = .ok (.ifCond .eq 17, 3) := by decide +kernel
theorem dX6_review_35 : decode cX6_review 35 = .ok (.aload 4, 2) := by decide +kernel
theorem dX6_review_37 : decode cX6_review 37 = .ok (.getfield 312, 3) := by decide +kernel
theorem dX6_review_40 : decode cX6_review 40 = .ok (.iload_n 1, 1) := by decide +kernel
theorem dX6_review_41 : decode cX6_review 41 = .ok (.iaload, 1) := by decide +kernel
theorem dX6_review_42 : decode cX6_review 42 = .ok (.ifCond .ne 7, 3) := by decide +kernel
theorem dX6_review_45 : decode cX6_review 45 = .ok (.iconst 1, 1) := by decide +kernel
theorem dX6_review_46 : decode cX6_review 46 = .ok (.goto 4, 3) := by decide +kernel
theorem dX6_review_49 : decode cX6_review 49 = .ok (.iconst 0, 1) := by decide +kernel
theorem dX6_review_50 : decode cX6_review 50 = .ok (.istore 5, 2) := by decide +kernel
theorem dX6_review_52 : decode cX6_review 52 = .ok (.iload 5, 2) := by decide +kernel
theorem dX6_review_54 : decode cX6_review 54 = .ok (.ifCond .eq 25, 3) := by decide +kernel
theorem dX6_review_57 : decode cX6_review 57 = .ok (.iload_n 2, 1) := by decide +kernel
theorem dX6_review_58 : decode cX6_review 58 = .ok (.iconst (-1), 1) := by decide +kernel
theorem dX6_review_59 : decode cX6_review 59 = .ok (.if_icmp .eq 18, 3) := by decide +kernel
theorem dX6_review_62 : decode cX6_review 62 = .ok (.aload_n 0, 1) := by decide +kernel
theorem dX6_review_63 : decode cX6_review 63 = .ok (.aload 4, 2) := by decide +kernel
theorem dX6_review_65 : decode cX6_review 65 = .ok (.aload_n 0, 1) := by decide +kernel
theorem dX6_review_66 : decode cX6_review 66 = .ok (.getfield 37, 3) := by decide +kernel
theorem dX6_review_69 : decode cX6_review 69 = .ok (.iload_n 2, 1) := by decide +kernel
theorem dX6_review_70 : decode cX6_review 70 = .ok (.aaload, 1) := by decide +kernel
theorem dX6_review_71 : decode cX6_review 71 = .ok (.invokevirtual 315, 3) := by decide +kernel
theorem dX6_review_74 : decode cX6_review 74 = .ok (.ifCond .eq 5, 3) := by decide +kernel
theorem dX6_review_77 : decode cX6_review 77 = .ok (.iload_n 3, 1) := by decide +kernel
theorem dX6_review_78 : decode cX6_review 78 = .ok (.istore_n 2, 1) := by decide +kernel
theorem dX6_review_79 : decode cX6_review 79 = .ok (.iinc 3 1, 3) := by decide +kernel
theorem dX6_review_82 : decode cX6_review 82 = .ok (.goto (-72), 3) := by decide +kernel
theorem dX6_review_85 : decode cX6_review 85 = .ok (.iload_n 2, 1) := by decide +kernel
theorem dX6_review_86 : decode cX6_review 86 = .ok (.iconst (-1), 1) := by decide +kernel
theorem dX6_review_87 : decode cX6_review 87 = .ok (.if_icmp .ne 14, 3) := by decide +kernel
theorem dX6_review_90 : decode cX6_review 90 = .ok (.new 186, 3) := by decide +kernel
theorem dX6_review_93 : decode cX6_review 93 = .ok (.dup, 1) := by decide +kernel
theorem dX6_review_94 : decode cX6_review 94 = .ok (.ldc_w 319, 3) := by decide +kernel
theorem dX6_review_97 : decode cX6_review 97 = .ok (.invokespecial 190, 3) := by decide +kernel
theorem dX6_review_100 : decode cX6_review 100 = .ok (.athrow, 1) := by decide +kernel
theorem dX6_review_101 : decode cX6_review 101 = .ok (.iload_n 2, 1) := by decide +kernel
theorem dX6_review_102 : decode cX6_review 102 = .ok (.ireturn, 1) := by decide +kernel
theorem dX6_best_0 : decode cX6_best 0 = .ok (.aload_n 0, 1) := by decide +kernel
theorem dX6_best_1 : decode cX6_best 1 = .ok (.iload_n 1, 1) := by decide +kernel
theorem dX6_best_2 : decode cX6_best 2 = .ok (.invokevirtual 199, 3) := by decide +kernel
theorem dX6_best_5 : decode cX6_best 5 = .ok (.pop, 1) := by decide +kernel
theorem dX6_best_6 : decode cX6_best 6 = .ok (.aload_n 0, 1) := by decide +kernel
theorem dX6_best_7 : decode cX6_best 7 = .ok (.iload_n 2, 1) := by decide +kernel
theorem dX6_best_8 : decode cX6_best 8 = .ok (.invokevirtual 142, 3) := by decide +kernel
theorem dX6_best_11 : decode cX6_best 11 = .ok (.pop, 1) := by decide +kernel
theorem dX6_best_12 : decode cX6_best 12 = .ok (.aload_n 0, 1) := by decide +kernel
theorem dX6_best_13 : decode cX6_best 13 = .ok (.iload_n 1, 1) := by decide +kernel
theorem dX6_best_14 : decode cX6_best 14 = .ok (.invokevirtual 321, 3) := by decide +kernel
theorem dX6_best_17 : decode cX6_best 17 = .ok (.aload_n 0, 1) := by decide +kernel
theorem dX6_best_18 : decode cX6_best 18 = .ok (.getfield 45, 3) := by decide +kernel
theorem dX6_best_21 : decode cX6_best 21 = .ok (.iload_n 2, 1) := by decide +kernel
theorem dX6_best_22 : decode cX6_best 22 = .ok (.iaload, 1) := by decide +kernel
theorem dX6_best_23 : decode cX6_best 23 = .ok (.iconst (-1), 1) := by decide +kernel
theorem dX6_best_24 : decode cX6_best 24 = .ok (.if_icmp .ne 14, 3) := by decide +kernel
theorem dX6_best_27 : decode cX6_best 27 = .ok (.new 186, 3) := by decide +kernel
theorem dX6_best_30 : decode cX6_best 30 = .ok (.dup, 1) := by decide +kernel
theorem dX6_best_31 : decode cX6_best 31 = .ok (.ldc_w 325, 3) := by decide +kernel
theorem dX6_best_34 : decode cX6_best 34 = .ok (.invokespecial 190, 3) := by decide +kernel
theorem dX6_best_37 : decode cX6_best 37 = .ok (.athrow, 1) := by decide +kernel
theorem dX6_best_38 : decode cX6_best 38 = .ok (.aload_n 0, 1) := by decide +kernel
theorem dX6_best_39 : decode cX6_best 39 = .ok (.getfield 45, 3) := by decide +kernel
theorem dX6_best_42 : decode cX6_best 42 = .ok (.iload_n 2, 1) := by decide +kernel
theorem dX6_best_43 : decode cX6_best 43 = .ok (.iaload, 1) := by decide +kernel
theorem dX6_best_44 : decode cX6_best 44 = .ok (.ireturn, 1) := by decide +kernel
theorem dX6_points_0 : decode cX6_points 0 = .ok (.aload_n 0, 1) := by decide +kernel
theorem dX6_points_1 : decode cX6_points 1 = .ok (.iload_n 1, 1) := by decide +kernel
theorem dX6_points_2 : decode cX6_points 2 = .ok (.invokevirtual 199, 3) := by decide +kernel
theorem dX6_points_5 : decode cX6_points 5 = .ok (.pop, 1) := by decide +kernel
theorem dX6_points_6 : decode cX6_points 6 = .ok (.aload_n 0, 1) := by decide +kernel
theorem dX6_points_7 : decode cX6_points 7 = .ok (.iload_n 1, 1) := by decide +kernel
theorem dX6_points_8 : decode cX6_points 8 = .ok (.invokevirtual 327, 3) := by decide +kernel
theorem dX6_points_11 : decode cX6_points 11 = .ok (.freturn, 1) := by decide +kernel
theorem dX6_belt_0 : decode cX6_belt 0 = .ok (.aload_n 0, 1) := by decide +kernel
theorem dX6_belt_1 : decode cX6_belt 1 = .ok (.iload_n 1, 1) := by decide +kernel
theorem dX6_belt_2 : decode cX6_belt 2 = .ok (.invokevirtual 199, 3) := by decide +kernel
theorem dX6_belt_5 : decode cX6_belt 5 = .ok (.pop, 1) := by decide +kernel
theorem dX6_belt_6 : decode cX6_belt 6 = .ok (.aload_n 0, 1) := by decide +kernel
theorem dX6_belt_7 : decode cX6_belt 7 = .ok (.iload_n 1, 1) := by decide +kernel
theorem dX6_belt_8 : decode cX6_belt 8 = .ok (.invokevirtual 295, 3) := by decide +kernel
theorem dX6_belt_11 : decode cX6_belt 11 = .ok (.ireturn, 1) := by decide +kernel
theorem dX6_honour_0 : decode cX6_honour 0 = .ok (.aload_n 0, 1) := by decide +kernel
theorem dX6_honour_1 : decode cX6_honour 1 = .ok (.iload_n 1, 1) := by decide +kernel
theorem dX6_honour_2 : decode cX6_honour 2 = .ok (.invokevirtual 199, 3) := by decide +kernel
theorem dX6_honour_5 : decode cX6_honour 5 = .ok (.getfield 331, 3) := by decide +kernel
theorem dX6_honour_8 : decode cX6_honour 8 = .ok (.ireturn, 1) := by decide +kernel
theorem dX6_ranked_0 : decode cX6_ranked 0 = .ok (.iconst 0, 1) := by decide +kernel
theorem dX6_ranked_1 : decode cX6_ranked 1 = .ok (.istore_n 2, 1) := by decide +kernel
theorem dX6_ranked_2 : decode cX6_ranked 2 = .ok (.iload_n 2, 1) := by decide +kernel
theorem dX6_ranked_3 : decode cX6_ranked 3 = .ok (.aload_n 0, 1) := by decide +kernel
theorem dX6_ranked_4 : decode cX6_ranked 4 = .ok (.getfield 62, 3) := by decide +kernel
theorem dX6_ranked_7 : decode cX6_ranked 7 = .ok (.if_icmp .ge 54, 3) := by decide +kernel
theorem dX6_ranked_10 : decode cX6_ranked 10 = .ok (.iconst 0, 1) := by decide +kernel
theorem dX6_ranked_11 : decode cX6_ranked 11 = .ok (.istore_n 3, 1) := by decide +kernel
theorem dX6_ranked_12 : decode cX6_ranked 12 = .ok (.iconst 0, 1) := by decide +kernel
theorem dX6_ranked_13 : decode cX6_ranked 13 = .ok (.istore 4, 2) := by decide +kernel
theorem dX6_ranked_15 : decode cX6_ranked 15 = .ok (.iload 4, 2) := by decide +kernel
theorem dX6_ranked_17 : decode cX6_ranked 17 = .ok (.aload_n 0, 1) := by decide +kernel
theorem dX6_ranked_18 : decode cX6_ranked 18 = .ok (.getfield 62, 3) := by decide +kernel
theorem dX6_ranked_21 : decode cX6_ranked 21 = .ok (.if_icmp .ge 27, 3) := by decide +kernel
theorem dX6_ranked_24 : decode cX6_ranked 24 = .ok (.iload_n 3, 1) := by decide +kernel
theorem dX6_ranked_25 : decode cX6_ranked 25 = .ok (.aload_n 0, 1) := by decide +kernel
theorem dX6_ranked_26 : decode cX6_ranked 26 = .ok (.iload 4, 2) := by decide +kernel
theorem dX6_ranked_28 : decode cX6_ranked 28 = .ok (.iload_n 2, 1) := by decide +kernel
theorem dX6_ranked_29 : decode cX6_ranked 29 = .ok (.invokevirtual 334, 3) := by decide +kernel
theorem dX6_ranked_32 : decode cX6_ranked 32 = .ok (.ifCond .eq 7, 3) := by decide +kernel
theorem dX6_ranked_35 : decode cX6_ranked 35 = .ok (.iconst 1, 1) := by decide +kernel
theorem dX6_ranked_36 : decode cX6_ranked 36 = .ok (.goto 4, 3) := by decide +kernel
theorem dX6_ranked_39 : decode cX6_ranked 39 = .ok (.iconst 0, 1) := by decide +kernel
theorem dX6_ranked_40 : decode cX6_ranked 40 = .ok (.iadd, 1) := by decide +kernel
theorem dX6_ranked_41 : decode cX6_ranked 41 = .ok (.istore_n 3, 1) := by decide +kernel
theorem dX6_ranked_42 : decode cX6_ranked 42 = .ok (.iinc 4 1, 3) := by decide +kernel
theorem dX6_ranked_45 : decode cX6_ranked 45 = .ok (.goto (-30), 3) := by decide +kernel
theorem dX6_ranked_48 : decode cX6_ranked 48 = .ok (.iload_n 3, 1) := by decide +kernel
theorem dX6_ranked_49 : decode cX6_ranked 49 = .ok (.iload_n 1, 1) := by decide +kernel
theorem dX6_ranked_50 : decode cX6_ranked 50 = .ok (.if_icmp .ne 5, 3) := by decide +kernel
theorem dX6_ranked_53 : decode cX6_ranked 53 = .ok (.iload_n 2, 1) := by decide +kernel
theorem dX6_ranked_54 : decode cX6_ranked 54 = .ok (.ireturn, 1) := by decide +kernel
theorem dX6_ranked_55 : decode cX6_ranked 55 = .ok (.iinc 2 1, 3) := by decide +kernel
theorem dX6_ranked_58 : decode cX6_ranked 58 = .ok (.goto (-56), 3) := by decide +kernel
theorem dX6_ranked_61 : decode cX6_ranked 61 = .ok (.new 186, 3) := by decide +kernel
theorem dX6_ranked_64 : decode cX6_ranked 64 = .ok (.dup, 1) := by decide +kernel
theorem dX6_ranked_65 : decode cX6_ranked 65 = .ok (.ldc_w 338, 3) := by decide +kernel
theorem dX6_ranked_68 : decode cX6_ranked 68 = .ok (.invokespecial 190, 3) := by decide +kernel
theorem dX6_ranked_71 : decode cX6_ranked 71 = .ok (.athrow, 1) := by decide +kernel
theorem dX6_challenge_0 : decode cX6_challenge 0 = .ok (.aload_n 0, 1) := by decide +kernel
theorem dX6_challenge_1 : decode cX6_challenge 1 = .ok (.iload_n 1, 1) := by decide +kernel
theorem dX6_challenge_2 : decode cX6_challenge 2 = .ok (.invokevirtual 199, 3) := by decide +kernel
theorem dX6_challenge_5 : decode cX6_challenge 5 = .ok (.astore_n 3, 1) := by decide +kernel
theorem dX6_challenge_6 : decode cX6_challenge 6 = .ok (.aload_n 0, 1) := by decide +kernel
theorem dX6_challenge_7 : decode cX6_challenge 7 = .ok (.iload_n 2, 1) := by decide +kernel
theorem dX6_challenge_8 : decode cX6_challenge 8 = .ok (.invokevirtual 219, 3) := by decide +kernel
theorem dX6_challenge_11 : decode cX6_challenge 11 = .ok (.astore 4, 2) := by decide +kernel
theorem dX6_challenge_13 : decode cX6_challenge 13 = .ok (.aload 4, 2) := by decide +kernel
theorem dX6_challenge_15 : decode cX6_challenge 15 = .ok (.getfield 223, 3) := by decide +kernel
theorem dX6_challenge_18 : decode cX6_challenge 18 = .ok (.iload_n 1, 1) := by decide +kernel
theorem dX6_challenge_19 : decode cX6_challenge 19 = .ok (.if_icmp .eq 21, 3) := by decide +kernel
theorem dX6_challenge_22 : decode cX6_challenge 22 = .ok (.aload 4, 2) := by decide +kernel
theorem dX6_challenge_24 : decode cX6_challenge 24 = .ok (.getfield 238, 3) := by decide +kernel
theorem dX6_challenge_27 : decode cX6_challenge 27 = .ok (.bipush 112, 2) := by decide +kernel
theorem dX6_challenge_29 : decode cX6_challenge 29 = .ok (.if_icmp .ne 11, 3) := by decide +kernel
theorem dX6_challenge_32 : decode cX6_challenge 32 = .ok (.aload_n 3, 1) := by decide +kernel
theorem dX6_challenge_33 : decode cX6_challenge 33 = .ok (.getfield 331, 3) := by decide +kernel
theorem dX6_challenge_36 : decode cX6_challenge 36 = .ok (.iconst 2, 1) := by decide +kernel
theorem dX6_challenge_37 : decode cX6_challenge 37 = .ok (.if_icmp .ge 14, 3) := by decide +kernel
theorem dX6_challenge_40 : decode cX6_challenge 40 = .ok (.new 167, 3) := by decide +kernel
theorem dX6_challenge_43 : decode cX6_challenge 43 = .ok (.dup, 1) := by decide +kernel
theorem dX6_challenge_44 : decode cX6_challenge 44 = .ok (.ldc_w 340, 3) := by decide +kernel
theorem dX6_challenge_47 : decode cX6_challenge 47 = .ok (.invokespecial 171, 3) := by decide +kernel
theorem dX6_challenge_50 : decode cX6_challenge 50 = .ok (.athrow, 1) := by decide +kernel
theorem dX6_challenge_51 : decode cX6_challenge 51 = .ok (.aload_n 0, 1) := by decide +kernel
theorem dX6_challenge_52 : decode cX6_challenge 52 = .ok (.getfield 68, 3) := by decide +kernel
theorem dX6_challenge_55 : decode cX6_challenge 55 = .ok (.bipush 8, 2) := by decide +kernel
theorem dX6_challenge_57 : decode cX6_challenge 57 = .ok (.if_icmp .lt 14, 3) := by decide +kernel
theorem dX6_challenge_60 : decode cX6_challenge 60 = .ok (.new 108, 3) := by decide +kernel
theorem dX6_challenge_63 : decode cX6_challenge 63 = .ok (.dup, 1) := by decide +kernel
theorem dX6_challenge_64 : decode cX6_challenge 64 = .ok (.ldc_w 342, 3) := by decide +kernel
theorem dX6_challenge_67 : decode cX6_challenge 67 = .ok (.invokespecial 112, 3) := by decide +kernel
theorem dX6_challenge_70 : decode cX6_challenge 70 = .ok (.athrow, 1) := by decide +kernel
theorem dX6_challenge_71 : decode cX6_challenge 71 = .ok (.aload_n 3, 1) := by decide +kernel
theorem dX6_challenge_72 : decode cX6_challenge 72 = .ok (.dup, 1) := by decide +kernel
theorem dX6_challenge_73 : decode cX6_challenge 73 = .ok (.getfield 331, 3) := by decide +kernel
theorem dX6_challenge_76 : decode cX6_challenge 76 = .ok (.iconst 2, 1) := by decide +kernel
theorem dX6_challenge_77 : decode cX6_challenge 77 = .ok (.isub, 1) := by decide +kernel
theorem dX6_challenge_78 : decode cX6_challenge 78 = .ok (.putfield 331, 3) := by decide +kernel
theorem dX6_challenge_81 : decode cX6_challenge 81 = .ok (.aload 4, 2) := by decide +kernel
theorem dX6_challenge_83 : decode cX6_challenge 83 = .ok (.bipush 99, 2) := by decide +kernel
theorem dX6_challenge_85 : decode cX6_challenge 85 = .ok (.putfield 238, 3) := by decide +kernel
theorem dX6_challenge_88 : decode cX6_challenge 88 = .ok (.aload 4, 2) := by decide +kernel
theorem dX6_challenge_90 : decode cX6_challenge 90 = .ok (.iload_n 1, 1) := by decide +kernel
theorem dX6_challenge_91 : decode cX6_challenge 91 = .ok (.putfield 344, 3) := by decide +kernel
theorem dX6_challenge_94 : decode cX6_challenge 94 = .ok (.aload 4, 2) := by decide +kernel
theorem dX6_challenge_96 : decode cX6_challenge 96 = .ok (.bipush 7, 2) := by decide +kernel
theorem dX6_challenge_98 : decode cX6_challenge 98 = .ok (.putfield 347, 3) := by decide +kernel
theorem dX6_challenge_101 : decode cX6_challenge 101 = .ok (.aload_n 0, 1) := by decide +kernel
theorem dX6_challenge_102 : decode cX6_challenge 102 = .ok (.getfield 41, 3) := by decide +kernel
theorem dX6_challenge_105 : decode cX6_challenge 105 = .ok (.aload_n 0, 1) := by decide +kernel
theorem dX6_challenge_106 : decode cX6_challenge 106 = .ok (.getfield 68, 3) := by decide +kernel
theorem dX6_challenge_109 : decode cX6_challenge 109 = .ok (.iload_n 2, 1) := by decide +kernel
theorem dX6_challenge_110 : decode cX6_challenge 110 = .ok (.iastore, 1) := by decide +kernel
theorem dX6_challenge_111 : decode cX6_challenge 111 = .ok (.aload_n 0, 1) := by decide +kernel
theorem dX6_challenge_112 : decode cX6_challenge 112 = .ok (.dup, 1) := by decide +kernel
theorem dX6_challenge_113 : decode cX6_challenge 113 = .ok (.getfield 68, 3) := by decide +kernel
theorem dX6_challenge_116 : decode cX6_challenge 116 = .ok (.iconst 1, 1) := by decide +kernel
theorem dX6_challenge_117 : decode cX6_challenge 117 = .ok (.iadd, 1) := by decide +kernel
theorem dX6_challenge_118 : decode cX6_challenge 118 = .ok (.putfield 68, 3) := by decide +kernel
theorem dX6_challenge_121 : decode cX6_challenge 121 = .ok (.aload_n 0, 1) := by decide +kernel
theorem dX6_challenge_122 : decode cX6_challenge 122 = .ok (.getfield 68, 3) := by decide +kernel
theorem dX6_challenge_125 : decode cX6_challenge 125 = .ok (.ireturn, 1) := by decide +kernel
theorem dX6_give_0 : decode cX6_give 0 = .ok (.aload_n 0, 1) := by decide +kernel
theorem dX6_give_1 : decode cX6_give 1 = .ok (.iload_n 1, 1) := by decide +kernel
theorem dX6_give_2 : decode cX6_give 2 = .ok (.invokevirtual 199, 3) := by decide +kernel
theorem dX6_give_5 : decode cX6_give 5 = .ok (.astore_n 3, 1) := by decide +kernel
theorem dX6_give_6 : decode cX6_give 6 = .ok (.aload_n 0, 1) := by decide +kernel
theorem dX6_give_7 : decode cX6_give 7 = .ok (.iload_n 2, 1) := by decide +kernel
theorem dX6_give_8 : decode cX6_give 8 = .ok (.invokevirtual 219, 3) := by decide +kernel
theorem dX6_give_11 : decode cX6_give 11 = .ok (.getfield 238, 3) := by decide +kernel
theorem dX6_give_14 : decode cX6_give 14 = .ok (.bipush 99, 2) := by decide +kernel
theorem dX6_give_16 : decode cX6_give 16 = .ok (.if_icmp .eq 14, 3) := by decide +kernel
theorem dX6_give_19 : decode cX6_give 19 = .ok (.new 167, 3) := by decide +kernel
theorem dX6_give_22 : decode cX6_give 22 = .ok (.dup, 1) := by decide +kernel
theorem dX7_run_0 : decode cX7_run 0 = .ok (.aload_n 0, 1) := by decide +kernel
theorem dX7_run_1 : decode cX7_run 1 = .ok (.aload_n 0, 1) := by decide +kernel
theorem dX7_run_2 : decode cX7_run 2 = .ok (.iload_n 1, 1) := by decide +kernel
theorem dX7_run_3 : decode cX7_run 3 = .ok (.iload_n 2, 1) := by decide +kernel
theorem dX7_run_4 : decode cX7_run 4 = .ok (.invokevirtual 208, 3) := by decide +kernel
theorem dX7_run_7 : decode cX7_run 7 = .ok (.ifCond .ne 7, 3) := by decide +kernel
theorem dX7_run_10 : decode cX7_run 10 = .ok (.iconst 1, 1) := by decide +kernel
theorem dX7_run_11 : decode cX7_run 11 = .ok (.goto 17, 3) := by decide +kernel
theorem dX7_run_14 : decode cX7_run 14 = .ok (.aload_n 0, 1) := by decide +kernel
theorem dX7_run_15 : decode cX7_run 15 = .ok (.bipush 40, 2) := by decide +kernel
theorem dX7_run_17 : decode cX7_run 17 = .ok (.invokevirtual 211, 3) := by decide +kernel
theorem dX7_run_20 : decode cX7_run 20 = .ok (.ifCond .ne 7, 3) := by decide +kernel
theorem dX7_run_23 : decode cX7_run 23 = .ok (.iconst 2, 1) := by decide +kernel
theorem dX7_run_24 : decode cX7_run 24 = .ok (.goto 4, 3) := by decide +kernel
theorem dX7_run_27 : decode cX7_run 27 = .ok (.iconst 0, 1) := by decide +kernel
theorem dX7_run_28 : decode cX7_run 28 = .ok (.putfield 37, 3) := by decide +kernel
theorem dX7_run_31 : decode cX7_run 31 = .ok (.aload_n 0, 1) := by decide +kernel
theorem dX7_run_32 : decode cX7_run 32 = .ok (.getfield 37, 3) := by decide +kernel
theorem dX7_run_35 : decode cX7_run 35 = .ok (.ifCond .le 5, 3) := by decide +kernel
theorem dX7_run_38 : decode cX7_run 38 = .ok (.iconst 0, 1) := by decide +kernel
theorem dX7_run_39 : decode cX7_run 39 = .ok (.ireturn, 1) := by decide +kernel
theorem dX7_run_40 : decode cX7_run 40 = .ok (.aload_n 0, 1) := by decide +kernel
theorem dX7_run_41 : decode cX7_run 41 = .ok (.bipush 40, 2) := by decide +kernel
theorem dX7_run_43 : decode cX7_run 43 = .ok (.iconst 5, 1) := by decide +kernel
theorem dX7_run_44 : decode cX7_run 44 = .ok (.iload_n 1, 1) := by decide +kernel
theorem dX7_run_45 : decode cX7_run 45 = .ok (.imul, 1) := by decide +kernel
theorem dX7_run_46 : decode cX7_run 46 = .ok (.iload_n 2, 1) := by decide +kernel
theorem dX7_run_47 : decode cX7_run 47 = .ok (.iadd, 1) := by decide +kernel
theorem dX7_run_48 : decode cX7_run 48 = .ok (.invokevirtual 200, 3) := by decide +kernel
theorem dX7_run_51 : decode cX7_run 51 = .ok (.istore_n 3, 1) := by decide +kernel
theorem dX7_run_52 : decode cX7_run 52 = .ok (.aload_n 0, 1) := by decide +kernel
theorem dX7_run_53 : decode cX7_run 53 = .ok (.iconst 1, 1) := by decide +kernel
theorem dX7_run_54 : decode cX7_run 54 = .ok (.putfield 137, 3) := by decide +kernel
theorem dX7_run_57 : decode cX7_run 57 = .ok (.aload_n 0, 1) := by decide +kernel
theorem dX7_run_58 : decode cX7_run 58 = .ok (.aload_n 0, 1) := by decide +kernel
theorem dX7_run_59 : decode cX7_run 59 = .ok (.getfield 128, 3) := by decide +kernel
theorem dX7_run_62 : decode cX7_run 62 = .ok (.putfield 141, 3) := by decide +kernel
theorem dX7_run_65 : decode cX7_run 65 = .ok (.aload_n 0, 1) := by decide +kernel
theorem dX7_run_66 : decode cX7_run 66 = .ok (.aload_n 0, 1) := by decide +kernel
theorem dX7_run_67 : decode cX7_run 67 = .ok (.getfield 131, 3) := by decide +kernel
theorem dX7_run_70 : decode cX7_run 70 = .ok (.putfield 144, 3) := by decide +kernel
theorem dX7_run_73 : decode cX7_run 73 = .ok (.aload_n 0, 1) := by decide +kernel
theorem dX7_run_74 : decode cX7_run 74 = .ok (.aload_n 0, 1) := by decide +kernel
theorem dX7_run_75 : decode cX7_run 75 = .ok (.getfield 134, 3) := by decide +kernel
theorem dX7_run_78 : decode cX7_run 78 = .ok (.putfield 147, 3) := by decide +kernel
theorem dX7_run_81 : decode cX7_run 81 = .ok (.iconst 0, 1) := by decide +kernel
theorem dX7_run_82 : decode cX7_run 82 = .ok (.istore 4, 2) := by decide +kernel
theorem dX7_run_84 : decode cX7_run 84 = .ok (.iload 4, 2) := by decide +kernel
theorem dX7_run_86 : decode cX7_run 86 = .ok (.aload_n 0, 1) := by decide +kernel
theorem dX7_run_87 : decode cX7_run 87 = .ok (.getfield 131, 3) := by decide +kernel
theorem dX7_run_90 : decode cX7_run 90 = .ok (.if_icmp .ge 23, 3) := by decide +kernel
theorem dX7_run_93 : decode cX7_run 93 = .ok (.aload_n 0, 1) := by decide +kernel
theorem dX7_run_94 : decode cX7_run 94 = .ok (.getfield 150, 3) := by decide +kernel
theorem dX7_run_97 : decode cX7_run 97 = .ok (.iload 4, 2) := by decide +kernel
theorem dX7_run_99 : decode cX7_run 99 = .ok (.aload_n 0, 1) := by decide +kernel
theorem dX7_run_100 : decode cX7_run 100 = .ok (.getfield 125, 3) := by decide +kernel
theorem dX7_run_103 : decode cX7_run 103 = .ok (.iload 4, 2) := by decide +kernel
theorem dX7_run_105 : decode cX7_run 105 = .ok (.iaload, 1) := by decide +kernel
theorem dX7_run_106 : decode cX7_run 106 = .ok (.iastore, 1) := by decide +kernel
theorem dX7_run_107 : decode cX7_run 107 = .ok (.iinc 4 1, 3) := by decide +kernel
theorem dX7_run_110 : decode cX7_run 110 = .ok (.goto (-26), 3) := by decide +kernel
theorem dX7_run_113 : decode cX7_run 113 = .ok (.iload_n 3, 1) := by decide +kernel
theorem dX7_run_114 : decode cX7_run 114 = .ok (.ireturn, 1) := by decide +kernel
theorem dX7_done_0 : decode cX7_done 0 = .ok (.aload_n 0, 1) := by decide +kernel
theorem dX7_done_1 : decode cX7_done 1 = .ok (.getfield 137, 3) := by decide +kernel
theorem dX7_done_4 : decode cX7_done 4 = .ok (.ifCond .eq 14, 3) := by decide +kernel
theorem dX7_done_7 : decode cX7_done 7 = .ok (.aload_n 0, 1) := by decide +kernel
theorem dX7_done_8 : decode cX7_done 8 = .ok (.aload_n 0, 1) := by decide +kernel
theorem dX7_done_9 : decode cX7_done 9 = .ok (.getfield 147, 3) := by decide +kernel
theorem dX7_done_12 : decode cX7_done 12 = .ok (.invokevirtual 169, 3) := by decide +kernel
theorem dX7_done_15 : decode cX7_done 15 = .ok (.goto 8, 3) := by decide +kernel
theorem dX7_done_18 : decode cX7_done 18 = .ok (.aload_n 0, 1) := by decide +kernel
theorem dX7_done_19 : decode cX7_done 19 = .ok (.iconst 1, 1) := by decide +kernel
theorem dX7_done_20 : decode cX7_done 20 = .ok (.invokevirtual 165, 3) := by decide +kernel
theorem dX7_done_23 : decode cX7_done 23 = .ok (.ireturn, 1) := by decide +kernel
theorem dX7_outputs_0 : decode cX7_outputs 0 = .ok (.aload_n 0, 1) := by decide +kernel
theorem dX7_outputs_1 : decode cX7_outputs 1 = .ok (.getfield 137, 3) := by decide +kernel
theorem dX7_outputs_4 : decode cX7_outputs 4 = .ok (.ifCond .eq 14, 3) := by decide +kernel
theorem dX7_outputs_7 : decode cX7_outputs 7 = .ok (.aload_n 0, 1) := by decide +kernel
theorem dX7_outputs_8 : decode cX7_outputs 8 = .ok (.aload_n 0, 1) := by decide +kernel
theorem dX7_outputs_9 : decode cX7_outputs 9 = .ok (.getfield 144, 3) := by decide +kernel
theorem dX7_outputs_12 : decode cX7_outputs 12 = .ok (.invokevirtual 169, 3) := by decide +kernel
theorem dX7_outputs_15 : decode cX7_outputs 15 = .ok (.goto 8, 3) := by decide +kernel
theorem dX7_outputs_18 : decode cX7_outputs 18 = .ok (.aload_n 0, 1) := by decide +kernel
theorem dX7_outputs_19 : decode cX7_outputs 19 = .ok (.iconst 1, 1) := by decide +kernel
theorem dX7_outputs_20 : decode cX7_outputs 20 = .ok (.invokevirtual 165, 3) := by decide +kernel
theorem dX7_outputs_23 : decode cX7_outputs 23 = .ok (.ireturn, 1) := by decide +kernel
theorem dX7_output_0 : decode cX7_output 0 = .ok (.aload_n 0, 1) := by decide +kernel
theorem dX7_output_1 : decode cX7_output 1 = .ok (.getfield 137, 3) := by decide +kernel
theorem dX7_output_4 : decode cX7_output 4 = .ok (.ifCond .eq 30, 3) := by decide +kernel
theorem dX7_output_7 : decode cX7_output 7 = .ok (.iload_n 1, 1) := by decide +kernel
theorem dX7_output_8 : decode cX7_output 8 = .ok (.iconst 0, 1) := by decide +kernel
theorem dX7_output_9 : decode cX7_output 9 = .ok (.aload_n 0, 1) := by decide +kernel
theorem dX7_output_10 : decode cX7_output 10 = .ok (.getfield 144, 3) := by decide +kernel
theorem dX7_output_13 : decode cX7_output 13 = .ok (.iconst 1, 1) := by decide +kernel
theorem dX7_output_14 : decode cX7_output 14 = .ok (.isub, 1) := by decide +kernel
theorem dX7_output_15 : decode cX7_output 15 = .ok (.invokestatic 161, 3) := by decide +kernel
theorem dX7_output_18 : decode cX7_output 18 = .ok (.ifCond .eq 16, 3) := by decide +kernel
theorem dX7_output_21 : decode cX7_output 21 = .ok (.aload_n 0, 1) := by decide +kernel
theorem dX7_output_22 : decode cX7_output 22 = .ok (.aload_n 0, 1) := by decide +kernel
theorem dX7_output_23 : decode cX7_output 23 = .ok (.getfield 150, 3) := by decide +kernel
theorem dX7_output_26 : decode cX7_output 26 = .ok (.iload_n 1, 1) := by decide +kernel
theorem dX7_output_27 : decode cX7_output 27 = .ok (.iaload, 1) := by decide +kernel
theorem dX7_output_28 : decode cX7_output 28 = .ok (.invokevirtual 169, 3) := by decide +kernel
theorem dX7_output_31 : decode cX7_output 31 = .ok (.goto 8, 3) := by decide +kernel
theorem dX7_output_34 : decode cX7_output 34 = .ok (.aload_n 0, 1) := by decide +kernel
theorem dX7_output_35 : decode cX7_output 35 = .ok (.iconst 1, 1) := by decide +kernel
theorem dX7_output_36 : decode cX7_output 36 = .ok (.invokevirtual 165, 3) := by decide +kernel
theorem dX7_output_39 : decode cX7_output 39 = .ok (.ireturn, 1) := by decide +kernel
theorem dX7_depth_0 : decode cX7_depth 0 = .ok (.aload_n 0, 1) := by decide +kernel
theorem dX7_depth_1 : decode cX7_depth 1 = .ok (.getfield 137, 3) := by decide +kernel
theorem dX7_depth_4 : decode cX7_depth 4 = .ok (.ifCond .eq 14, 3) := by decide +kernel
theorem dX7_depth_7 : decode cX7_depth 7 = .ok (.aload_n 0, 1) := by decide +kernel
theorem dX7_depth_8 : decode cX7_depth 8 = .ok (.aload_n 0, 1) := by decide +kernel
theorem dX7_depth_9 : decode cX7_depth 9 = .ok (.getfield 141, 3) := by decide +kernel
theorem dX7_depth_12 : decode cX7_depth 12 = .ok (.invokevirtual 169, 3) := by decide +kernel
theorem dX7_depth_15 : decode cX7_depth 15 = .ok (.goto 8, 3) := by decide +kernel
theorem dX7_depth_18 : decode cX7_depth 18 = .ok (.aload_n 0, 1) := by decide +kernel
theorem dX7_depth_19 : decode cX7_depth 19 = .ok (.iconst 1, 1) := by decide +kernel
theorem dX7_depth_20 : decode cX7_depth 20 = .ok (.invokevirtual 165, 3) := by decide +kernel
theorem dX7_depth_23 : decode cX7_depth 23 = .ok (.ireturn, 1) := by decide +kernel
theorem dX7_isMember_0 : decode cX7_isMember 0 = .ok (.iload_n 1, 1) := by decide +kernel
theorem dX7_isMember_1 : decode cX7_isMember 1 = .ok (.iconst 0, 1) := by decide +kernel
theorem dX7_isMember_2 : decode cX7_isMember 2 = .ok (.aload_n 0, 1) := by decide +kernel
theorem dX7_isMember_3 : decode cX7_isMember 3 = .ok (.getfield 22, 3) := by decide +kernel
theorem dX7_isMember_6 : decode cX7_isMember 6 = .ok (.iconst 1, 1) := by decide +kernel
theorem dX7_isMember_7 : decode cX7_isMember 7 = .ok (.isub, 1) := by decide +kernel
theorem dX7_isMember_8 : decode cX7_isMember 8 = .ok (.invokestatic 161, 3) := by decide +kernel
theorem dX7_isMember_11 : decode cX7_isMember 11 = .ok (.ireturn, 1) := by decide +kernel
theorem dX7_isWork_0 : decode cX7_isWork 0 = .ok (.iload_n 1, 1) := by decide +kernel
theorem dX7_isWork_1 : decode cX7_isWork 1 = .ok (.iconst 0, 1) := by decide +kernel
theorem dX7_isWork_2 : decode cX7_isWork 2 = .ok (.aload_n 0, 1) := by decide +kernel
theorem dX7_isWork_3 : decode cX7_isWork 3 = .ok (.getfield 25, 3) := by decide +kernel
theorem dX7_isWork_6 : decode cX7_isWork 6 = .ok (.iconst 1, 1) := by decide +kernel
theorem dX7_isWork_7 : decode cX7_isWork 7 = .ok (.isub, 1) := by decide +kernel
theorem dX7_isWork_8 : decode cX7_isWork 8 = .ok (.invokestatic 161, 3) := by decide +kernel
theorem dX7_isWork_11 : decode cX7_isWork 11 = .ok (.ireturn, 1) := by decide +kernel
theorem dX7_member_0 : decode cX7_member 0 = .ok (.aload_n 0, 1) := by decide +kernel
theorem dX7_member_1 : decode cX7_member 1 = .ok (.getfield 22, 3) := by decide +kernel
theorem dX7_member_4 : decode cX7_member 4 = .ok (.bipush 10, 2) := by decide +kernel
theorem dX7_member_6 : decode cX7_member 6 = .ok (.if_icmp .ne 9, 3) := by decide +kernel
theorem dX7_member_9 : decode cX7_member 9 = .ok (.aload_n 0, 1) := by decide +kernel
theorem dX7_member_10 : decode cX7_member 10 = .ok (.iconst 1, 1) := by decide +kernel
theorem dX7_member_11 : decode cX7_member 11 = .ok (.invokevirtual 165, 3) := by decide +kernel
theorem dX7_member_14 : decode cX7_member 14 = .ok (.ireturn, 1) := by decide +kernel
theorem dX7_member_15 : decode cX7_member 15 = .ok (.aload_n 0, 1) := by decide +kernel
theorem dX7_member_16 : decode cX7_member 16 = .ok (.getfield 116, 3) := by decide +kernel
theorem dX7_member_19 : decode cX7_member 19 = .ok (.aload_n 0, 1) := by decide +kernel
theorem dX7_member_20 : decode cX7_member 20 = .ok (.getfield 22, 3) := by decide +kernel
theorem dX7_member_23 : decode cX7_member 23 = .ok (.bipush 10, 2) := by decide +kernel
theorem dX7_member_25 : decode cX7_member 25 = .ok (.iastore, 1) := by decide +kernel
theorem dX7_member_26 : decode cX7_member 26 = .ok (.aload_n 0, 1) := by decide +kernel
theorem dX7_member_27 : decode cX7_member 27 = .ok (.dup, 1) := by decide +kernel
theorem dX7_member_28 : decode cX7_member 28 = .ok (.getfield 22, 3) := by decide +kernel
theorem dX7_member_31 : decode cX7_member 31 = .ok (.iconst 1, 1) := by decide +kernel
theorem dX7_member_32 : decode cX7_member 32 = .ok (.iadd, 1) := by decide +kernel
theorem dX7_member_33 : decode cX7_member 33 = .ok (.putfield 22, 3) := by decide +kernel
theorem dX7_member_36 : decode cX7_member 36 = .ok (.aload_n 0, 1) := by decide +kernel
theorem dX7_member_37 : decode cX7_member 37 = .ok (.aload_n 0, 1) := by decide +kernel
theorem dX7_member_38 : decode cX7_member 38 = .ok (.getfield 22, 3) := by decide +kernel
theorem dX7_member_41 : decode cX7_member 41 = .ok (.iconst 1, 1) := by decide +kernel
theorem dX7_member_42 : decode cX7_member 42 = .ok (.isub, 1) := by decide +kernel
theorem dX7_member_43 : decode cX7_member 43 = .ok (.invokevirtual 169, 3) := by decide +kernel
theorem dX7_member_46 : decode cX7_member 46 = .ok (.ireturn, 1) := by decide +kernel
theorem dX7_copies_0 : decode cX7_copies 0 = .ok (.aload_n 0, 1) := by decide +kernel
theorem dX7_copies_1 : decode cX7_copies 1 = .ok (.getfield 48, 3) := by decide +kernel
theorem dX7_copies_4 : decode cX7_copies 4 = .ok (.iload_n 2, 1) := by decide +kernel
theorem dX7_copies_5 : decode cX7_copies 5 = .ok (.aload_n 0, 1) := by decide +kernel
theorem dX7_copies_6 : decode cX7_copies 6 = .ok (.getfield 48, 3) := by decide +kernel
theorem dX7_copies_9 : decode cX7_copies 9 = .ok (.iload_n 1, 1) := by decide +kernel
theorem dX7_copies_10 : decode cX7_copies 10 = .ok (.iaload, 1) := by decide +kernel
theorem dX7_copies_11 : decode cX7_copies 11 = .ok (.iastore, 1) := by decide +kernel
theorem dX7_copies_12 : decode cX7_copies 12 = .ok (.iconst 0, 1) := by decide +kernel
theorem dX7_copies_13 : decode cX7_copies 13 = .ok (.istore_n 3, 1) := by decide +kernel
theorem dX7_copies_14 : decode cX7_copies 14 = .ok (.iload_n 3, 1) := by decide +kernel
theorem dX7_copies_15 : decode cX7_copies 15 = .ok (.aload_n 0, 1) := by decide +kernel
theorem dX7_copies_16 : decode cX7_copies 16 = .ok (.getfield 48, 3) := by decide +kernel
theorem dX7_copies_19 : decode cX7_copies 19 = .ok (.iload_n 1, 1) := by decide +kernel
theorem dX7_copies_20 : decode cX7_copies 20 = .ok (.iaload, 1) := by decide +kernel
theorem dX7_copies_21 : decode cX7_copies 21 = .ok (.if_icmp .ge 53, 3) := by decide +kernel
theorem dX7_copies_24 : decode cX7_copies 24 = .ok (.aload_n 0, 1) := by decide +kernel
theorem dX7_copies_25 : decode cX7_copies 25 = .ok (.getfield 40, 3) := by decide +kernel
theorem dX7_copies_28 : decode cX7_copies 28 = .ok (.bipush 24, 2) := by decide +kernel
theorem dX7_copies_30 : decode cX7_copies 30 = .ok (.iload_n 2, 1) := by decide +kernel
theorem dX7_copies_31 : decode cX7_copies 31 = .ok (.imul, 1) := by decide +kernel
theorem dX7_copies_32 : decode cX7_copies 32 = .ok (.iload_n 3, 1) := by decide +kernel
theorem dX7_copies_33 : decode cX7_copies 33 = .ok (.iadd, 1) := by decide +kernel
theorem dX7_copies_34 : decode cX7_copies 34 = .ok (.aload_n 0, 1) := by decide +kernel
theorem dX7_copies_35 : decode cX7_copies 35 = .ok (.getfield 40, 3) := by decide +kernel
theorem dX7_copies_38 : decode cX7_copies 38 = .ok (.bipush 24, 2) := by decide +kernel
theorem dX7_copies_40 : decode cX7_copies 40 = .ok (.iload_n 1, 1) := by decide +kernel
theorem dX7_copies_41 : decode cX7_copies 41 = .ok (.imul, 1) := by decide +kernel
theorem dX7_copies_42 : decode cX7_copies 42 = .ok (.iload_n 3, 1) := by decide +kernel
theorem dX7_copies_43 : decode cX7_copies 43 = .ok (.iadd, 1) := by decide +kernel
theorem dX7_copies_44 : decode cX7_copies 44 = .ok (.caload, 1) := by decide +kernel
theorem dX7_copies_45 : decode cX7_copies 45 = .ok (.castore, 1) := by decide +kernel
theorem dX7_copies_46 : decode cX7_copies 46 = .ok (.aload_n 0, 1) := by decide +kernel
theorem dX7_copies_47 : decode cX7_copies 47 = .ok (.getfield 44, 3) := by decide +kernel
theorem dX7_copies_50 : decode cX7_copies 50 = .ok (.bipush 24, 2) := by decide +kernel
theorem dX7_copies_52 : decode cX7_copies 52 = .ok (.iload_n 2, 1) := by decide +kernel
theorem dX7_copies_53 : decode cX7_copies 53 = .ok (.imul, 1) := by decide +kernel
theorem dX7_copies_54 : decode cX7_copies 54 = .ok (.iload_n 3, 1) := by decide +kernel
theorem dX7_copies_55 : decode cX7_copies 55 = .ok (.iadd, 1) := by decide +kernel
theorem dX7_copies_56 : decode cX7_copies 56 = .ok (.aload_n 0, 1) := by decide +kernel
theorem dX7_copies_57 : decode cX7_copies 57 = .ok (.getfield 44, 3) := by decide +kernel
theorem dX7_copies_60 : decode cX7_copies 60 = .ok (.bipush 24, 2) := by decide +kernel
theorem dX7_copies_62 : decode cX7_copies 62 = .ok (.iload_n 1, 1) := by decide +kernel
theorem dX7_copies_63 : decode cX7_copies 63 = .ok (.imul, 1) := by decide +kernel
theorem dX7_copies_64 : decode cX7_copies 64 = .ok (.iload_n 3, 1) := by decide +kernel
theorem dX7_copies_65 : decode cX7_copies 65 = .ok (.iadd, 1) := by decide +kernel
theorem dX7_copies_66 : decode cX7_copies 66 = .ok (.iaload, 1) := by decide +kernel
theorem dX7_copies_67 : decode cX7_copies 67 = .ok (.iastore, 1) := by decide +kernel
theorem dX7_copies_68 : decode cX7_copies 68 = .ok (.iinc 3 1, 3) := by decide +kernel
theorem dX7_copies_71 : decode cX7_copies 71 = .ok (.goto (-57), 3) := by decide +kernel
theorem dX7_copies_74 : decode cX7_copies 74 = .ok (.return_, 1) := by decide +kernel
theorem dX7_submit_0 : decode cX7_submit 0 = .ok (.aload_n 0, 1) := by decide +kernel
theorem dX7_submit_1 : decode cX7_submit 1 = .ok (.iload_n 1, 1) := by decide +kernel
theorem dX7_submit_2 : decode cX7_submit 2 = .ok (.invokevirtual 214, 3) := by decide +kernel
theorem dX7_submit_5 : decode cX7_submit 5 = .ok (.ifCond .eq 11, 3) := by decide +kernel
theorem dX7_submit_8 : decode cX7_submit 8 = .ok (.aload_n 0, 1) := by decide +kernel
theorem dX7_submit_9 : decode cX7_submit 9 = .ok (.iload_n 2, 1) := by decide +kernel
theorem dX7_submit_10 : decode cX7_submit 10 = .ok (.invokevirtual 192, 3) := by decide +kernel
theorem dX7_submit_13 : decode cX7_submit 13 = .ok (.ifCond .ne 9, 3) := by decide +kernel
theorem dX7_submit_16 : decode cX7_submit 16 = .ok (.aload_n 0, 1) := by decide +kernel
theorem dX7_submit_17 : decode cX7_submit 17 = .ok (.iconst 1, 1) := by decide +kernel
theorem dX7_submit_18 : decode cX7_submit 18 = .ok (.invokevirtual 165, 3) := by decide +kernel
theorem dX7_submit_21 : decode cX7_submit 21 = .ok (.ireturn, 1) := by decide +kernel
theorem dX7_submit_22 : decode cX7_submit 22 = .ok (.aload_n 0, 1) := by decide +kernel
theorem dX7_submit_23 : decode cX7_submit 23 = .ok (.bipush 40, 2) := by decide +kernel
theorem dX7_submit_25 : decode cX7_submit 25 = .ok (.invokevirtual 211, 3) := by decide +kernel
theorem dX7_submit_28 : decode cX7_submit 28 = .ok (.ifCond .eq 12, 3) := by decide +kernel
theorem dX7_submit_31 : decode cX7_submit 31 = .ok (.aload_n 0, 1) := by decide +kernel
theorem dX7_submit_32 : decode cX7_submit 32 = .ok (.getfield 60, 3) := by decide +kernel
theorem dX7_submit_35 : decode cX7_submit 35 = .ok (.iload_n 2, 1) := by decide +kernel
theorem dX7_submit_36 : decode cX7_submit 36 = .ok (.iaload, 1) := by decide +kernel
theorem dX7_submit_37 : decode cX7_submit 37 = .ok (.ifCond .ne 9, 3) := by decide +kernel
theorem dX7_submit_40 : decode cX7_submit 40 = .ok (.aload_n 0, 1) := by decide +kernel
theorem dX7_submit_41 : decode cX7_submit 41 = .ok (.iconst 2, 1) := by decide +kernel
theorem dX7_submit_42 : decode cX7_submit 42 = .ok (.invokevirtual 165, 3) := by decide +kernel
theorem dX7_submit_45 : decode cX7_submit 45 = .ok (.ireturn, 1) := by decide +kernel
theorem dX7_submit_46 : decode cX7_submit 46 = .ok (.aload_n 0, 1) := by decide +kernel
theorem dX7_submit_47 : decode cX7_submit 47 = .ok (.getfield 25, 3) := by decide +kernel
theorem dX7_submit_50 : decode cX7_submit 50 = .ok (.bipush 40, 2) := by decide +kernel
theorem dX7_submit_52 : decode cX7_submit 52 = .ok (.if_icmp .ne 9, 3) := by decide +kernel
theorem dX7_submit_55 : decode cX7_submit 55 = .ok (.aload_n 0, 1) := by decide +kernel
theorem dX7_submit_56 : decode cX7_submit 56 = .ok (.iconst 3, 1) := by decide +kernel
theorem dX7_submit_57 : decode cX7_submit 57 = .ok (.invokevirtual 165, 3) := by decide +kernel
theorem dX7_submit_60 : decode cX7_submit 60 = .ok (.ireturn, 1) := by decide +kernel
theorem dX7_submit_61 : decode cX7_submit 61 = .ok (.aload_n 0, 1) := by decide +kernel
theorem dX7_submit_62 : decode cX7_submit 62 = .ok (.bipush 40, 2) := by decide +kernel
theorem dX7_submit_64 : decode cX7_submit 64 = .ok (.iload_n 2, 1) := by decide +kernel
theorem dX7_submit_65 : decode cX7_submit 65 = .ok (.invokevirtual 196, 3) := by decide +kernel
theorem dX7_submit_68 : decode cX7_submit 68 = .ok (.ifCond .ne 9, 3) := by decide +kernel
theorem dX7_submit_71 : decode cX7_submit 71 = .ok (.aload_n 0, 1) := by decide +kernel
theorem dX7_submit_72 : decode cX7_submit 72 = .ok (.iconst (-1), 1) := by decide +kernel
theorem dX7_submit_73 : decode cX7_submit 73 = .ok (.invokevirtual 169, 3) := by decide +kernel
theorem dX7_submit_76 : decode cX7_submit 76 = .ok (.ireturn, 1) := by decide +kernel
theorem dX7_submit_77 : decode cX7_submit 77 = .ok (.aload_n 0, 1) := by decide +kernel
theorem dX7_submit_78 : decode cX7_submit 78 = .ok (.getfield 25, 3) := by decide +kernel
theorem dX7_submit_81 : decode cX7_submit 81 = .ok (.istore_n 3, 1) := by decide +kernel
theorem dX7_submit_82 : decode cX7_submit 82 = .ok (.aload_n 0, 1) := by decide +kernel
theorem dX7_submit_83 : decode cX7_submit 83 = .ok (.bipush 40, 2) := by decide +kernel
theorem dX7_submit_85 : decode cX7_submit 85 = .ok (.iload_n 3, 1) := by decide +kernel
theorem dX7_submit_86 : decode cX7_submit 86 = .ok (.invokevirtual 217, 3) := by decide +kernel
theorem dX7_submit_89 : decode cX7_submit 89 = .ok (.aload_n 0, 1) := by decide +kernel
theorem dX7_submit_90 : decode cX7_submit 90 = .ok (.getfield 78, 3) := by decide +kernel
theorem dX7_submit_93 : decode cX7_submit 93 = .ok (.iload_n 3, 1) := by decide +kernel
theorem dX7_submit_94 : decode cX7_submit 94 = .ok (.iload_n 1, 1) := by decide +kernel
theorem dX7_submit_95 : decode cX7_submit 95 = .ok (.iastore, 1) := by decide +kernel
theorem dX7_submit_96 : decode cX7_submit 96 = .ok (.aload_n 0, 1) := by decide +kernel
theorem dX7_submit_97 : decode cX7_submit 97 = .ok (.getfield 81, 3) := by decide +kernel
theorem dX7_submit_100 : decode cX7_submit 100 = .ok (.iload_n 3, 1) := by decide +kernel
theorem dX7_submit_101 : decode cX7_submit 101 = .ok (.iload_n 2, 1) := by decide +kernel
theorem dX7_submit_102 : decode cX7_submit 102 = .ok (.iastore, 1) := by decide +kernel
theorem dX7_submit_103 : decode cX7_submit 103 = .ok (.aload_n 0, 1) := by decide +kernel
theorem dX7_submit_104 : decode cX7_submit 104 = .ok (.getfield 84, 3) := by decide +kernel
theorem dX7_submit_107 : decode cX7_submit 107 = .ok (.iload_n 3, 1) := by decide +kernel
theorem dX7_submit_108 : decode cX7_submit 108 = .ok (.aload_n 0, 1) := by decide +kernel
theorem dX7_submit_109 : decode cX7_submit 109 = .ok (.iload_n 3, 1) := by decide +kernel
theorem dX7_submit_110 : decode cX7_submit 110 = .ok (.invokevirtual 220, 3) := by decide +kernel
theorem dX7_submit_113 : decode cX7_submit 113 = .ok (.lastore, 1) := by decide +kernel
theorem dX7_submit_114 : decode cX7_submit 114 = .ok (.aload_n 0, 1) := by decide +kernel
theorem dX7_submit_115 : decode cX7_submit 115 = .ok (.getfield 88, 3) := by decide +kernel
theorem dX7_submit_118 : decode cX7_submit 118 = .ok (.iload_n 3, 1) := by decide +kernel
theorem dX7_submit_119 : decode cX7_submit 119 = .ok (.bipush 115, 2) := by decide +kernel
theorem dX7_submit_121 : decode cX7_submit 121 = .ok (.castore, 1) := by decide +kernel
theorem dX7_submit_122 : decode cX7_submit 122 = .ok (.aload_n 0, 1) := by decide +kernel
theorem dX7_submit_123 : decode cX7_submit 123 = .ok (.getfield 91, 3) := by decide +kernel
theorem dX7_submit_126 : decode cX7_submit 126 = .ok (.iload_n 3, 1) := by decide +kernel
theorem dX7_submit_127 : decode cX7_submit 127 = .ok (.iconst 1, 1) := by decide +kernel
theorem dX7_submit_128 : decode cX7_submit 128 = .ok (.bastore, 1) := by decide +kernel
theorem dX7_submit_129 : decode cX7_submit 129 = .ok (.aload_n 0, 1) := by decide +kernel
theorem dX7_submit_130 : decode cX7_submit 130 = .ok (.dup, 1) := by decide +kernel
theorem dX7_submit_131 : decode cX7_submit 131 = .ok (.getfield 25, 3) := by decide +kernel
theorem dX7_submit_134 : decode cX7_submit 134 = .ok (.iconst 1, 1) := by decide +kernel
theorem dX7_submit_135 : decode cX7_submit 135 = .ok (.iadd, 1) := by decide +kernel
theorem dX7_submit_136 : decode cX7_submit 136 = .ok (.putfield 25, 3) := by decide +kernel
theorem dX7_submit_139 : decode cX7_submit 139 = .ok (.aload_n 0, 1) := by decide +kernel
theorem dX7_submit_140 : decode cX7_submit 140 = .ok (.invokevirtual 224, 3) := by decide +kernel
theorem dX7_submit_143 : decode cX7_submit 143 = .ok (.istore 4, 2) := by decide +kernel
theorem dX7_submit_145 : decode cX7_submit 145 = .ok (.aload_n 0, 1) := by decide +kernel
theorem dX7_submit_146 : decode cX7_submit 146 = .ok (.iload 4, 2) := by decide +kernel
theorem dX7_submit_148 : decode cX7_submit 148 = .ok (.ifCond .lt 7, 3) := by decide +kernel
theorem dX7_submit_151 : decode cX7_submit 151 = .ok (.iload_n 3, 1) := by decide +kernel
theorem dX7_submit_152 : decode cX7_submit 152 = .ok (.goto 4, 3) := by decide +kernel
theorem dX7_submit_155 : decode cX7_submit 155 = .ok (.iconst (-1), 1) := by decide +kernel
theorem dX7_submit_156 : decode cX7_submit 156 = .ok (.invokevirtual 169, 3) := by decide +kernel
theorem dX7_submit_159 : decode cX7_submit 159 = .ok (.ireturn, 1) := by decide +kernel
theorem dX7_works_0 : decode cX7_works 0 = .ok (.aload_n 0, 1) := by decide +kernel
theorem dX7_works_1 : decode cX7_works 1 = .ok (.aload_n 0, 1) := by decide +kernel
theorem dX7_works_2 : decode cX7_works 2 = .ok (.getfield 25, 3) := by decide +kernel
theorem dX7_works_5 : decode cX7_works 5 = .ok (.invokevirtual 169, 3) := by decide +kernel
theorem dX7_works_8 : decode cX7_works 8 = .ok (.ireturn, 1) := by decide +kernel
theorem dX7_votesOf_0 : decode cX7_votesOf 0 = .ok (.iconst 0, 1) := by decide +kernel
theorem dX7_votesOf_1 : decode cX7_votesOf 1 = .ok (.istore_n 2, 1) := by decide +kernel
theorem dX7_votesOf_2 : decode cX7_votesOf 2 = .ok (.iconst 0, 1) := by decide +kernel
theorem dX7_votesOf_3 : decode cX7_votesOf 3 = .ok (.istore_n 3, 1) := by decide +kernel
theorem dX7_votesOf_4 : decode cX7_votesOf 4 = .ok (.iload_n 3, 1) := by decide +kernel
theorem dX7_votesOf_5 : decode cX7_votesOf 5 = .ok (.bipush 10, 2) := by decide +kernel
theorem dX7_votesOf_7 : decode cX7_votesOf 7 = .ok (.if_icmp .ge 31, 3) := by decide +kernel
theorem dX7_votesOf_10 : decode cX7_votesOf 10 = .ok (.iload_n 2, 1) := by decide +kernel
theorem dX7_votesOf_11 : decode cX7_votesOf 11 = .ok (.aload_n 0, 1) := by decide +kernel
theorem dX7_votesOf_12 : decode cX7_votesOf 12 = .ok (.getfield 101, 3) := by decide +kernel
theorem dX7_votesOf_15 : decode cX7_votesOf 15 = .ok (.bipush 10, 2) := by decide +kernel
theorem dX7_votesOf_17 : decode cX7_votesOf 17 = .ok (.iload_n 1, 1) := by decide +kernel
theorem dX7_votesOf_18 : decode cX7_votesOf 18 = .ok (.imul, 1) := by decide +kernel
theorem dX7_votesOf_19 : decode cX7_votesOf 19 = .ok (.iload_n 3, 1) := by decide +kernel
theorem dX7_votesOf_20 : decode cX7_votesOf 20 = .ok (.iadd, 1) := by decide +kernel
theorem dX7_votesOf_21 : decode cX7_votesOf 21 = .ok (.iaload, 1) := by decide +kernel
theorem dX7_votesOf_22 : decode cX7_votesOf 22 = .ok (.ifCond .le 7, 3) := by decide +kernel
theorem dX7_votesOf_25 : decode cX7_votesOf 25 = .ok (.iconst 1, 1) := by decide +kernel
theorem dX7_votesOf_26 : decode cX7_votesOf 26 = .ok (.goto 4, 3) := by decide +kernel
theorem dX7_votesOf_29 : decode cX7_votesOf 29 = .ok (.iconst 0, 1) := by decide +kernel
theorem dX7_votesOf_30 : decode cX7_votesOf 30 = .ok (.iadd, 1) := by decide +kernel
theorem dX7_votesOf_31 : decode cX7_votesOf 31 = .ok (.istore_n 2, 1) := by decide +kernel
theorem dX7_votesOf_32 : decode cX7_votesOf 32 = .ok (.iinc 3 1, 3) := by decide +kernel
theorem dX7_votesOf_35 : decode cX7_votesOf 35 = .ok (.goto (-31), 3) := by decide +kernel
theorem dX7_votesOf_38 : decode cX7_votesOf 38 = .ok (.iload_n 2, 1) := by decide +kernel
theorem dX7_votesOf_39 : decode cX7_votesOf 39 = .ok (.ireturn, 1) := by decide +kernel
theorem dX7_weightOf_0 : decode cX7_weightOf 0 = .ok (.iconst 0, 1) := by decide +kernel
theorem dX7_weightOf_1 : decode cX7_weightOf 1 = .ok (.istore_n 2, 1) := by decide +kernel
theorem dX7_weightOf_2 : decode cX7_weightOf 2 = .ok (.iconst 0, 1) := by decide +kernel
theorem dX7_weightOf_3 : decode cX7_weightOf 3 = .ok (.istore_n 3, 1) := by decide +kernel
theorem dX7_weightOf_4 : decode cX7_weightOf 4 = .ok (.iload_n 3, 1) := by decide +kernel
theorem dX7_weightOf_5 : decode cX7_weightOf 5 = .ok (.bipush 10, 2) := by decide +kernel
theorem dX7_weightOf_7 : decode cX7_weightOf 7 = .ok (.if_icmp .ge 23, 3) := by decide +kernel
theorem dX7_weightOf_10 : decode cX7_weightOf 10 = .ok (.iload_n 2, 1) := by decide +kernel
theorem dX7_weightOf_11 : decode cX7_weightOf 11 = .ok (.aload_n 0, 1) := by decide +kernel
theorem dX7_weightOf_12 : decode cX7_weightOf 12 = .ok (.getfield 104, 3) := by decide +kernel
theorem dX7_weightOf_15 : decode cX7_weightOf 15 = .ok (.bipush 10, 2) := by decide +kernel
theorem dX7_weightOf_17 : decode cX7_weightOf 17 = .ok (.iload_n 1, 1) := by decide +kernel
theorem dX7_weightOf_18 : decode cX7_weightOf 18 = .ok (.imul, 1) := by decide +kernel
theorem dX7_weightOf_19 : decode cX7_weightOf 19 = .ok (.iload_n 3, 1) := by decide +kernel
theorem dX7_weightOf_20 : decode cX7_weightOf 20 = .ok (.iadd, 1) := by decide +kernel
theorem dX7_weightOf_21 : decode cX7_weightOf 21 = .ok (.iaload, 1) := by decide +kernel
theorem dX7_weightOf_22 : decode cX7_weightOf 22 = .ok (.iadd, 1) := by decide +kernel
theorem dX7_weightOf_23 : decode cX7_weightOf 23 = .ok (.istore_n 2, 1) := by decide +kernel
theorem dX7_weightOf_24 : decode cX7_weightOf 24 = .ok (.iinc 3 1, 3) := by decide +kernel
theorem dX7_weightOf_27 : decode cX7_weightOf 27 = .ok (.goto (-23), 3) := by decide +kernel
theorem dX7_weightOf_30 : decode cX7_weightOf 30 = .ok (.iload_n 2, 1) := by decide +kernel
theorem dX7_weightOf_31 : decode cX7_weightOf 31 = .ok (.ireturn, 1) := by decide +kernel
theorem dX7_weighed_0 : decode cX7_weighed 0 = .ok (.iconst 0, 1) := by decide +kernel
theorem dX7_weighed_1 : decode cX7_weighed 1 = .ok (.istore_n 2, 1) := by decide +kernel
theorem dX7_weighed_2 : decode cX7_weighed 2 = .ok (.iconst 0, 1) := by decide +kernel
theorem dX7_weighed_3 : decode cX7_weighed 3 = .ok (.istore_n 3, 1) := by decide +kernel
theorem dX7_weighed_4 : decode cX7_weighed 4 = .ok (.iload_n 3, 1) := by decide +kernel
theorem dX7_weighed_5 : decode cX7_weighed 5 = .ok (.bipush 10, 2) := by decide +kernel
theorem dX7_weighed_7 : decode cX7_weighed 7 = .ok (.if_icmp .ge 35, 3) := by decide +kernel
theorem dX7_weighed_10 : decode cX7_weighed 10 = .ok (.iload_n 2, 1) := by decide +kernel
theorem dX7_weighed_11 : decode cX7_weighed 11 = .ok (.aload_n 0, 1) := by decide +kernel
theorem dX7_weighed_12 : decode cX7_weighed 12 = .ok (.getfield 104, 3) := by decide +kernel
theorem dX7_weighed_15 : decode cX7_weighed 15 = .ok (.bipush 10, 2) := by decide +kernel
theorem dX7_weighed_17 : decode cX7_weighed 17 = .ok (.iload_n 1, 1) := by decide +kernel
theorem dX7_weighed_18 : decode cX7_weighed 18 = .ok (.imul, 1) := by decide +kernel
theorem dX7_weighed_19 : decode cX7_weighed 19 = .ok (.iload_n 3, 1) := by decide +kernel
theorem dX7_weighed_20 : decode cX7_weighed 20 = .ok (.iadd, 1) := by decide +kernel
theorem dX7_weighed_21 : decode cX7_weighed 21 = .ok (.iaload, 1) := by decide +kernel
theorem dX7_weighed_22 : decode cX7_weighed 22 = .ok (.aload_n 0, 1) := by decide +kernel
theorem dX7_weighed_23 : decode cX7_weighed 23 = .ok (.getfield 101, 3) := by decide +kernel
theorem dX7_weighed_26 : decode cX7_weighed 26 = .ok (.bipush 10, 2) := by decide +kernel
theorem dX7_weighed_28 : decode cX7_weighed 28 = .ok (.iload_n 1, 1) := by decide +kernel
theorem dX7_weighed_29 : decode cX7_weighed 29 = .ok (.imul, 1) := by decide +kernel
theorem dX7_weighed_30 : decode cX7_weighed 30 = .ok (.iload_n 3, 1) := by decide +kernel
theorem dX7_weighed_31 : decode cX7_weighed 31 = .ok (.iadd, 1) := by decide +kernel
theorem dX7_weighed_32 : decode cX7_weighed 32 = .ok (.iaload, 1) := by decide +kernel
theorem dX7_weighed_33 : decode cX7_weighed 33 = .ok (.imul, 1) := by decide +kernel
theorem dX7_weighed_34 : decode cX7_weighed 34 = .ok (.iadd, 1) := by decide +kernel
theorem dX7_weighed_35 : decode cX7_weighed 35 = .ok (.istore_n 2, 1) := by decide +kernel
theorem dX7_weighed_36 : decode cX7_weighed 36 = .ok (.iinc 3 1, 3) := by decide +kernel
theorem dX7_weighed_39 : decode cX7_weighed 39 = .ok (.goto (-35), 3) := by decide +kernel
theorem dX7_weighed_42 : decode cX7_weighed 42 = .ok (.iload_n 2, 1) := by decide +kernel
theorem dX7_weighed_43 : decode cX7_weighed 43 = .ok (.ireturn, 1) := by decide +kernel
theorem dX7_of_0 : decode cX7_of 0 = .ok (.aload_n 0, 1) := by decide +kernel
theorem dX7_of_1 : decode cX7_of 1 = .ok (.iload_n 1, 1) := by decide +kernel
theorem dX7_of_2 : decode cX7_of 2 = .ok (.invokevirtual 227, 3) := by decide +kernel
theorem dX7_of_5 : decode cX7_of 5 = .ok (.ifCond .ne 9, 3) := by decide +kernel
theorem dX7_of_8 : decode cX7_of 8 = .ok (.aload_n 0, 1) := by decide +kernel
theorem dX7_of_9 : decode cX7_of 9 = .ok (.iconst 1, 1) := by decide +kernel
theorem dX7_of_10 : decode cX7_of 10 = .ok (.invokevirtual 165, 3) := by decide +kernel
theorem dX7_of_13 : decode cX7_of 13 = .ok (.ireturn, 1) := by decide +kernel
theorem dX7_of_14 : decode cX7_of 14 = .ok (.iload_n 2, 1) := by decide +kernel
theorem dX7_of_15 : decode cX7_of 15 = .ok (.tableswitch 118 107 119 #[76, 118, 65, 87, 118, 118, 118, 118, 118, 118, 118, 98, 108], 65) := by decide +kernel
theorem dX7_of_80 : decode cX7_of 80 = .ok (.aload_n 0, 1) := by decide +kernel
theorem dX7_of_81 : decode cX7_of 81 = .ok (.aload_n 0, 1) := by decide +kernel
theorem dX7_of_82 : decode cX7_of 82 = .ok (.getfield 78, 3) := by decide +kernel
theorem dX7_of_85 : decode cX7_of 85 = .ok (.iload_n 1, 1) := by decide +kernel
theorem dX7_of_86 : decode cX7_of 86 = .ok (.iaload, 1) := by decide +kernel
theorem dX7_of_87 : decode cX7_of 87 = .ok (.invokevirtual 169, 3) := by decide +kernel
theorem dX7_of_90 : decode cX7_of 90 = .ok (.ireturn, 1) := by decide +kernel
theorem dX7_of_91 : decode cX7_of 91 = .ok (.aload_n 0, 1) := by decide +kernel
theorem dX7_of_92 : decode cX7_of 92 = .ok (.aload_n 0, 1) := by decide +kernel
theorem dX7_of_93 : decode cX7_of 93 = .ok (.getfield 81, 3) := by decide +kernel
theorem dX7_of_96 : decode cX7_of 96 = .ok (.iload_n 1, 1) := by decide +kernel
theorem dX7_of_97 : decode cX7_of 97 = .ok (.iaload, 1) := by decide +kernel
theorem dX7_of_98 : decode cX7_of 98 = .ok (.invokevirtual 169, 3) := by decide +kernel
theorem dX7_of_101 : decode cX7_of 101 = .ok (.ireturn, 1) := by decide +kernel
theorem dX7_of_102 : decode cX7_of 102 = .ok (.aload_n 0, 1) := by decide +kernel
theorem dX7_of_103 : decode cX7_of 103 = .ok (.aload_n 0, 1) := by decide +kernel
theorem dX7_of_104 : decode cX7_of 104 = .ok (.getfield 48, 3) := by decide +kernel
theorem dX7_of_107 : decode cX7_of 107 = .ok (.iload_n 1, 1) := by decide +kernel
theorem dX7_of_108 : decode cX7_of 108 = .ok (.iaload, 1) := by decide +kernel
theorem dX7_of_109 : decode cX7_of 109 = .ok (.invokevirtual 169, 3) := by decide +kernel
theorem dX7_of_112 : decode cX7_of 112 = .ok (.ireturn, 1) := by decide +kernel
theorem dX7_of_113 : decode cX7_of 113 = .ok (.aload_n 0, 1) := by decide +kernel
theorem dX7_of_114 : decode cX7_of 114 = .ok (.aload_n 0, 1) := by decide +kernel
theorem dX7_of_115 : decode cX7_of 115 = .ok (.iload_n 1, 1) := by decide +kernel
theorem dX7_of_116 : decode cX7_of 116 = .ok (.invokevirtual 230, 3) := by decide +kernel
theorem dX7_of_119 : decode cX7_of 119 = .ok (.invokevirtual 169, 3) := by decide +kernel
theorem dX7_of_122 : decode cX7_of 122 = .ok (.ireturn, 1) := by decide +kernel
theorem dX7_of_123 : decode cX7_of 123 = .ok (.aload_n 0, 1) := by decide +kernel
theorem dX7_of_124 : decode cX7_of 124 = .ok (.aload_n 0, 1) := by decide +kernel
theorem dX7_of_125 : decode cX7_of 125 = .ok (.iload_n 1, 1) := by decide +kernel
theorem dX7_of_126 : decode cX7_of 126 = .ok (.invokevirtual 233, 3) := by decide +kernel
theorem dX7_of_129 : decode cX7_of 129 = .ok (.invokevirtual 169, 3) := by decide +kernel
theorem dX7_of_132 : decode cX7_of 132 = .ok (.ireturn, 1) := by decide +kernel
theorem dX7_of_133 : decode cX7_of 133 = .ok (.aload_n 0, 1) := by decide +kernel
theorem dX7_of_134 : decode cX7_of 134 = .ok (.iconst 2, 1) := by decide +kernel
theorem dX7_of_135 : decode cX7_of 135 = .ok (.invokevirtual 165, 3) := by decide +kernel
theorem dX7_of_138 : decode cX7_of 138 = .ok (.ireturn, 1) := by decide +kernel
theorem dX7_state_0 : decode cX7_state 0 = .ok (.aload_n 0, 1) := by decide +kernel
theorem dX7_state_1 : decode cX7_state 1 = .ok (.aload_n 0, 1) := by decide +kernel
theorem dX7_state_2 : decode cX7_state 2 = .ok (.iload_n 1, 1) := by decide +kernel
theorem dX7_state_3 : decode cX7_state 3 = .ok (.invokevirtual 227, 3) := by decide +kernel
theorem dX7_state_6 : decode cX7_state 6 = .ok (.ifCond .eq 7, 3) := by decide +kernel
theorem dX7_state_9 : decode cX7_state 9 = .ok (.iconst 0, 1) := by decide +kernel
theorem dX7_state_10 : decode cX7_state 10 = .ok (.goto 4, 3) := by decide +kernel
theorem dX7_state_13 : decode cX7_state 13 = .ok (.iconst 1, 1) := by decide +kernel
theorem dX7_state_14 : decode cX7_state 14 = .ok (.putfield 37, 3) := by decide +kernel
theorem dX7_state_17 : decode cX7_state 17 = .ok (.aload_n 0, 1) := by decide +kernel
theorem dX7_state_18 : decode cX7_state 18 = .ok (.getfield 37, 3) := by decide +kernel
theorem dX7_state_21 : decode cX7_state 21 = .ok (.ifCond .le 7, 3) := by decide +kernel
theorem dX7_state_24 : decode cX7_state 24 = .ok (.iconst 0, 1) := by decide +kernel
theorem dX7_state_25 : decode cX7_state 25 = .ok (.goto 9, 3) := by decide +kernel
theorem dX7_state_28 : decode cX7_state 28 = .ok (.aload_n 0, 1) := by decide +kernel
theorem dX7_state_29 : decode cX7_state 29 = .ok (.getfield 88, 3) := by decide +kernel
theorem dX7_state_32 : decode cX7_state 32 = .ok (.iload_n 1, 1) := by decide +kernel
theorem dX7_state_33 : decode cX7_state 33 = .ok (.caload, 1) := by decide +kernel
theorem dX7_state_34 : decode cX7_state 34 = .ok (.ireturn, 1) := by decide +kernel
theorem dX7_sum_0 : decode cX7_sum 0 = .ok (.aload_n 0, 1) := by decide +kernel
theorem dX7_sum_1 : decode cX7_sum 1 = .ok (.aload_n 0, 1) := by decide +kernel
theorem dX7_sum_2 : decode cX7_sum 2 = .ok (.iload_n 1, 1) := by decide +kernel
theorem dX7_sum_3 : decode cX7_sum 3 = .ok (.invokevirtual 227, 3) := by decide +kernel
theorem dX7_sum_6 : decode cX7_sum 6 = .ok (.ifCond .eq 7, 3) := by decide +kernel
theorem dX7_sum_9 : decode cX7_sum 9 = .ok (.iconst 0, 1) := by decide +kernel
theorem dX7_sum_10 : decode cX7_sum 10 = .ok (.goto 4, 3) := by decide +kernel
theorem dX7_sum_13 : decode cX7_sum 13 = .ok (.iconst 1, 1) := by decide +kernel
theorem dX7_sum_14 : decode cX7_sum 14 = .ok (.putfield 37, 3) := by decide +kernel
theorem dX7_sum_17 : decode cX7_sum 17 = .ok (.aload_n 0, 1) := by decide +kernel
theorem dX7_sum_18 : decode cX7_sum 18 = .ok (.getfield 37, 3) := by decide +kernel
theorem dX7_sum_21 : decode cX7_sum 21 = .ok (.ifCond .le 7, 3) := by decide +kernel
theorem dX7_sum_24 : decode cX7_sum 24 = .ok (.lconst 0, 1) := by decide +kernel
theorem dX7_sum_25 : decode cX7_sum 25 = .ok (.goto 9, 3) := by decide +kernel
theorem dX7_sum_28 : decode cX7_sum 28 = .ok (.aload_n 0, 1) := by decide +kernel
theorem dX7_sum_29 : decode cX7_sum 29 = .ok (.getfield 84, 3) := by decide +kernel
theorem dX7_sum_32 : decode cX7_sum 32 = .ok (.iload_n 1, 1) := by decide +kernel
theorem dX7_sum_33 : decode cX7_sum 33 = .ok (.laload, 1) := by decide +kernel
theorem dX7_sum_34 : decode cX7_sum 34 = .ok (.lreturn, 1) := by decide +kernel
theorem dX7_stepsOf_0 : decode cX7_stepsOf 0 = .ok (.aload_n 0, 1) := by decide +kernel
theorem dX7_stepsOf_1 : decode cX7_stepsOf 1 = .ok (.getfield 91, 3) := by decide +kernel
theorem dX7_stepsOf_4 : decode cX7_stepsOf 4 = .ok (.iload_n 1, 1) := by decide +kernel
theorem dX7_stepsOf_5 : decode cX7_stepsOf 5 = .ok (.baload, 1) := by decide +kernel
theorem dX7_stepsOf_6 : decode cX7_stepsOf 6 = .ok (.ifCond .ne 14, 3) := by decide +kernel
theorem dX7_stepsOf_9 : decode cX7_stepsOf 9 = .ok (.aload_n 0, 1) := by decide +kernel
theorem dX7_stepsOf_10 : decode cX7_stepsOf 10 = .ok (.getfield 95, 3) := by decide +kernel
theorem dX7_stepsOf_13 : decode cX7_stepsOf 13 = .ok (.iconst 5, 1) := by decide +kernel
theorem dX7_stepsOf_14 : decode cX7_stepsOf 14 = .ok (.iload_n 1, 1) := by decide +kernel
theorem dX7_stepsOf_15 : decode cX7_stepsOf 15 = .ok (.imul, 1) := by decide +kernel
theorem dX7_stepsOf_16 : decode cX7_stepsOf 16 = .ok (.iload_n 2, 1) := by decide +kernel
theorem dX7_stepsOf_17 : decode cX7_stepsOf 17 = .ok (.iadd, 1) := by decide +kernel
theorem dX7_stepsOf_18 : decode cX7_stepsOf 18 = .ok (.iaload, 1) := by decide +kernel
theorem dX7_stepsOf_19 : decode cX7_stepsOf 19 = .ok (.ireturn, 1) := by decide +kernel
theorem dX7_stepsOf_20 : decode cX7_stepsOf 20 = .ok (.aload_n 0, 1) := by decide +kernel
theorem dX7_stepsOf_21 : decode cX7_stepsOf 21 = .ok (.iload_n 1, 1) := by decide +kernel
theorem dX7_stepsOf_22 : decode cX7_stepsOf 22 = .ok (.iconst 5, 1) := by decide +kernel
theorem dX7_stepsOf_23 : decode cX7_stepsOf 23 = .ok (.aload_n 0, 1) := by decide +kernel
theorem dX7_stepsOf_24 : decode cX7_stepsOf 24 = .ok (.getfield 81, 3) := by decide +kernel
theorem dX7_stepsOf_27 : decode cX7_stepsOf 27 = .ok (.iload_n 1, 1) := by decide +kernel
theorem dX7_stepsOf_28 : decode cX7_stepsOf 28 = .ok (.iaload, 1) := by decide +kernel
theorem dX7_stepsOf_29 : decode cX7_stepsOf 29 = .ok (.imul, 1) := by decide +kernel
theorem dX7_stepsOf_30 : decode cX7_stepsOf 30 = .ok (.iload_n 2, 1) := by decide +kernel
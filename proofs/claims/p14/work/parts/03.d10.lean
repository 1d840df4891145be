theorem dX7_stepsOf_31 : decode cX7_stepsOf 31 = .ok (.iadd, 1) := by decide +kernel
theorem dX7_stepsOf_32 : decode cX7_stepsOf 32 = .ok (.invokevirtual 200, 3) := by decide +kernel
theorem dX7_stepsOf_35 : decode cX7_stepsOf 35 = .ok (.istore_n 3, 1) := by decide +kernel
theorem dX7_stepsOf_36 : decode cX7_stepsOf 36 = .ok (.iload_n 3, 1) := by decide +kernel
theorem dX7_stepsOf_37 : decode cX7_stepsOf 37 = .ok (.ifCond .le 10, 3) := by decide +kernel
theorem dX7_stepsOf_40 : decode cX7_stepsOf 40 = .ok (.aload_n 0, 1) := by decide +kernel
theorem dX7_stepsOf_41 : decode cX7_stepsOf 41 = .ok (.getfield 134, 3) := by decide +kernel
theorem dX7_stepsOf_44 : decode cX7_stepsOf 44 = .ok (.goto 4, 3) := by decide +kernel
theorem dX7_stepsOf_47 : decode cX7_stepsOf 47 = .ok (.iconst (-1), 1) := by decide +kernel
theorem dX7_stepsOf_48 : decode cX7_stepsOf 48 = .ok (.ireturn, 1) := by decide +kernel
theorem dX7_steps_0 : decode cX7_steps 0 = .ok (.aload_n 0, 1) := by decide +kernel
theorem dX7_steps_1 : decode cX7_steps 1 = .ok (.iload_n 1, 1) := by decide +kernel
theorem dX7_steps_2 : decode cX7_steps 2 = .ok (.invokevirtual 227, 3) := by decide +kernel
theorem dX7_steps_5 : decode cX7_steps 5 = .ok (.ifCond .eq 17, 3) := by decide +kernel
theorem dX7_steps_8 : decode cX7_steps 8 = .ok (.aload_n 0, 1) := by decide +kernel
theorem dX7_steps_9 : decode cX7_steps 9 = .ok (.aload_n 0, 1) := by decide +kernel
theorem dX7_steps_10 : decode cX7_steps 10 = .ok (.getfield 81, 3) := by decide +kernel
theorem dX7_steps_13 : decode cX7_steps 13 = .ok (.iload_n 1, 1) := by decide +kernel
theorem dX7_steps_14 : decode cX7_steps 14 = .ok (.iaload, 1) := by decide +kernel
theorem dX7_steps_15 : decode cX7_steps 15 = .ok (.iload_n 2, 1) := by decide +kernel
theorem dX7_steps_16 : decode cX7_steps 16 = .ok (.invokevirtual 208, 3) := by decide +kernel
theorem dX7_steps_19 : decode cX7_steps 19 = .ok (.ifCond .ne 9, 3) := by decide +kernel
theorem dX7_steps_22 : decode cX7_steps 22 = .ok (.aload_n 0, 1) := by decide +kernel
theorem dX7_steps_23 : decode cX7_steps 23 = .ok (.iconst 1, 1) := by decide +kernel
theorem dX7_steps_24 : decode cX7_steps 24 = .ok (.invokevirtual 165, 3) := by decide +kernel
theorem dX7_steps_27 : decode cX7_steps 27 = .ok (.ireturn, 1) := by decide +kernel
theorem dX7_steps_28 : decode cX7_steps 28 = .ok (.aload_n 0, 1) := by decide +kernel
theorem dX7_steps_29 : decode cX7_steps 29 = .ok (.iload_n 1, 1) := by decide +kernel
theorem dX7_steps_30 : decode cX7_steps 30 = .ok (.iload_n 2, 1) := by decide +kernel
theorem dX7_steps_31 : decode cX7_steps 31 = .ok (.invokevirtual 236, 3) := by decide +kernel
theorem dX7_steps_34 : decode cX7_steps 34 = .ok (.istore_n 3, 1) := by decide +kernel
theorem dX7_steps_35 : decode cX7_steps 35 = .ok (.iload_n 3, 1) := by decide +kernel
theorem dX7_steps_36 : decode cX7_steps 36 = .ok (.iconst (-1), 1) := by decide +kernel
theorem dX7_steps_37 : decode cX7_steps 37 = .ok (.if_icmp .ne 11, 3) := by decide +kernel
theorem dX7_steps_40 : decode cX7_steps 40 = .ok (.aload_n 0, 1) := by decide +kernel
theorem dX7_steps_41 : decode cX7_steps 41 = .ok (.iconst 2, 1) := by decide +kernel
theorem dX7_steps_42 : decode cX7_steps 42 = .ok (.invokevirtual 165, 3) := by decide +kernel
theorem dX7_steps_45 : decode cX7_steps 45 = .ok (.goto 8, 3) := by decide +kernel
theorem dX7_steps_48 : decode cX7_steps 48 = .ok (.aload_n 0, 1) := by decide +kernel
theorem dX7_steps_49 : decode cX7_steps 49 = .ok (.iload_n 3, 1) := by decide +kernel
theorem dX7_steps_50 : decode cX7_steps 50 = .ok (.invokevirtual 169, 3) := by decide +kernel
theorem dX7_steps_53 : decode cX7_steps 53 = .ok (.ireturn, 1) := by decide +kernel
theorem dX7_hasBody_0 : decode cX7_hasBody 0 = .ok (.aload_n 0, 1) := by decide +kernel
theorem dX7_hasBody_1 : decode cX7_hasBody 1 = .ok (.aload_n 0, 1) := by decide +kernel
theorem dX7_hasBody_2 : decode cX7_hasBody 2 = .ok (.iload_n 1, 1) := by decide +kernel
theorem dX7_hasBody_3 : decode cX7_hasBody 3 = .ok (.invokevirtual 227, 3) := by decide +kernel
theorem dX7_hasBody_6 : decode cX7_hasBody 6 = .ok (.ifCond .eq 7, 3) := by decide +kernel
theorem dX7_hasBody_9 : decode cX7_hasBody 9 = .ok (.iconst 0, 1) := by decide +kernel
theorem dX7_hasBody_10 : decode cX7_hasBody 10 = .ok (.goto 4, 3) := by decide +kernel
theorem dX7_hasBody_13 : decode cX7_hasBody 13 = .ok (.iconst 1, 1) := by decide +kernel
theorem dX7_hasBody_14 : decode cX7_hasBody 14 = .ok (.putfield 37, 3) := by decide +kernel
theorem dX7_hasBody_17 : decode cX7_hasBody 17 = .ok (.aload_n 0, 1) := by decide +kernel
theorem dX7_hasBody_18 : decode cX7_hasBody 18 = .ok (.getfield 37, 3) := by decide +kernel
theorem dX7_hasBody_21 : decode cX7_hasBody 21 = .ok (.ifCond .ne 16, 3) := by decide +kernel
theorem dX7_hasBody_24 : decode cX7_hasBody 24 = .ok (.aload_n 0, 1) := by decide +kernel
theorem dX7_hasBody_25 : decode cX7_hasBody 25 = .ok (.getfield 91, 3) := by decide +kernel
theorem dX7_hasBody_28 : decode cX7_hasBody 28 = .ok (.iload_n 1, 1) := by decide +kernel
theorem dX7_hasBody_29 : decode cX7_hasBody 29 = .ok (.baload, 1) := by decide +kernel
theorem dX7_hasBody_30 : decode cX7_hasBody 30 = .ok (.ifCond .eq 7, 3) := by decide +kernel
theorem dX7_hasBody_33 : decode cX7_hasBody 33 = .ok (.iconst 1, 1) := by decide +kernel
theorem dX7_hasBody_34 : decode cX7_hasBody 34 = .ok (.goto 4, 3) := by decide +kernel
theorem dX7_hasBody_37 : decode cX7_hasBody 37 = .ok (.iconst 0, 1) := by decide +kernel
theorem dX7_hasBody_38 : decode cX7_hasBody 38 = .ok (.ireturn, 1) := by decide +kernel
theorem dX7_letter_0 : decode cX7_letter 0 = .ok (.aload_n 0, 1) := by decide +kernel
theorem dX7_letter_1 : decode cX7_letter 1 = .ok (.aload_n 0, 1) := by decide +kernel
theorem dX7_letter_2 : decode cX7_letter 2 = .ok (.iload_n 1, 1) := by decide +kernel
theorem dX7_letter_3 : decode cX7_letter 3 = .ok (.invokevirtual 227, 3) := by decide +kernel
theorem dX7_letter_6 : decode cX7_letter 6 = .ok (.ifCond .ne 7, 3) := by decide +kernel
theorem dX7_letter_9 : decode cX7_letter 9 = .ok (.iconst 1, 1) := by decide +kernel
theorem dX7_letter_10 : decode cX7_letter 10 = .ok (.goto 33, 3) := by decide +kernel
theorem dX7_letter_13 : decode cX7_letter 13 = .ok (.aload_n 0, 1) := by decide +kernel
theorem dX7_letter_14 : decode cX7_letter 14 = .ok (.getfield 91, 3) := by decide +kernel
theorem dX7_letter_17 : decode cX7_letter 17 = .ok (.iload_n 1, 1) := by decide +kernel
theorem dX7_letter_18 : decode cX7_letter 18 = .ok (.baload, 1) := by decide +kernel
theorem dX7_letter_19 : decode cX7_letter 19 = .ok (.ifCond .eq 19, 3) := by decide +kernel
theorem dX7_letter_22 : decode cX7_letter 22 = .ok (.iload_n 2, 1) := by decide +kernel
theorem dX7_letter_23 : decode cX7_letter 23 = .ok (.iconst 0, 1) := by decide +kernel
theorem dX7_letter_24 : decode cX7_letter 24 = .ok (.aload_n 0, 1) := by decide +kernel
theorem dX7_letter_25 : decode cX7_letter 25 = .ok (.getfield 48, 3) := by decide +kernel
theorem dX7_letter_28 : decode cX7_letter 28 = .ok (.iload_n 1, 1) := by decide +kernel
theorem dX7_letter_29 : decode cX7_letter 29 = .ok (.iaload, 1) := by decide +kernel
theorem dX7_letter_30 : decode cX7_letter 30 = .ok (.iconst 1, 1) := by decide +kernel
theorem dX7_letter_31 : decode cX7_letter 31 = .ok (.isub, 1) := by decide +kernel
theorem dX7_letter_32 : decode cX7_letter 32 = .ok (.invokestatic 161, 3) := by decide +kernel
theorem dX7_letter_35 : decode cX7_letter 35 = .ok (.ifCond .ne 7, 3) := by decide +kernel
theorem dX7_letter_38 : decode cX7_letter 38 = .ok (.iconst 2, 1) := by decide +kernel
theorem dX7_letter_39 : decode cX7_letter 39 = .ok (.goto 4, 3) := by decide +kernel
theorem dX7_letter_42 : decode cX7_letter 42 = .ok (.iconst 0, 1) := by decide +kernel
theorem dX7_letter_43 : decode cX7_letter 43 = .ok (.putfield 37, 3) := by decide +kernel
theorem dX7_letter_46 : decode cX7_letter 46 = .ok (.aload_n 0, 1) := by decide +kernel
theorem dX7_letter_47 : decode cX7_letter 47 = .ok (.getfield 37, 3) := by decide +kernel
theorem dX7_letter_50 : decode cX7_letter 50 = .ok (.ifCond .le 7, 3) := by decide +kernel
theorem dX7_letter_53 : decode cX7_letter 53 = .ok (.iconst 0, 1) := by decide +kernel
theorem dX7_letter_54 : decode cX7_letter 54 = .ok (.goto 14, 3) := by decide +kernel
theorem dX7_letter_57 : decode cX7_letter 57 = .ok (.aload_n 0, 1) := by decide +kernel
theorem dX7_letter_58 : decode cX7_letter 58 = .ok (.getfield 40, 3) := by decide +kernel
theorem dX7_letter_61 : decode cX7_letter 61 = .ok (.bipush 24, 2) := by decide +kernel
theorem dX7_letter_63 : decode cX7_letter 63 = .ok (.iload_n 1, 1) := by decide +kernel
theorem dX7_letter_64 : decode cX7_letter 64 = .ok (.imul, 1) := by decide +kernel
theorem dX7_letter_65 : decode cX7_letter 65 = .ok (.iload_n 2, 1) := by decide +kernel
theorem dX7_letter_66 : decode cX7_letter 66 = .ok (.iadd, 1) := by decide +kernel
theorem dX7_letter_67 : decode cX7_letter 67 = .ok (.caload, 1) := by decide +kernel
theorem dX7_letter_68 : decode cX7_letter 68 = .ok (.ireturn, 1) := by decide +kernel
theorem dX7_bodyCount_0 : decode cX7_bodyCount 0 = .ok (.iconst 0, 1) := by decide +kernel
theorem dX7_bodyCount_1 : decode cX7_bodyCount 1 = .ok (.istore_n 1, 1) := by decide +kernel
theorem dX7_bodyCount_2 : decode cX7_bodyCount 2 = .ok (.iconst 0, 1) := by decide +kernel
theorem dX7_bodyCount_3 : decode cX7_bodyCount 3 = .ok (.istore_n 2, 1) := by decide +kernel
theorem dX7_bodyCount_4 : decode cX7_bodyCount 4 = .ok (.iload_n 2, 1) := by decide +kernel
theorem dX7_bodyCount_5 : decode cX7_bodyCount 5 = .ok (.aload_n 0, 1) := by decide +kernel
theorem dX7_bodyCount_6 : decode cX7_bodyCount 6 = .ok (.getfield 25, 3) := by decide +kernel
theorem dX7_bodyCount_9 : decode cX7_bodyCount 9 = .ok (.if_icmp .ge 26, 3) := by decide +kernel
theorem dX7_bodyCount_12 : decode cX7_bodyCount 12 = .ok (.iload_n 1, 1) := by decide +kernel
theorem dX7_bodyCount_13 : decode cX7_bodyCount 13 = .ok (.aload_n 0, 1) := by decide +kernel
theorem dX7_bodyCount_14 : decode cX7_bodyCount 14 = .ok (.getfield 91, 3) := by decide +kernel
theorem dX7_bodyCount_17 : decode cX7_bodyCount 17 = .ok (.iload_n 2, 1) := by decide +kernel
theorem dX7_bodyCount_18 : decode cX7_bodyCount 18 = .ok (.baload, 1) := by decide +kernel
theorem dX7_bodyCount_19 : decode cX7_bodyCount 19 = .ok (.ifCond .eq 7, 3) := by decide +kernel
theorem dX7_bodyCount_22 : decode cX7_bodyCount 22 = .ok (.iconst 1, 1) := by decide +kernel
theorem dX7_bodyCount_23 : decode cX7_bodyCount 23 = .ok (.goto 4, 3) := by decide +kernel
theorem dX7_bodyCount_26 : decode cX7_bodyCount 26 = .ok (.iconst 0, 1) := by decide +kernel
theorem dX7_bodyCount_27 : decode cX7_bodyCount 27 = .ok (.iadd, 1) := by decide +kernel
theorem dX7_bodyCount_28 : decode cX7_bodyCount 28 = .ok (.istore_n 1, 1) := by decide +kernel
theorem dX7_bodyCount_29 : decode cX7_bodyCount 29 = .ok (.iinc 2 1, 3) := by decide +kernel
theorem dX7_bodyCount_32 : decode cX7_bodyCount 32 = .ok (.goto (-28), 3) := by decide +kernel
theorem dX7_bodyCount_35 : decode cX7_bodyCount 35 = .ok (.iload_n 1, 1) := by decide +kernel
theorem dX7_bodyCount_36 : decode cX7_bodyCount 36 = .ok (.ireturn, 1) := by decide +kernel
theorem dX7_loses_0 : decode cX7_loses 0 = .ok (.aload_n 0, 1) := by decide +kernel
theorem dX7_loses_1 : decode cX7_loses 1 = .ok (.getfield 81, 3) := by decide +kernel
theorem dX7_loses_4 : decode cX7_loses 4 = .ok (.iload_n 1, 1) := by decide +kernel
theorem dX7_loses_5 : decode cX7_loses 5 = .ok (.iaload, 1) := by decide +kernel
theorem dX7_loses_6 : decode cX7_loses 6 = .ok (.istore_n 3, 1) := by decide +kernel
theorem dX7_loses_7 : decode cX7_loses 7 = .ok (.iconst 0, 1) := by decide +kernel
theorem dX7_loses_8 : decode cX7_loses 8 = .ok (.istore 4, 2) := by decide +kernel
theorem dX7_loses_10 : decode cX7_loses 10 = .ok (.iload 4, 2) := by decide +kernel
theorem dX7_loses_12 : decode cX7_loses 12 = .ok (.iconst 5, 1) := by decide +kernel
theorem dX7_loses_13 : decode cX7_loses 13 = .ok (.if_icmp .ge 64, 3) := by decide +kernel
theorem dX7_loses_16 : decode cX7_loses 16 = .ok (.iconst 5, 1) := by decide +kernel
theorem dX7_loses_17 : decode cX7_loses 17 = .ok (.iload_n 1, 1) := by decide +kernel
theorem dX7_loses_18 : decode cX7_loses 18 = .ok (.imul, 1) := by decide +kernel
theorem dX7_loses_19 : decode cX7_loses 19 = .ok (.iload 4, 2) := by decide +kernel
theorem dX7_loses_21 : decode cX7_loses 21 = .ok (.iadd, 1) := by decide +kernel
theorem dX7_loses_22 : decode cX7_loses 22 = .ok (.istore 5, 2) := by decide +kernel
theorem dX7_loses_24 : decode cX7_loses 24 = .ok (.aload_n 0, 1) := by decide +kernel
theorem dX7_loses_25 : decode cX7_loses 25 = .ok (.getfield 95, 3) := by decide +kernel
theorem dX7_loses_28 : decode cX7_loses 28 = .ok (.iload 5, 2) := by decide +kernel
theorem dX7_loses_30 : decode cX7_loses 30 = .ok (.iload 4, 2) := by decide +kernel
theorem dX7_loses_32 : decode cX7_loses 32 = .ok (.aload_n 0, 1) := by decide +kernel
theorem dX7_loses_33 : decode cX7_loses 33 = .ok (.getfield 60, 3) := by decide +kernel
theorem dX7_loses_36 : decode cX7_loses 36 = .ok (.iload_n 3, 1) := by decide +kernel
theorem dX7_loses_37 : decode cX7_loses 37 = .ok (.iaload, 1) := by decide +kernel
theorem dX7_loses_38 : decode cX7_loses 38 = .ok (.if_icmp .ge 13, 3) := by decide +kernel
theorem dX7_loses_41 : decode cX7_loses 41 = .ok (.aload_n 0, 1) := by decide +kernel
theorem dX7_loses_42 : decode cX7_loses 42 = .ok (.iload_n 1, 1) := by decide +kernel
theorem dX7_loses_43 : decode cX7_loses 43 = .ok (.iload 4, 2) := by decide +kernel
theorem dX7_loses_45 : decode cX7_loses 45 = .ok (.invokevirtual 236, 3) := by decide +kernel
theorem dX7_loses_48 : decode cX7_loses 48 = .ok (.goto 4, 3) := by decide +kernel
theorem dX7_loses_51 : decode cX7_loses 51 = .ok (.iconst (-1), 1) := by decide +kernel
theorem dX7_loses_52 : decode cX7_loses 52 = .ok (.iastore, 1) := by decide +kernel
theorem dX7_loses_53 : decode cX7_loses 53 = .ok (.aload_n 0, 1) := by decide +kernel
theorem dX7_loses_54 : decode cX7_loses 54 = .ok (.getfield 98, 3) := by decide +kernel
theorem dX7_loses_57 : decode cX7_loses 57 = .ok (.iload 5, 2) := by decide +kernel
theorem dX7_loses_59 : decode cX7_loses 59 = .ok (.aload_n 0, 1) := by decide +kernel
theorem dX7_loses_60 : decode cX7_loses 60 = .ok (.getfield 75, 3) := by decide +kernel
theorem dX7_loses_63 : decode cX7_loses 63 = .ok (.iconst 5, 1) := by decide +kernel
theorem dX7_loses_64 : decode cX7_loses 64 = .ok (.iload_n 3, 1) := by decide +kernel
theorem dX7_loses_65 : decode cX7_loses 65 = .ok (.imul, 1) := by decide +kernel
theorem dX7_loses_66 : decode cX7_loses 66 = .ok (.iload 4, 2) := by decide +kernel
theorem dX7_loses_68 : decode cX7_loses 68 = .ok (.iadd, 1) := by decide +kernel
theorem dX7_loses_69 : decode cX7_loses 69 = .ok (.iaload, 1) := by decide +kernel
theorem dX7_loses_70 : decode cX7_loses 70 = .ok (.iastore, 1) := by decide +kernel
theorem dX7_loses_71 : decode cX7_loses 71 = .ok (.iinc 4 1, 3) := by decide +kernel
theorem dX7_loses_74 : decode cX7_loses 74 = .ok (.goto (-64), 3) := by decide +kernel
theorem dX7_loses_77 : decode cX7_loses 77 = .ok (.aload_n 0, 1) := by decide +kernel
theorem dX7_loses_78 : decode cX7_loses 78 = .ok (.getfield 91, 3) := by decide +kernel
theorem dX7_loses_81 : decode cX7_loses 81 = .ok (.iload_n 1, 1) := by decide +kernel
theorem dX7_loses_82 : decode cX7_loses 82 = .ok (.iconst 0, 1) := by decide +kernel
theorem dX7_loses_83 : decode cX7_loses 83 = .ok (.bastore, 1) := by decide +kernel
theorem dX7_loses_84 : decode cX7_loses 84 = .ok (.aload_n 0, 1) := by decide +kernel
theorem dX7_loses_85 : decode cX7_loses 85 = .ok (.getfield 88, 3) := by decide +kernel
theorem dX7_loses_88 : decode cX7_loses 88 = .ok (.iload_n 1, 1) := by decide +kernel
theorem dX7_loses_89 : decode cX7_loses 89 = .ok (.iload_n 2, 1) := by decide +kernel
theorem dX7_loses_90 : decode cX7_loses 90 = .ok (.castore, 1) := by decide +kernel
theorem dX7_loses_91 : decode cX7_loses 91 = .ok (.return_, 1) := by decide +kernel
theorem dX7_drops_0 : decode cX7_drops 0 = .ok (.aload_n 0, 1) := by decide +kernel
theorem dX7_drops_1 : decode cX7_drops 1 = .ok (.iload_n 1, 1) := by decide +kernel
theorem dX7_drops_2 : decode cX7_drops 2 = .ok (.aload_n 0, 1) := by decide +kernel
theorem dX7_drops_3 : decode cX7_drops 3 = .ok (.getfield 88, 3) := by decide +kernel
theorem dX7_drops_6 : decode cX7_drops 6 = .ok (.iload_n 1, 1) := by decide +kernel
theorem dX7_drops_7 : decode cX7_drops 7 = .ok (.caload, 1) := by decide +kernel
theorem dX7_drops_8 : decode cX7_drops 8 = .ok (.bipush 102, 2) := by decide +kernel
theorem dX7_drops_10 : decode cX7_drops 10 = .ok (.if_icmp .ne 8, 3) := by decide +kernel
theorem dX7_drops_13 : decode cX7_drops 13 = .ok (.bipush 98, 2) := by decide +kernel
theorem dX7_drops_15 : decode cX7_drops 15 = .ok (.goto 5, 3) := by decide +kernel
theorem dX7_drops_18 : decode cX7_drops 18 = .ok (.bipush 112, 2) := by decide +kernel
theorem dX7_drops_20 : decode cX7_drops 20 = .ok (.invokevirtual 239, 3) := by decide +kernel
theorem dX7_drops_23 : decode cX7_drops 23 = .ok (.return_, 1) := by decide +kernel
theorem dX7_makesRoom_0 : decode cX7_makesRoom 0 = .ok (.iconst 0, 1) := by decide +kernel
theorem dX7_makesRoom_1 : decode cX7_makesRoom 1 = .ok (.istore_n 1, 1) := by decide +kernel
theorem dX7_makesRoom_2 : decode cX7_makesRoom 2 = .ok (.aload_n 0, 1) := by decide +kernel
theorem dX7_makesRoom_3 : decode cX7_makesRoom 3 = .ok (.invokevirtual 243, 3) := by decide +kernel
theorem dX7_makesRoom_6 : decode cX7_makesRoom 6 = .ok (.aload_n 0, 1) := by decide +kernel
theorem dX7_makesRoom_7 : decode cX7_makesRoom 7 = .ok (.getfield 28, 3) := by decide +kernel
theorem dX7_makesRoom_10 : decode cX7_makesRoom 10 = .ok (.if_icmp .le 61, 3) := by decide +kernel
theorem dX7_makesRoom_13 : decode cX7_makesRoom 13 = .ok (.iconst (-1), 1) := by decide +kernel
theorem dX7_makesRoom_14 : decode cX7_makesRoom 14 = .ok (.istore_n 2, 1) := by decide +kernel
theorem dX7_makesRoom_15 : decode cX7_makesRoom 15 = .ok (.iconst 0, 1) := by decide +kernel
theorem dX7_makesRoom_16 : decode cX7_makesRoom 16 = .ok (.istore_n 3, 1) := by decide +kernel
theorem dX7_makesRoom_17 : decode cX7_makesRoom 17 = .ok (.iload_n 3, 1) := by decide +kernel
theorem dX7_makesRoom_18 : decode cX7_makesRoom 18 = .ok (.aload_n 0, 1) := by decide +kernel
theorem dX7_makesRoom_19 : decode cX7_makesRoom 19 = .ok (.getfield 25, 3) := by decide +kernel
theorem dX7_makesRoom_22 : decode cX7_makesRoom 22 = .ok (.if_icmp .ge 38, 3) := by decide +kernel
theorem dX7_makesRoom_25 : decode cX7_makesRoom 25 = .ok (.aload_n 0, 1) := by decide +kernel
theorem dX7_makesRoom_26 : decode cX7_makesRoom 26 = .ok (.getfield 91, 3) := by decide +kernel
theorem dX7_makesRoom_29 : decode cX7_makesRoom 29 = .ok (.iload_n 3, 1) := by decide +kernel
theorem dX7_makesRoom_30 : decode cX7_makesRoom 30 = .ok (.baload, 1) := by decide +kernel
theorem dX7_makesRoom_31 : decode cX7_makesRoom 31 = .ok (.ifCond .eq 21, 3) := by decide +kernel
theorem dX7_makesRoom_34 : decode cX7_makesRoom 34 = .ok (.iload_n 2, 1) := by decide +kernel
theorem dX7_makesRoom_35 : decode cX7_makesRoom 35 = .ok (.iconst (-1), 1) := by decide +kernel
theorem dX7_makesRoom_36 : decode cX7_makesRoom 36 = .ok (.if_icmp .eq 12, 3) := by decide +kernel
theorem dX7_makesRoom_39 : decode cX7_makesRoom 39 = .ok (.aload_n 0, 1) := by decide +kernel
theorem dX7_makesRoom_40 : decode cX7_makesRoom 40 = .ok (.iload_n 3, 1) := by decide +kernel
theorem dX7_makesRoom_41 : decode cX7_makesRoom 41 = .ok (.iload_n 2, 1) := by decide +kernel
theorem dX7_makesRoom_42 : decode cX7_makesRoom 42 = .ok (.invokevirtual 246, 3) := by decide +kernel
theorem dX7_makesRoom_45 : decode cX7_makesRoom 45 = .ok (.ifCond .eq 7, 3) := by decide +kernel
theorem dX7_makesRoom_48 : decode cX7_makesRoom 48 = .ok (.iload_n 3, 1) := by decide +kernel
theorem dX7_makesRoom_49 : decode cX7_makesRoom 49 = .ok (.goto 4, 3) := by decide +kernel
theorem dX7_makesRoom_52 : decode cX7_makesRoom 52 = .ok (.iload_n 2, 1) := by decide +kernel
theorem dX7_makesRoom_53 : decode cX7_makesRoom 53 = .ok (.istore_n 2, 1) := by decide +kernel
theorem dX7_makesRoom_54 : decode cX7_makesRoom 54 = .ok (.iinc 3 1, 3) := by decide +kernel
theorem dX7_makesRoom_57 : decode cX7_makesRoom 57 = .ok (.goto (-40), 3) := by decide +kernel
theorem dX7_makesRoom_60 : decode cX7_makesRoom 60 = .ok (.aload_n 0, 1) := by decide +kernel
theorem dX7_makesRoom_61 : decode cX7_makesRoom 61 = .ok (.iload_n 2, 1) := by decide +kernel
theorem dX7_makesRoom_62 : decode cX7_makesRoom 62 = .ok (.invokevirtual 249, 3) := by decide +kernel
theorem dX7_makesRoom_65 : decode cX7_makesRoom 65 = .ok (.iinc 1 1, 3) := by decide +kernel
theorem dX7_makesRoom_68 : decode cX7_makesRoom 68 = .ok (.goto (-66), 3) := by decide +kernel
theorem dX7_makesRoom_71 : decode cX7_makesRoom 71 = .ok (.iload_n 1, 1) := by decide +kernel
theorem dX7_makesRoom_72 : decode cX7_makesRoom 72 = .ok (.ireturn, 1) := by decide +kernel
theorem dX7_isWorse_0 : decode cX7_isWorse 0 = .ok (.aload_n 0, 1) := by decide +kernel
theorem dX7_isWorse_1 : decode cX7_isWorse 1 = .ok (.getfield 88, 3) := by decide +kernel
theorem dX7_isWorse_4 : decode cX7_isWorse 4 = .ok (.iload_n 1, 1) := by decide +kernel
theorem dX7_isWorse_5 : decode cX7_isWorse 5 = .ok (.caload, 1) := by decide +kernel
theorem dX7_isWorse_6 : decode cX7_isWorse 6 = .ok (.bipush 102, 2) := by decide +kernel
theorem dX7_isWorse_8 : decode cX7_isWorse 8 = .ok (.if_icmp .ne 7, 3) := by decide +kernel
theorem dX7_isWorse_11 : decode cX7_isWorse 11 = .ok (.iconst 1, 1) := by decide +kernel
theorem dX7_isWorse_12 : decode cX7_isWorse 12 = .ok (.goto 4, 3) := by decide +kernel
theorem dX7_isWorse_15 : decode cX7_isWorse 15 = .ok (.iconst 0, 1) := by decide +kernel
theorem dX7_isWorse_16 : decode cX7_isWorse 16 = .ok (.aload_n 0, 1) := by decide +kernel
theorem dX7_isWorse_17 : decode cX7_isWorse 17 = .ok (.getfield 88, 3) := by decide +kernel
theorem dX7_isWorse_20 : decode cX7_isWorse 20 = .ok (.iload_n 2, 1) := by decide +kernel
theorem dX7_isWorse_21 : decode cX7_isWorse 21 = .ok (.caload, 1) := by decide +kernel
theorem dX7_isWorse_22 : decode cX7_isWorse 22 = .ok (.bipush 102, 2) := by decide +kernel
theorem dX7_isWorse_24 : decode cX7_isWorse 24 = .ok (.if_icmp .ne 7, 3) := by decide +kernel
theorem dX7_isWorse_27 : decode cX7_isWorse 27 = .ok (.iconst 1, 1) := by decide +kernel
theorem dX7_isWorse_28 : decode cX7_isWorse 28 = .ok (.goto 4, 3) := by decide +kernel
theorem dX7_isWorse_31 : decode cX7_isWorse 31 = .ok (.iconst 0, 1) := by decide +kernel
theorem dX7_isWorse_32 : decode cX7_isWorse 32 = .ok (.if_icmp .eq 20, 3) := by decide +kernel
theorem dX7_isWorse_35 : decode cX7_isWorse 35 = .ok (.aload_n 0, 1) := by decide +kernel
theorem dX7_isWorse_36 : decode cX7_isWorse 36 = .ok (.getfield 88, 3) := by decide +kernel
theorem dX7_isWorse_39 : decode cX7_isWorse 39 = .ok (.iload_n 1, 1) := by decide +kernel
theorem dX7_isWorse_40 : decode cX7_isWorse 40 = .ok (.caload, 1) := by decide +kernel
theorem dX7_isWorse_41 : decode cX7_isWorse 41 = .ok (.bipush 102, 2) := by decide +kernel
theorem dX7_isWorse_43 : decode cX7_isWorse 43 = .ok (.if_icmp .ne 7, 3) := by decide +kernel
theorem dX7_isWorse_46 : decode cX7_isWorse 46 = .ok (.iconst 1, 1) := by decide +kernel
theorem dX7_isWorse_47 : decode cX7_isWorse 47 = .ok (.goto 4, 3) := by decide +kernel
theorem dX7_isWorse_50 : decode cX7_isWorse 50 = .ok (.iconst 0, 1) := by decide +kernel
theorem dX7_isWorse_51 : decode cX7_isWorse 51 = .ok (.ireturn, 1) := by decide +kernel
theorem dX7_isWorse_52 : decode cX7_isWorse 52 = .ok (.aload_n 0, 1) := by decide +kernel
theorem dX7_isWorse_53 : decode cX7_isWorse 53 = .ok (.iload_n 1, 1) := by decide +kernel
theorem dX7_isWorse_54 : decode cX7_isWorse 54 = .ok (.invokevirtual 233, 3) := by decide +kernel
theorem dX7_isWorse_57 : decode cX7_isWorse 57 = .ok (.aload_n 0, 1) := by decide +kernel
theorem dX7_isWorse_58 : decode cX7_isWorse 58 = .ok (.iload_n 2, 1) := by decide +kernel
theorem dX7_isWorse_59 : decode cX7_isWorse 59 = .ok (.invokevirtual 233, 3) := by decide +kernel
theorem dX7_isWorse_62 : decode cX7_isWorse 62 = .ok (.if_icmp .ge 7, 3) := by decide +kernel
theorem dX7_isWorse_65 : decode cX7_isWorse 65 = .ok (.iconst 1, 1) := by decide +kernel
theorem dX7_isWorse_66 : decode cX7_isWorse 66 = .ok (.goto 4, 3) := by decide +kernel
theorem dX7_isWorse_69 : decode cX7_isWorse 69 = .ok (.iconst 0, 1) := by decide +kernel
theorem dX7_isWorse_70 : decode cX7_isWorse 70 = .ok (.ireturn, 1) := by decide +kernel
theorem dX7_drop_0 : decode cX7_drop 0 = .ok (.aload_n 0, 1) := by decide +kernel
theorem dX7_drop_1 : decode cX7_drop 1 = .ok (.iload_n 1, 1) := by decide +kernel
theorem dX7_drop_2 : decode cX7_drop 2 = .ok (.invokevirtual 227, 3) := by decide +kernel
theorem dX7_drop_5 : decode cX7_drop 5 = .ok (.ifCond .ne 9, 3) := by decide +kernel
theorem dX7_drop_8 : decode cX7_drop 8 = .ok (.aload_n 0, 1) := by decide +kernel
theorem dX7_drop_9 : decode cX7_drop 9 = .ok (.iconst 1, 1) := by decide +kernel
theorem dX7_drop_10 : decode cX7_drop 10 = .ok (.invokevirtual 165, 3) := by decide +kernel
theorem dX7_drop_13 : decode cX7_drop 13 = .ok (.ireturn, 1) := by decide +kernel
theorem dX7_drop_14 : decode cX7_drop 14 = .ok (.aload_n 0, 1) := by decide +kernel
theorem dX7_drop_15 : decode cX7_drop 15 = .ok (.getfield 91, 3) := by decide +kernel
theorem dX7_drop_18 : decode cX7_drop 18 = .ok (.iload_n 1, 1) := by decide +kernel
theorem dX7_drop_19 : decode cX7_drop 19 = .ok (.baload, 1) := by decide +kernel
theorem dX7_drop_20 : decode cX7_drop 20 = .ok (.ifCond .ne 9, 3) := by decide +kernel
theorem dX7_drop_23 : decode cX7_drop 23 = .ok (.aload_n 0, 1) := by decide +kernel
theorem dX7_drop_24 : decode cX7_drop 24 = .ok (.iconst 2, 1) := by decide +kernel
theorem dX7_drop_25 : decode cX7_drop 25 = .ok (.invokevirtual 165, 3) := by decide +kernel
theorem dX7_drop_28 : decode cX7_drop 28 = .ok (.ireturn, 1) := by decide +kernel
theorem dX7_drop_29 : decode cX7_drop 29 = .ok (.aload_n 0, 1) := by decide +kernel
theorem dX7_drop_30 : decode cX7_drop 30 = .ok (.iload_n 1, 1) := by decide +kernel
theorem dX7_drop_31 : decode cX7_drop 31 = .ok (.invokevirtual 249, 3) := by decide +kernel
theorem dX7_drop_34 : decode cX7_drop 34 = .ok (.aload_n 0, 1) := by decide +kernel
theorem dX7_drop_35 : decode cX7_drop 35 = .ok (.aload_n 0, 1) := by decide +kernel
theorem dX7_drop_36 : decode cX7_drop 36 = .ok (.invokevirtual 243, 3) := by decide +kernel
theorem dX7_drop_39 : decode cX7_drop 39 = .ok (.invokevirtual 169, 3) := by decide +kernel
theorem dX7_drop_42 : decode cX7_drop 42 = .ok (.ireturn, 1) := by decide +kernel
theorem dX7_capacity_0 : decode cX7_capacity 0 = .ok (.iload_n 1, 1) := by decide +kernel
theorem dX7_capacity_1 : decode cX7_capacity 1 = .ok (.iconst 1, 1) := by decide +kernel
theorem dX7_capacity_2 : decode cX7_capacity 2 = .ok (.bipush 40, 2) := by decide +kernel
theorem dX7_capacity_4 : decode cX7_capacity 4 = .ok (.invokestatic 161, 3) := by decide +kernel
theorem dX7_capacity_7 : decode cX7_capacity 7 = .ok (.ifCond .ne 9, 3) := by decide +kernel
theorem dX7_capacity_10 : decode cX7_capacity 10 = .ok (.aload_n 0, 1) := by decide +kernel
theorem dX7_capacity_11 : decode cX7_capacity 11 = .ok (.iconst 1, 1) := by decide +kernel
theorem dX7_capacity_12 : decode cX7_capacity 12 = .ok (.invokevirtual 165, 3) := by decide +kernel
theorem dX7_capacity_15 : decode cX7_capacity 15 = .ok (.ireturn, 1) := by decide +kernel
theorem dX7_capacity_16 : decode cX7_capacity 16 = .ok (.aload_n 0, 1) := by decide +kernel
theorem dX7_capacity_17 : decode cX7_capacity 17 = .ok (.iload_n 1, 1) := by decide +kernel
theorem dX7_capacity_18 : decode cX7_capacity 18 = .ok (.putfield 28, 3) := by decide +kernel
theorem dX7_capacity_21 : decode cX7_capacity 21 = .ok (.aload_n 0, 1) := by decide +kernel
theorem dX7_capacity_22 : decode cX7_capacity 22 = .ok (.aload_n 0, 1) := by decide +kernel
theorem dX7_capacity_23 : decode cX7_capacity 23 = .ok (.invokevirtual 224, 3) := by decide +kernel
theorem dX7_capacity_26 : decode cX7_capacity 26 = .ok (.invokevirtual 169, 3) := by decide +kernel
theorem dX7_capacity_29 : decode cX7_capacity 29 = .ok (.ireturn, 1) := by decide +kernel
theorem dX7_bodies_0 : decode cX7_bodies 0 = .ok (.aload_n 0, 1) := by decide +kernel
theorem dX7_bodies_1 : decode cX7_bodies 1 = .ok (.aload_n 0, 1) := by decide +kernel
theorem dX7_bodies_2 : decode cX7_bodies 2 = .ok (.invokevirtual 243, 3) := by decide +kernel
theorem dX7_bodies_5 : decode cX7_bodies 5 = .ok (.invokevirtual 169, 3) := by decide +kernel
theorem dX7_bodies_8 : decode cX7_bodies 8 = .ok (.ireturn, 1) := by decide +kernel
theorem dX7_copyCount_0 : decode cX7_copyCount 0 = .ok (.iconst 0, 1) := by decide +kernel
theorem dX7_copyCount_1 : decode cX7_copyCount 1 = .ok (.istore_n 2, 1) := by decide +kernel
theorem dX7_copyCount_2 : decode cX7_copyCount 2 = .ok (.iload_n 2, 1) := by decide +kernel
theorem dX7_copyCount_3 : decode cX7_copyCount 3 = .ok (.iconst 3, 1) := by decide +kernel
theorem dX7_copyCount_4 : decode cX7_copyCount 4 = .ok (.if_icmp .ge 22, 3) := by decide +kernel
theorem dX7_copyCount_7 : decode cX7_copyCount 7 = .ok (.aload_n 0, 1) := by decide +kernel
theorem dX7_copyCount_8 : decode cX7_copyCount 8 = .ok (.getfield 119, 3) := by decide +kernel
theorem dX7_copyCount_11 : decode cX7_copyCount 11 = .ok (.iconst 3, 1) := by decide +kernel
theorem dX7_copyCount_12 : decode cX7_copyCount 12 = .ok (.iload_n 1, 1) := by decide +kernel
theorem dX7_copyCount_13 : decode cX7_copyCount 13 = .ok (.imul, 1) := by decide +kernel
theorem dX7_copyCount_14 : decode cX7_copyCount 14 = .ok (.iload_n 2, 1) := by decide +kernel
theorem dX7_copyCount_15 : decode cX7_copyCount 15 = .ok (.iadd, 1) := by decide +kernel
theorem dX7_copyCount_16 : decode cX7_copyCount 16 = .ok (.iaload, 1) := by decide +kernel
theorem dX7_copyCount_17 : decode cX7_copyCount 17 = .ok (.ifCond .le 9, 3) := by decide +kernel
theorem dX7_copyCount_20 : decode cX7_copyCount 20 = .ok (.iinc 2 1, 3) := by decide +kernel
theorem dX7_copyCount_23 : decode cX7_copyCount 23 = .ok (.goto (-21), 3) := by decide +kernel
theorem dX7_copyCount_26 : decode cX7_copyCount 26 = .ok (.iload_n 2, 1) := by decide +kernel
theorem dX7_copyCount_27 : decode cX7_copyCount 27 = .ok (.ireturn, 1) := by decide +kernel
theorem dX7_hasCopy_0 : decode cX7_hasCopy 0 = .ok (.iconst 0, 1) := by decide +kernel
theorem dX7_hasCopy_1 : decode cX7_hasCopy 1 = .ok (.istore_n 3, 1) := by decide +kernel
theorem dX7_hasCopy_2 : decode cX7_hasCopy 2 = .ok (.iconst 0, 1) := by decide +kernel
theorem dX7_hasCopy_3 : decode cX7_hasCopy 3 = .ok (.istore 4, 2) := by decide +kernel
theorem dX7_hasCopy_5 : decode cX7_hasCopy 5 = .ok (.iload 4, 2) := by decide +kernel
theorem dX7_hasCopy_7 : decode cX7_hasCopy 7 = .ok (.iconst 3, 1) := by decide +kernel
theorem dX7_hasCopy_8 : decode cX7_hasCopy 8 = .ok (.if_icmp .ge 36, 3) := by decide +kernel
theorem dX7_hasCopy_11 : decode cX7_hasCopy 11 = .ok (.iload_n 3, 1) := by decide +kernel
theorem dX7_hasCopy_12 : decode cX7_hasCopy 12 = .ok (.ifCond .ne 20, 3) := by decide +kernel
theorem dX7_hasCopy_15 : decode cX7_hasCopy 15 = .ok (.aload_n 0, 1) := by decide +kernel
theorem dX7_hasCopy_16 : decode cX7_hasCopy 16 = .ok (.getfield 119, 3) := by decide +kernel
theorem dX7_hasCopy_19 : decode cX7_hasCopy 19 = .ok (.iconst 3, 1) := by decide +kernel
theorem dX7_hasCopy_20 : decode cX7_hasCopy 20 = .ok (.iload_n 1, 1) := by decide +kernel
theorem dX7_hasCopy_21 : decode cX7_hasCopy 21 = .ok (.imul, 1) := by decide +kernel
theorem dX7_hasCopy_22 : decode cX7_hasCopy 22 = .ok (.iload 4, 2) := by decide +kernel
theorem dX7_hasCopy_24 : decode cX7_hasCopy 24 = .ok (.iadd, 1) := by decide +kernel
theorem dX7_hasCopy_25 : decode cX7_hasCopy 25 = .ok (.iaload, 1) := by decide +kernel
theorem dX7_hasCopy_26 : decode cX7_hasCopy 26 = .ok (.iload_n 2, 1) := by decide +kernel
theorem dX7_hasCopy_27 : decode cX7_hasCopy 27 = .ok (.iconst 1, 1) := by decide +kernel
theorem dX7_hasCopy_28 : decode cX7_hasCopy 28 = .ok (.iadd, 1) := by decide +kernel
theorem dX7_hasCopy_29 : decode cX7_hasCopy 29 = .ok (.if_icmp .ne 7, 3) := by decide +kernel
theorem dX7_hasCopy_32 : decode cX7_hasCopy 32 = .ok (.iconst 1, 1) := by decide +kernel
theorem dX7_hasCopy_33 : decode cX7_hasCopy 33 = .ok (.goto 4, 3) := by decide +kernel
theorem dX7_hasCopy_36 : decode cX7_hasCopy 36 = .ok (.iconst 0, 1) := by decide +kernel
theorem dX7_hasCopy_37 : decode cX7_hasCopy 37 = .ok (.istore_n 3, 1) := by decide +kernel
theorem dX7_hasCopy_38 : decode cX7_hasCopy 38 = .ok (.iinc 4 1, 3) := by decide +kernel
theorem dX7_hasCopy_41 : decode cX7_hasCopy 41 = .ok (.goto (-36), 3) := by decide +kernel
theorem dX7_hasCopy_44 : decode cX7_hasCopy 44 = .ok (.iload_n 3, 1) := by decide +kernel
theorem dX7_hasCopy_45 : decode cX7_hasCopy 45 = .ok (.ireturn, 1) := by decide +kernel
theorem dX7_read_0 : decode cX7_read 0 = .ok (.aload_n 0, 1) := by decide +kernel
theorem dX7_read_1 : decode cX7_read 1 = .ok (.iload_n 1, 1) := by decide +kernel
theorem dX7_read_2 : decode cX7_read 2 = .ok (.invokevirtual 214, 3) := by decide +kernel
theorem dX7_read_5 : decode cX7_read 5 = .ok (.ifCond .eq 11, 3) := by decide +kernel
theorem dX7_read_8 : decode cX7_read 8 = .ok (.aload_n 0, 1) := by decide +kernel
theorem dX7_read_9 : decode cX7_read 9 = .ok (.iload_n 2, 1) := by decide +kernel
theorem dX7_read_10 : decode cX7_read 10 = .ok (.invokevirtual 227, 3) := by decide +kernel
theorem dX7_read_13 : decode cX7_read 13 = .ok (.ifCond .ne 9, 3) := by decide +kernel
theorem dX7_read_16 : decode cX7_read 16 = .ok (.aload_n 0, 1) := by decide +kernel
theorem dX7_read_17 : decode cX7_read 17 = .ok (.iconst 1, 1) := by decide +kernel
theorem dX7_read_18 : decode cX7_read 18 = .ok (.invokevirtual 165, 3) := by decide +kernel
theorem dX7_read_21 : decode cX7_read 21 = .ok (.ireturn, 1) := by decide +kernel
theorem dX7_read_22 : decode cX7_read 22 = .ok (.aload_n 0, 1) := by decide +kernel
theorem dX7_read_23 : decode cX7_read 23 = .ok (.getfield 91, 3) := by decide +kernel
theorem dX7_read_26 : decode cX7_read 26 = .ok (.iload_n 2, 1) := by decide +kernel
theorem dX7_read_27 : decode cX7_read 27 = .ok (.baload, 1) := by decide +kernel
theorem dX7_read_28 : decode cX7_read 28 = .ok (.ifCond .ne 9, 3) := by decide +kernel
theorem dX7_read_31 : decode cX7_read 31 = .ok (.aload_n 0, 1) := by decide +kernel
theorem dX7_read_32 : decode cX7_read 32 = .ok (.iconst 2, 1) := by decide +kernel
theorem dX7_read_33 : decode cX7_read 33 = .ok (.invokevirtual 165, 3) := by decide +kernel
theorem dX7_read_36 : decode cX7_read 36 = .ok (.ireturn, 1) := by decide +kernel
theorem dX7_read_37 : decode cX7_read 37 = .ok (.iconst 3, 1) := by decide +kernel
theorem dX7_read_38 : decode cX7_read 38 = .ok (.iload_n 1, 1) := by decide +kernel
theorem dX7_read_39 : decode cX7_read 39 = .ok (.imul, 1) := by decide +kernel
theorem dX7_read_40 : decode cX7_read 40 = .ok (.istore_n 3, 1) := by decide +kernel
theorem dX7_read_41 : decode cX7_read 41 = .ok (.aload_n 0, 1) := by decide +kernel
theorem dX7_read_42 : decode cX7_read 42 = .ok (.iload_n 1, 1) := by decide +kernel
theorem dX7_read_43 : decode cX7_read 43 = .ok (.invokevirtual 253, 3) := by decide +kernel
theorem dX7_read_46 : decode cX7_read 46 = .ok (.istore 4, 2) := by decide +kernel
theorem dX7_read_48 : decode cX7_read 48 = .ok (.iload 4, 2) := by decide +kernel
theorem dX7_read_50 : decode cX7_read 50 = .ok (.iconst 3, 1) := by decide +kernel
theorem dX7_read_51 : decode cX7_read 51 = .ok (.if_icmp .ne 7, 3) := by decide +kernel
theorem dX7_read_54 : decode cX7_read 54 = .ok (.iconst 0, 1) := by decide +kernel
theorem dX7_read_55 : decode cX7_read 55 = .ok (.goto 5, 3) := by decide +kernel
theorem dX7_read_58 : decode cX7_read 58 = .ok (.iload 4, 2) := by decide +kernel
theorem dX7_read_60 : decode cX7_read 60 = .ok (.istore 5, 2) := by decide +kernel
theorem dX7_read_62 : decode cX7_read 62 = .ok (.iconst 0, 1) := by decide +kernel
theorem dX7_read_63 : decode cX7_read 63 = .ok (.istore 6, 2) := by decide +kernel
theorem dX7_read_65 : decode cX7_read 65 = .ok (.iload 6, 2) := by decide +kernel
theorem dX7_read_67 : decode cX7_read 67 = .ok (.iload 4, 2) := by decide +kernel
theorem dX7_read_69 : decode cX7_read 69 = .ok (.if_icmp .ge 33, 3) := by decide +kernel
theorem dX7_read_72 : decode cX7_read 72 = .ok (.aload_n 0, 1) := by decide +kernel
theorem dX7_read_73 : decode cX7_read 73 = .ok (.getfield 119, 3) := by decide +kernel
theorem dX7_read_76 : decode cX7_read 76 = .ok (.iload_n 3, 1) := by decide +kernel
theorem dX7_read_77 : decode cX7_read 77 = .ok (.iload 6, 2) := by decide +kernel
theorem dX7_read_79 : decode cX7_read 79 = .ok (.iadd, 1) := by decide +kernel
theorem dX7_read_80 : decode cX7_read 80 = .ok (.iaload, 1) := by decide +kernel
theorem dX7_read_81 : decode cX7_read 81 = .ok (.iload_n 2, 1) := by decide +kernel
theorem dX7_read_82 : decode cX7_read 82 = .ok (.iconst 1, 1) := by decide +kernel
theorem dX7_read_83 : decode cX7_read 83 = .ok (.iadd, 1) := by decide +kernel
theorem dX7_read_84 : decode cX7_read 84 = .ok (.if_icmp .ne 8, 3) := by decide +kernel
theorem dX7_read_87 : decode cX7_read 87 = .ok (.iload 6, 2) := by decide +kernel
theorem dX7_read_89 : decode cX7_read 89 = .ok (.goto 5, 3) := by decide +kernel
theorem dX7_read_92 : decode cX7_read 92 = .ok (.iload 5, 2) := by decide +kernel
theorem dX7_read_94 : decode cX7_read 94 = .ok (.istore 5, 2) := by decide +kernel
theorem dX7_read_96 : decode cX7_read 96 = .ok (.iinc 6 1, 3) := by decide +kernel
theorem dX7_read_99 : decode cX7_read 99 = .ok (.goto (-34), 3) := by decide +kernel
theorem dX7_read_102 : decode cX7_read 102 = .ok (.iload 5, 2) := by decide +kernel
theorem dX7_read_104 : decode cX7_read 104 = .ok (.istore 6, 2) := by decide +kernel
theorem dX7_read_106 : decode cX7_read 106 = .ok (.iload 6, 2) := by decide +kernel
theorem dX7_read_108 : decode cX7_read 108 = .ok (.iconst 1, 1) := by decide +kernel
theorem dX7_read_109 : decode cX7_read 109 = .ok (.iadd, 1) := by decide +kernel
theorem dX7_read_110 : decode cX7_read 110 = .ok (.iconst 3, 1) := by decide +kernel
theorem dX7_read_111 : decode cX7_read 111 = .ok (.if_icmp .ge 29, 3) := by decide +kernel
theorem dX7_read_114 : decode cX7_read 114 = .ok (.aload_n 0, 1) := by decide +kernel
theorem dX7_read_115 : decode cX7_read 115 = .ok (.getfield 119, 3) := by decide +kernel
theorem dX7_read_118 : decode cX7_read 118 = .ok (.iload_n 3, 1) := by decide +kernel
theorem dX7_read_119 : decode cX7_read 119 = .ok (.iload 6, 2) := by decide +kernel
theorem dX7_read_121 : decode cX7_read 121 = .ok (.iadd, 1) := by decide +kernel
theorem dX7_read_122 : decode cX7_read 122 = .ok (.aload_n 0, 1) := by decide +kernel
theorem dX7_read_123 : decode cX7_read 123 = .ok (.getfield 119, 3) := by decide +kernel
theorem dX7_read_126 : decode cX7_read 126 = .ok (.iload_n 3, 1) := by decide +kernel
theorem dX7_read_127 : decode cX7_read 127 = .ok (.iload 6, 2) := by decide +kernel
theorem dX7_read_129 : decode cX7_read 129 = .ok (.iadd, 1) := by decide +kernel
theorem dX7_read_130 : decode cX7_read 130 = .ok (.iconst 1, 1) := by decide +kernel
theorem dX7_read_131 : decode cX7_read 131 = .ok (.iadd, 1) := by decide +kernel
theorem dX7_read_132 : decode cX7_read 132 = .ok (.iaload, 1) := by decide +kernel
theorem dX7_read_133 : decode cX7_read 133 = .ok (.iastore, 1) := by decide +kernel
theorem dX7_read_134 : decode cX7_read 134 = .ok (.iinc 6 1, 3) := by decide +kernel
theorem dX7_read_137 : decode cX7_read 137 = .ok (.goto (-31), 3) := by decide +kernel
theorem dX7_read_140 : decode cX7_read 140 = .ok (.aload_n 0, 1) := by decide +kernel
theorem dX7_read_141 : decode cX7_read 141 = .ok (.getfield 119, 3) := by decide +kernel
theorem dX7_read_144 : decode cX7_read 144 = .ok (.iload_n 3, 1) := by decide +kernel
theorem dX7_read_145 : decode cX7_read 145 = .ok (.iconst 3, 1) := by decide +kernel
theorem dX7_read_146 : decode cX7_read 146 = .ok (.iadd, 1) := by decide +kernel
theorem dX7_read_147 : decode cX7_read 147 = .ok (.iconst 1, 1) := by decide +kernel
theorem dX7_read_148 : decode cX7_read 148 = .ok (.isub, 1) := by decide +kernel
theorem dX7_read_149 : decode cX7_read 149 = .ok (.iconst 0, 1) := by decide +kernel
theorem dX7_read_150 : decode cX7_read 150 = .ok (.iastore, 1) := by decide +kernel
theorem dX7_read_151 : decode cX7_read 151 = .ok (.aload_n 0, 1) := by decide +kernel
theorem dX7_read_152 : decode cX7_read 152 = .ok (.getfield 119, 3) := by decide +kernel
theorem dX7_read_155 : decode cX7_read 155 = .ok (.iload_n 3, 1) := by decide +kernel
theorem dX7_read_156 : decode cX7_read 156 = .ok (.aload_n 0, 1) := by decide +kernel
theorem dX7_read_157 : decode cX7_read 157 = .ok (.iload_n 1, 1) := by decide +kernel
theorem dX7_read_158 : decode cX7_read 158 = .ok (.invokevirtual 253, 3) := by decide +kernel
theorem dX7_read_161 : decode cX7_read 161 = .ok (.iadd, 1) := by decide +kernel
theorem dX7_read_162 : decode cX7_read 162 = .ok (.iload_n 2, 1) := by decide +kernel
theorem dX7_read_163 : decode cX7_read 163 = .ok (.iconst 1, 1) := by decide +kernel
theorem dX7_read_164 : decode cX7_read 164 = .ok (.iadd, 1) := by decide +kernel
theorem dX7_read_165 : decode cX7_read 165 = .ok (.iastore, 1) := by decide +kernel
theorem dX7_read_166 : decode cX7_read 166 = .ok (.aload_n 0, 1) := by decide +kernel
theorem dX7_read_167 : decode cX7_read 167 = .ok (.aload_n 0, 1) := by decide +kernel
theorem dX7_read_168 : decode cX7_read 168 = .ok (.iload_n 1, 1) := by decide +kernel
theorem dX7_read_169 : decode cX7_read 169 = .ok (.invokevirtual 253, 3) := by decide +kernel
theorem dX7_read_172 : decode cX7_read 172 = .ok (.invokevirtual 169, 3) := by decide +kernel
theorem dX7_read_175 : decode cX7_read 175 = .ok (.ireturn, 1) := by decide +kernel
theorem dX7_copy_0 : decode cX7_copy 0 = .ok (.aload_n 0, 1) := by decide +kernel
theorem dX7_copy_1 : decode cX7_copy 1 = .ok (.iload_n 1, 1) := by decide +kernel
theorem dX7_copy_2 : decode cX7_copy 2 = .ok (.invokevirtual 214, 3) := by decide +kernel
theorem dX7_copy_5 : decode cX7_copy 5 = .ok (.ifCond .ne 9, 3) := by decide +kernel
theorem dX7_copy_8 : decode cX7_copy 8 = .ok (.aload_n 0, 1) := by decide +kernel
theorem dX7_copy_9 : decode cX7_copy 9 = .ok (.iconst 1, 1) := by decide +kernel
theorem dX7_copy_10 : decode cX7_copy 10 = .ok (.invokevirtual 165, 3) := by decide +kernel
theorem dX7_copy_13 : decode cX7_copy 13 = .ok (.ireturn, 1) := by decide +kernel
theorem dX7_copy_14 : decode cX7_copy 14 = .ok (.iload_n 2, 1) := by decide +kernel
theorem dX7_copy_15 : decode cX7_copy 15 = .ok (.iconst 0, 1) := by decide +kernel
theorem dX7_copy_16 : decode cX7_copy 16 = .ok (.aload_n 0, 1) := by decide +kernel
theorem dX7_copy_17 : decode cX7_copy 17 = .ok (.iload_n 1, 1) := by decide +kernel
theorem dX7_copy_18 : decode cX7_copy 18 = .ok (.invokevirtual 253, 3) := by decide +kernel
theorem dX7_copy_21 : decode cX7_copy 21 = .ok (.iconst 1, 1) := by decide +kernel
theorem dX7_copy_22 : decode cX7_copy 22 = .ok (.isub, 1) := by decide +kernel
theorem dX7_copy_23 : decode cX7_copy 23 = .ok (.invokestatic 161, 3) := by decide +kernel
theorem dX7_copy_26 : decode cX7_copy 26 = .ok (.ifCond .eq 22, 3) := by decide +kernel
theorem dX7_copy_29 : decode cX7_copy 29 = .ok (.aload_n 0, 1) := by decide +kernel
theorem dX7_copy_30 : decode cX7_copy 30 = .ok (.aload_n 0, 1) := by decide +kernel
theorem dX7_copy_31 : decode cX7_copy 31 = .ok (.getfield 119, 3) := by decide +kernel
theorem dX7_copy_34 : decode cX7_copy 34 = .ok (.iconst 3, 1) := by decide +kernel
theorem dX7_copy_35 : decode cX7_copy 35 = .ok (.iload_n 1, 1) := by decide +kernel
theorem dX7_copy_36 : decode cX7_copy 36 = .ok (.imul, 1) := by decide +kernel
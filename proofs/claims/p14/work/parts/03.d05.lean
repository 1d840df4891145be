theorem dX6_stepsTold_4 : decode cX6_stepsTold 4 = .ok (.ifCond .eq 26, 3) := by decide +kernel
theorem dX6_stepsTold_7 : decode cX6_stepsTold 7 = .ok (.aload_n 0, 1) := by decide +kernel
theorem dX6_stepsTold_8 : decode cX6_stepsTold 8 = .ok (.aload_n 1, 1) := by decide +kernel
theorem dX6_stepsTold_9 : decode cX6_stepsTold 9 = .ok (.getfield 255, 3) := by decide +kernel
theorem dX6_stepsTold_12 : decode cX6_stepsTold 12 = .ok (.aload_n 0, 1) := by decide +kernel
theorem dX6_stepsTold_13 : decode cX6_stepsTold 13 = .ok (.getfield 25, 3) := by decide +kernel
theorem dX6_stepsTold_16 : decode cX6_stepsTold 16 = .ok (.aload_n 1, 1) := by decide +kernel
theorem dX6_stepsTold_17 : decode cX6_stepsTold 17 = .ok (.getfield 226, 3) := by decide +kernel
theorem dX6_stepsTold_20 : decode cX6_stepsTold 20 = .ok (.aaload, 1) := by decide +kernel
theorem dX6_stepsTold_21 : decode cX6_stepsTold 21 = .ok (.getfield 151, 3) := by decide +kernel
theorem dX6_stepsTold_24 : decode cX6_stepsTold 24 = .ok (.iload_n 2, 1) := by decide +kernel
theorem dX6_stepsTold_25 : decode cX6_stepsTold 25 = .ok (.aaload, 1) := by decide +kernel
theorem dX6_stepsTold_26 : decode cX6_stepsTold 26 = .ok (.invokevirtual 428, 3) := by decide +kernel
theorem dX6_stepsTold_29 : decode cX6_stepsTold 29 = .ok (.ireturn, 1) := by decide +kernel
theorem dX6_stepsTold_30 : decode cX6_stepsTold 30 = .ok (.iload_n 2, 1) := by decide +kernel
theorem dX6_stepsTold_31 : decode cX6_stepsTold 31 = .ok (.aload_n 1, 1) := by decide +kernel
theorem dX6_stepsTold_32 : decode cX6_stepsTold 32 = .ok (.getfield 432, 3) := by decide +kernel
theorem dX6_stepsTold_35 : decode cX6_stepsTold 35 = .ok (.if_icmp .ge 12, 3) := by decide +kernel
theorem dX6_stepsTold_38 : decode cX6_stepsTold 38 = .ok (.aload_n 1, 1) := by decide +kernel
theorem dX6_stepsTold_39 : decode cX6_stepsTold 39 = .ok (.getfield 435, 3) := by decide +kernel
theorem dX6_stepsTold_42 : decode cX6_stepsTold 42 = .ok (.iload_n 2, 1) := by decide +kernel
theorem dX6_stepsTold_43 : decode cX6_stepsTold 43 = .ok (.iaload, 1) := by decide +kernel
theorem dX6_stepsTold_44 : decode cX6_stepsTold 44 = .ok (.goto 4, 3) := by decide +kernel
theorem dX6_stepsTold_47 : decode cX6_stepsTold 47 = .ok (.iconst (-1), 1) := by decide +kernel
theorem dX6_stepsTold_48 : decode cX6_stepsTold 48 = .ok (.ireturn, 1) := by decide +kernel
theorem dX6_bodyCount_0 : decode cX6_bodyCount 0 = .ok (.iconst 0, 1) := by decide +kernel
theorem dX6_bodyCount_1 : decode cX6_bodyCount 1 = .ok (.istore_n 1, 1) := by decide +kernel
theorem dX6_bodyCount_2 : decode cX6_bodyCount 2 = .ok (.iconst 0, 1) := by decide +kernel
theorem dX6_bodyCount_3 : decode cX6_bodyCount 3 = .ok (.istore_n 2, 1) := by decide +kernel
theorem dX6_bodyCount_4 : decode cX6_bodyCount 4 = .ok (.iload_n 2, 1) := by decide +kernel
theorem dX6_bodyCount_5 : decode cX6_bodyCount 5 = .ok (.aload_n 0, 1) := by decide +kernel
theorem dX6_bodyCount_6 : decode cX6_bodyCount 6 = .ok (.getfield 65, 3) := by decide +kernel
theorem dX6_bodyCount_9 : decode cX6_bodyCount 9 = .ok (.if_icmp .ge 29, 3) := by decide +kernel
theorem dX6_bodyCount_12 : decode cX6_bodyCount 12 = .ok (.iload_n 1, 1) := by decide +kernel
theorem dX6_bodyCount_13 : decode cX6_bodyCount 13 = .ok (.aload_n 0, 1) := by decide +kernel
theorem dX6_bodyCount_14 : decode cX6_bodyCount 14 = .ok (.getfield 37, 3) := by decide +kernel
theorem dX6_bodyCount_17 : decode cX6_bodyCount 17 = .ok (.iload_n 2, 1) := by decide +kernel
theorem dX6_bodyCount_18 : decode cX6_bodyCount 18 = .ok (.aaload, 1) := by decide +kernel
theorem dX6_bodyCount_19 : decode cX6_bodyCount 19 = .ok (.getfield 252, 3) := by decide +kernel
theorem dX6_bodyCount_22 : decode cX6_bodyCount 22 = .ok (.ifCond .eq 7, 3) := by decide +kernel
theorem dX6_bodyCount_25 : decode cX6_bodyCount 25 = .ok (.iconst 1, 1) := by decide +kernel
theorem dX6_bodyCount_26 : decode cX6_bodyCount 26 = .ok (.goto 4, 3) := by decide +kernel
theorem dX6_bodyCount_29 : decode cX6_bodyCount 29 = .ok (.iconst 0, 1) := by decide +kernel
theorem dX6_bodyCount_30 : decode cX6_bodyCount 30 = .ok (.iadd, 1) := by decide +kernel
theorem dX6_bodyCount_31 : decode cX6_bodyCount 31 = .ok (.istore_n 1, 1) := by decide +kernel
theorem dX6_bodyCount_32 : decode cX6_bodyCount 32 = .ok (.iinc 2 1, 3) := by decide +kernel
theorem dX6_bodyCount_35 : decode cX6_bodyCount 35 = .ok (.goto (-31), 3) := by decide +kernel
theorem dX6_bodyCount_38 : decode cX6_bodyCount 38 = .ok (.iload_n 1, 1) := by decide +kernel
theorem dX6_bodyCount_39 : decode cX6_bodyCount 39 = .ok (.ireturn, 1) := by decide +kernel
theorem dX6_makeRoom_0 : decode cX6_makeRoom 0 = .ok (.iconst 0, 1) := by decide +kernel
theorem dX6_makeRoom_1 : decode cX6_makeRoom 1 = .ok (.istore_n 1, 1) := by decide +kernel
theorem dX6_makeRoom_2 : decode cX6_makeRoom 2 = .ok (.aload_n 0, 1) := by decide +kernel
theorem dX6_makeRoom_3 : decode cX6_makeRoom 3 = .ok (.invokevirtual 270, 3) := by decide +kernel
theorem dX6_makeRoom_6 : decode cX6_makeRoom 6 = .ok (.aload_n 0, 1) := by decide +kernel
theorem dX6_makeRoom_7 : decode cX6_makeRoom 7 = .ok (.getfield 71, 3) := by decide +kernel
theorem dX6_makeRoom_10 : decode cX6_makeRoom 10 = .ok (.isub, 1) := by decide +kernel
theorem dX6_makeRoom_11 : decode cX6_makeRoom 11 = .ok (.istore_n 2, 1) := by decide +kernel
theorem dX6_makeRoom_12 : decode cX6_makeRoom 12 = .ok (.iload_n 2, 1) := by decide +kernel
theorem dX6_makeRoom_13 : decode cX6_makeRoom 13 = .ok (.ifCond .le 32, 3) := by decide +kernel
theorem dX6_makeRoom_16 : decode cX6_makeRoom 16 = .ok (.aload_n 0, 1) := by decide +kernel
theorem dX6_makeRoom_17 : decode cX6_makeRoom 17 = .ok (.invokevirtual 438, 3) := by decide +kernel
theorem dX6_makeRoom_20 : decode cX6_makeRoom 20 = .ok (.istore_n 3, 1) := by decide +kernel
theorem dX6_makeRoom_21 : decode cX6_makeRoom 21 = .ok (.iload_n 3, 1) := by decide +kernel
theorem dX6_makeRoom_22 : decode cX6_makeRoom 22 = .ok (.iconst (-1), 1) := by decide +kernel
theorem dX6_makeRoom_23 : decode cX6_makeRoom 23 = .ok (.if_icmp .eq 16, 3) := by decide +kernel
theorem dX6_makeRoom_26 : decode cX6_makeRoom 26 = .ok (.aload_n 0, 1) := by decide +kernel
theorem dX6_makeRoom_27 : decode cX6_makeRoom 27 = .ok (.aload_n 0, 1) := by decide +kernel
theorem dX6_makeRoom_28 : decode cX6_makeRoom 28 = .ok (.getfield 37, 3) := by decide +kernel
theorem dX6_makeRoom_31 : decode cX6_makeRoom 31 = .ok (.iload_n 3, 1) := by decide +kernel
theorem dX6_makeRoom_32 : decode cX6_makeRoom 32 = .ok (.aaload, 1) := by decide +kernel
theorem dX6_makeRoom_33 : decode cX6_makeRoom 33 = .ok (.invokevirtual 266, 3) := by decide +kernel
theorem dX6_makeRoom_36 : decode cX6_makeRoom 36 = .ok (.iinc 1 1, 3) := by decide +kernel
theorem dX6_makeRoom_39 : decode cX6_makeRoom 39 = .ok (.iinc 2 (-1), 3) := by decide +kernel
theorem dX6_makeRoom_42 : decode cX6_makeRoom 42 = .ok (.goto (-30), 3) := by decide +kernel
theorem dX6_makeRoom_45 : decode cX6_makeRoom 45 = .ok (.iload_n 1, 1) := by decide +kernel
theorem dX6_makeRoom_46 : decode cX6_makeRoom 46 = .ok (.ireturn, 1) := by decide +kernel
theorem dX6_nextToDrop_0 : decode cX6_nextToDrop 0 = .ok (.iconst (-1), 1) := by decide +kernel
theorem dX6_nextToDrop_1 : decode cX6_nextToDrop 1 = .ok (.istore_n 1, 1) := by decide +kernel
theorem dX6_nextToDrop_2 : decode cX6_nextToDrop 2 = .ok (.iconst 0, 1) := by decide +kernel
theorem dX6_nextToDrop_3 : decode cX6_nextToDrop 3 = .ok (.istore_n 2, 1) := by decide +kernel
theorem dX6_nextToDrop_4 : decode cX6_nextToDrop 4 = .ok (.iload_n 2, 1) := by decide +kernel
theorem dX6_nextToDrop_5 : decode cX6_nextToDrop 5 = .ok (.aload_n 0, 1) := by decide +kernel
theorem dX6_nextToDrop_6 : decode cX6_nextToDrop 6 = .ok (.getfield 65, 3) := by decide +kernel
theorem dX6_nextToDrop_9 : decode cX6_nextToDrop 9 = .ok (.if_icmp .ge 46, 3) := by decide +kernel
theorem dX6_nextToDrop_12 : decode cX6_nextToDrop 12 = .ok (.aload_n 0, 1) := by decide +kernel
theorem dX6_nextToDrop_13 : decode cX6_nextToDrop 13 = .ok (.getfield 37, 3) := by decide +kernel
theorem dX6_nextToDrop_16 : decode cX6_nextToDrop 16 = .ok (.iload_n 2, 1) := by decide +kernel
theorem dX6_nextToDrop_17 : decode cX6_nextToDrop 17 = .ok (.aaload, 1) := by decide +kernel
theorem dX6_nextToDrop_18 : decode cX6_nextToDrop 18 = .ok (.getfield 252, 3) := by decide +kernel
theorem dX6_nextToDrop_21 : decode cX6_nextToDrop 21 = .ok (.ifCond .eq 28, 3) := by decide +kernel
theorem dX6_nextToDrop_24 : decode cX6_nextToDrop 24 = .ok (.iload_n 1, 1) := by decide +kernel
theorem dX6_nextToDrop_25 : decode cX6_nextToDrop 25 = .ok (.iconst (-1), 1) := by decide +kernel
theorem dX6_nextToDrop_26 : decode cX6_nextToDrop 26 = .ok (.if_icmp .eq 21, 3) := by decide +kernel
theorem dX6_nextToDrop_29 : decode cX6_nextToDrop 29 = .ok (.aload_n 0, 1) := by decide +kernel
theorem dX6_nextToDrop_30 : decode cX6_nextToDrop 30 = .ok (.getfield 37, 3) := by decide +kernel
theorem dX6_nextToDrop_33 : decode cX6_nextToDrop 33 = .ok (.iload_n 2, 1) := by decide +kernel
theorem dX6_nextToDrop_34 : decode cX6_nextToDrop 34 = .ok (.aaload, 1) := by decide +kernel
theorem dX6_nextToDrop_35 : decode cX6_nextToDrop 35 = .ok (.aload_n 0, 1) := by decide +kernel
theorem dX6_nextToDrop_36 : decode cX6_nextToDrop 36 = .ok (.getfield 37, 3) := by decide +kernel
theorem dX6_nextToDrop_39 : decode cX6_nextToDrop 39 = .ok (.iload_n 1, 1) := by decide +kernel
theorem dX6_nextToDrop_40 : decode cX6_nextToDrop 40 = .ok (.aaload, 1) := by decide +kernel
theorem dX6_nextToDrop_41 : decode cX6_nextToDrop 41 = .ok (.invokestatic 441, 3) := by decide +kernel
theorem dX6_nextToDrop_44 : decode cX6_nextToDrop 44 = .ok (.ifCond .eq 5, 3) := by decide +kernel
theorem dX6_nextToDrop_47 : decode cX6_nextToDrop 47 = .ok (.iload_n 2, 1) := by decide +kernel
theorem dX6_nextToDrop_48 : decode cX6_nextToDrop 48 = .ok (.istore_n 1, 1) := by decide +kernel
theorem dX6_nextToDrop_49 : decode cX6_nextToDrop 49 = .ok (.iinc 2 1, 3) := by decide +kernel
theorem dX6_nextToDrop_52 : decode cX6_nextToDrop 52 = .ok (.goto (-48), 3) := by decide +kernel
theorem dX6_nextToDrop_55 : decode cX6_nextToDrop 55 = .ok (.iload_n 1, 1) := by decide +kernel
theorem dX6_nextToDrop_56 : decode cX6_nextToDrop 56 = .ok (.ireturn, 1) := by decide +kernel
theorem dX6_isDroppedBefore_0 : decode cX6_isDroppedBefore 0 = .ok (.aload_n 0, 1) := by decide +kernel
theorem dX6_isDroppedBefore_1 : decode cX6_isDroppedBefore 1 = .ok (.getfield 238, 3) := by decide +kernel
theorem dX6_isDroppedBefore_4 : decode cX6_isDroppedBefore 4 = .ok (.bipush 102, 2) := by decide +kernel
theorem dX6_isDroppedBefore_6 : decode cX6_isDroppedBefore 6 = .ok (.if_icmp .ne 7, 3) := by decide +kernel
theorem dX6_isDroppedBefore_9 : decode cX6_isDroppedBefore 9 = .ok (.iconst 1, 1) := by decide +kernel
theorem dX6_isDroppedBefore_10 : decode cX6_isDroppedBefore 10 = .ok (.goto 4, 3) := by decide +kernel
theorem dX6_isDroppedBefore_13 : decode cX6_isDroppedBefore 13 = .ok (.iconst 0, 1) := by decide +kernel
theorem dX6_isDroppedBefore_14 : decode cX6_isDroppedBefore 14 = .ok (.istore_n 2, 1) := by decide +kernel
theorem dX6_isDroppedBefore_15 : decode cX6_isDroppedBefore 15 = .ok (.iload_n 2, 1) := by decide +kernel
theorem dX6_isDroppedBefore_16 : decode cX6_isDroppedBefore 16 = .ok (.aload_n 1, 1) := by decide +kernel
theorem dX6_isDroppedBefore_17 : decode cX6_isDroppedBefore 17 = .ok (.getfield 238, 3) := by decide +kernel
theorem dX6_isDroppedBefore_20 : decode cX6_isDroppedBefore 20 = .ok (.bipush 102, 2) := by decide +kernel
theorem dX6_isDroppedBefore_22 : decode cX6_isDroppedBefore 22 = .ok (.if_icmp .ne 7, 3) := by decide +kernel
theorem dX6_isDroppedBefore_25 : decode cX6_isDroppedBefore 25 = .ok (.iconst 1, 1) := by decide +kernel
theorem dX6_isDroppedBefore_26 : decode cX6_isDroppedBefore 26 = .ok (.goto 4, 3) := by decide +kernel
theorem dX6_isDroppedBefore_29 : decode cX6_isDroppedBefore 29 = .ok (.iconst 0, 1) := by decide +kernel
theorem dX6_isDroppedBefore_30 : decode cX6_isDroppedBefore 30 = .ok (.if_icmp .eq 5, 3) := by decide +kernel
theorem dX6_isDroppedBefore_33 : decode cX6_isDroppedBefore 33 = .ok (.iload_n 2, 1) := by decide +kernel
theorem dX6_isDroppedBefore_34 : decode cX6_isDroppedBefore 34 = .ok (.ireturn, 1) := by decide +kernel
theorem dX6_isDroppedBefore_35 : decode cX6_isDroppedBefore 35 = .ok (.aload_n 0, 1) := by decide +kernel
theorem dX6_isDroppedBefore_36 : decode cX6_isDroppedBefore 36 = .ok (.getfield 233, 3) := by decide +kernel
theorem dX6_isDroppedBefore_39 : decode cX6_isDroppedBefore 39 = .ok (.aload_n 1, 1) := by decide +kernel
theorem dX6_isDroppedBefore_40 : decode cX6_isDroppedBefore 40 = .ok (.getfield 233, 3) := by decide +kernel
theorem dX6_isDroppedBefore_43 : decode cX6_isDroppedBefore 43 = .ok (.if_icmp .ge 7, 3) := by decide +kernel
theorem dX6_isDroppedBefore_46 : decode cX6_isDroppedBefore 46 = .ok (.iconst 1, 1) := by decide +kernel
theorem dX6_isDroppedBefore_47 : decode cX6_isDroppedBefore 47 = .ok (.goto 4, 3) := by decide +kernel
theorem dX6_isDroppedBefore_50 : decode cX6_isDroppedBefore 50 = .ok (.iconst 0, 1) := by decide +kernel
theorem dX6_isDroppedBefore_51 : decode cX6_isDroppedBefore 51 = .ok (.ireturn, 1) := by decide +kernel
theorem dX6_dropBody_0 : decode cX6_dropBody 0 = .ok (.aload_n 0, 1) := by decide +kernel
theorem dX6_dropBody_1 : decode cX6_dropBody 1 = .ok (.getfield 25, 3) := by decide +kernel
theorem dX6_dropBody_4 : decode cX6_dropBody 4 = .ok (.aload_n 1, 1) := by decide +kernel
theorem dX6_dropBody_5 : decode cX6_dropBody 5 = .ok (.getfield 226, 3) := by decide +kernel
theorem dX6_dropBody_8 : decode cX6_dropBody 8 = .ok (.aaload, 1) := by decide +kernel
theorem dX6_dropBody_9 : decode cX6_dropBody 9 = .ok (.astore_n 2, 1) := by decide +kernel
theorem dX6_dropBody_10 : decode cX6_dropBody 10 = .ok (.iconst 0, 1) := by decide +kernel
theorem dX6_dropBody_11 : decode cX6_dropBody 11 = .ok (.istore_n 3, 1) := by decide +kernel
theorem dX6_dropBody_12 : decode cX6_dropBody 12 = .ok (.iload_n 3, 1) := by decide +kernel
theorem dX6_dropBody_13 : decode cX6_dropBody 13 = .ok (.aload_n 2, 1) := by decide +kernel
theorem dX6_dropBody_14 : decode cX6_dropBody 14 = .ok (.getfield 146, 3) := by decide +kernel
theorem dX6_dropBody_17 : decode cX6_dropBody 17 = .ok (.if_icmp .ge 40, 3) := by decide +kernel
theorem dX6_dropBody_20 : decode cX6_dropBody 20 = .ok (.aload_n 0, 1) := by decide +kernel
theorem dX6_dropBody_21 : decode cX6_dropBody 21 = .ok (.getfield 55, 3) := by decide +kernel
theorem dX6_dropBody_24 : decode cX6_dropBody 24 = .ok (.aload_n 1, 1) := by decide +kernel
theorem dX6_dropBody_25 : decode cX6_dropBody 25 = .ok (.getfield 255, 3) := by decide +kernel
theorem dX6_dropBody_28 : decode cX6_dropBody 28 = .ok (.aload_n 2, 1) := by decide +kernel
theorem dX6_dropBody_29 : decode cX6_dropBody 29 = .ok (.getfield 151, 3) := by decide +kernel
theorem dX6_dropBody_32 : decode cX6_dropBody 32 = .ok (.iload_n 3, 1) := by decide +kernel
theorem dX6_dropBody_33 : decode cX6_dropBody 33 = .ok (.aaload, 1) := by decide +kernel
theorem dX6_dropBody_34 : decode cX6_dropBody 34 = .ok (.invokevirtual 172, 3) := by decide +kernel
theorem dX6_dropBody_37 : decode cX6_dropBody 37 = .ok (.pop, 1) := by decide +kernel
theorem dX6_dropBody_38 : decode cX6_dropBody 38 = .ok (.aload_n 1, 1) := by decide +kernel
theorem dX6_dropBody_39 : decode cX6_dropBody 39 = .ok (.getfield 435, 3) := by decide +kernel
theorem dX6_dropBody_42 : decode cX6_dropBody 42 = .ok (.iload_n 3, 1) := by decide +kernel
theorem dX6_dropBody_43 : decode cX6_dropBody 43 = .ok (.aload_n 0, 1) := by decide +kernel
theorem dX6_dropBody_44 : decode cX6_dropBody 44 = .ok (.getfield 55, 3) := by decide +kernel
theorem dX6_dropBody_47 : decode cX6_dropBody 47 = .ok (.getfield 180, 3) := by decide +kernel
theorem dX6_dropBody_50 : decode cX6_dropBody 50 = .ok (.iastore, 1) := by decide +kernel
theorem dX6_dropBody_51 : decode cX6_dropBody 51 = .ok (.iinc 3 1, 3) := by decide +kernel
theorem dX6_dropBody_54 : decode cX6_dropBody 54 = .ok (.goto (-42), 3) := by decide +kernel
theorem dX6_dropBody_57 : decode cX6_dropBody 57 = .ok (.aload_n 1, 1) := by decide +kernel
theorem dX6_dropBody_58 : decode cX6_dropBody 58 = .ok (.aload_n 2, 1) := by decide +kernel
theorem dX6_dropBody_59 : decode cX6_dropBody 59 = .ok (.getfield 146, 3) := by decide +kernel
theorem dX6_dropBody_62 : decode cX6_dropBody 62 = .ok (.putfield 432, 3) := by decide +kernel
theorem dX6_dropBody_65 : decode cX6_dropBody 65 = .ok (.aload_n 1, 1) := by decide +kernel
theorem dX6_dropBody_66 : decode cX6_dropBody 66 = .ok (.aload_n 0, 1) := by decide +kernel
theorem dX6_dropBody_67 : decode cX6_dropBody 67 = .ok (.getfield 74, 3) := by decide +kernel
theorem dX6_dropBody_70 : decode cX6_dropBody 70 = .ok (.putfield 444, 3) := by decide +kernel
theorem dX6_dropBody_73 : decode cX6_dropBody 73 = .ok (.aload_n 1, 1) := by decide +kernel
theorem dX6_dropBody_74 : decode cX6_dropBody 74 = .ok (.iconst 0, 1) := by decide +kernel
theorem dX6_dropBody_75 : decode cX6_dropBody 75 = .ok (.putfield 252, 3) := by decide +kernel
theorem dX6_dropBody_78 : decode cX6_dropBody 78 = .ok (.aload_n 1, 1) := by decide +kernel
theorem dX6_dropBody_79 : decode cX6_dropBody 79 = .ok (.getfield 255, 3) := by decide +kernel
theorem dX6_dropBody_82 : decode cX6_dropBody 82 = .ok (.invokevirtual 117, 3) := by decide +kernel
theorem dX6_dropBody_85 : decode cX6_dropBody 85 = .ok (.aload_n 1, 1) := by decide +kernel
theorem dX6_dropBody_86 : decode cX6_dropBody 86 = .ok (.aload_n 1, 1) := by decide +kernel
theorem dX6_dropBody_87 : decode cX6_dropBody 87 = .ok (.getfield 238, 3) := by decide +kernel
theorem dX6_dropBody_90 : decode cX6_dropBody 90 = .ok (.bipush 102, 2) := by decide +kernel
theorem dX6_dropBody_92 : decode cX6_dropBody 92 = .ok (.if_icmp .ne 8, 3) := by decide +kernel
theorem dX6_dropBody_95 : decode cX6_dropBody 95 = .ok (.bipush 98, 2) := by decide +kernel
theorem dX6_dropBody_97 : decode cX6_dropBody 97 = .ok (.goto 5, 3) := by decide +kernel
theorem dX6_dropBody_100 : decode cX6_dropBody 100 = .ok (.bipush 112, 2) := by decide +kernel
theorem dX6_dropBody_102 : decode cX6_dropBody 102 = .ok (.putfield 238, 3) := by decide +kernel
theorem dX6_dropBody_105 : decode cX6_dropBody 105 = .ok (.return_, 1) := by decide +kernel
theorem dX6_isOpenToVoteOf_0 : decode cX6_isOpenToVoteOf 0 = .ok (.aload_n 1, 1) := by decide +kernel
theorem dX6_isOpenToVoteOf_1 : decode cX6_isOpenToVoteOf 1 = .ok (.getfield 223, 3) := by decide +kernel
theorem dX6_isOpenToVoteOf_4 : decode cX6_isOpenToVoteOf 4 = .ok (.iload_n 0, 1) := by decide +kernel
theorem dX6_isOpenToVoteOf_5 : decode cX6_isOpenToVoteOf 5 = .ok (.if_icmp .eq 23, 3) := by decide +kernel
theorem dX6_isOpenToVoteOf_8 : decode cX6_isOpenToVoteOf 8 = .ok (.aload_n 1, 1) := by decide +kernel
theorem dX6_isOpenToVoteOf_9 : decode cX6_isOpenToVoteOf 9 = .ok (.getfield 252, 3) := by decide +kernel
theorem dX6_isOpenToVoteOf_12 : decode cX6_isOpenToVoteOf 12 = .ok (.ifCond .eq 16, 3) := by decide +kernel
theorem dX6_isOpenToVoteOf_15 : decode cX6_isOpenToVoteOf 15 = .ok (.aload_n 1, 1) := by decide +kernel
theorem dX6_isOpenToVoteOf_16 : decode cX6_isOpenToVoteOf 16 = .ok (.getfield 238, 3) := by decide +kernel
theorem dX6_isOpenToVoteOf_19 : decode cX6_isOpenToVoteOf 19 = .ok (.bipush 102, 2) := by decide +kernel
theorem dX6_isOpenToVoteOf_21 : decode cX6_isOpenToVoteOf 21 = .ok (.if_icmp .eq 7, 3) := by decide +kernel
theorem dX6_isOpenToVoteOf_24 : decode cX6_isOpenToVoteOf 24 = .ok (.iconst 1, 1) := by decide +kernel
theorem dX6_isOpenToVoteOf_25 : decode cX6_isOpenToVoteOf 25 = .ok (.goto 4, 3) := by decide +kernel
theorem dX6_isOpenToVoteOf_28 : decode cX6_isOpenToVoteOf 28 = .ok (.iconst 0, 1) := by decide +kernel
theorem dX6_isOpenToVoteOf_29 : decode cX6_isOpenToVoteOf 29 = .ok (.ireturn, 1) := by decide +kernel
theorem dX6_isReviewedBefore_0 : decode cX6_isReviewedBefore 0 = .ok (.aload_n 1, 1) := by decide +kernel
theorem dX6_isReviewedBefore_1 : decode cX6_isReviewedBefore 1 = .ok (.getfield 230, 3) := by decide +kernel
theorem dX6_isReviewedBefore_4 : decode cX6_isReviewedBefore 4 = .ok (.aload_n 2, 1) := by decide +kernel
theorem dX6_isReviewedBefore_5 : decode cX6_isReviewedBefore 5 = .ok (.getfield 230, 3) := by decide +kernel
theorem dX6_isReviewedBefore_8 : decode cX6_isReviewedBefore 8 = .ok (.if_icmp .eq 20, 3) := by decide +kernel
theorem dX6_isReviewedBefore_11 : decode cX6_isReviewedBefore 11 = .ok (.aload_n 1, 1) := by decide +kernel
theorem dX6_isReviewedBefore_12 : decode cX6_isReviewedBefore 12 = .ok (.getfield 230, 3) := by decide +kernel
theorem dX6_isReviewedBefore_15 : decode cX6_isReviewedBefore 15 = .ok (.aload_n 2, 1) := by decide +kernel
theorem dX6_isReviewedBefore_16 : decode cX6_isReviewedBefore 16 = .ok (.getfield 230, 3) := by decide +kernel
theorem dX6_isReviewedBefore_19 : decode cX6_isReviewedBefore 19 = .ok (.if_icmp .ge 7, 3) := by decide +kernel
theorem dX6_isReviewedBefore_22 : decode cX6_isReviewedBefore 22 = .ok (.iconst 1, 1) := by decide +kernel
theorem dX6_isReviewedBefore_23 : decode cX6_isReviewedBefore 23 = .ok (.goto 4, 3) := by decide +kernel
theorem dX6_isReviewedBefore_26 : decode cX6_isReviewedBefore 26 = .ok (.iconst 0, 1) := by decide +kernel
theorem dX6_isReviewedBefore_27 : decode cX6_isReviewedBefore 27 = .ok (.ireturn, 1) := by decide +kernel
theorem dX6_isReviewedBefore_28 : decode cX6_isReviewedBefore 28 = .ok (.aload_n 0, 1) := by decide +kernel
theorem dX6_isReviewedBefore_29 : decode cX6_isReviewedBefore 29 = .ok (.getfield 25, 3) := by decide +kernel
theorem dX6_isReviewedBefore_32 : decode cX6_isReviewedBefore 32 = .ok (.aload_n 1, 1) := by decide +kernel
theorem dX6_isReviewedBefore_33 : decode cX6_isReviewedBefore 33 = .ok (.getfield 226, 3) := by decide +kernel
theorem dX6_isReviewedBefore_36 : decode cX6_isReviewedBefore 36 = .ok (.aaload, 1) := by decide +kernel
theorem dX6_isReviewedBefore_37 : decode cX6_isReviewedBefore 37 = .ok (.getfield 139, 3) := by decide +kernel
theorem dX6_isReviewedBefore_40 : decode cX6_isReviewedBefore 40 = .ok (.aload_n 0, 1) := by decide +kernel
theorem dX6_isReviewedBefore_41 : decode cX6_isReviewedBefore 41 = .ok (.getfield 25, 3) := by decide +kernel
theorem dX6_isReviewedBefore_44 : decode cX6_isReviewedBefore 44 = .ok (.aload_n 2, 1) := by decide +kernel
theorem dX6_isReviewedBefore_45 : decode cX6_isReviewedBefore 45 = .ok (.getfield 226, 3) := by decide +kernel
theorem dX6_isReviewedBefore_48 : decode cX6_isReviewedBefore 48 = .ok (.aaload, 1) := by decide +kernel
theorem dX6_isReviewedBefore_49 : decode cX6_isReviewedBefore 49 = .ok (.getfield 139, 3) := by decide +kernel
theorem dX6_isReviewedBefore_52 : decode cX6_isReviewedBefore 52 = .ok (.if_icmp .ge 7, 3) := by decide +kernel
theorem dX6_isReviewedBefore_55 : decode cX6_isReviewedBefore 55 = .ok (.iconst 1, 1) := by decide +kernel
theorem dX6_isReviewedBefore_56 : decode cX6_isReviewedBefore 56 = .ok (.goto 4, 3) := by decide +kernel
theorem dX6_isReviewedBefore_59 : decode cX6_isReviewedBefore 59 = .ok (.iconst 0, 1) := by decide +kernel
theorem dX6_isReviewedBefore_60 : decode cX6_isReviewedBefore 60 = .ok (.ireturn, 1) := by decide +kernel
theorem dX6_commonDivisor_0 : decode cX6_commonDivisor 0 = .ok (.iload_n 0, 1) := by decide +kernel
theorem dX6_commonDivisor_1 : decode cX6_commonDivisor 1 = .ok (.istore_n 2, 1) := by decide +kernel
theorem dX6_commonDivisor_2 : decode cX6_commonDivisor 2 = .ok (.iload_n 1, 1) := by decide +kernel
theorem dX6_commonDivisor_3 : decode cX6_commonDivisor 3 = .ok (.istore_n 3, 1) := by decide +kernel
theorem dX6_commonDivisor_4 : decode cX6_commonDivisor 4 = .ok (.iconst 0, 1) := by decide +kernel
theorem dX6_commonDivisor_5 : decode cX6_commonDivisor 5 = .ok (.istore 4, 2) := by decide +kernel
theorem dX6_commonDivisor_7 : decode cX6_commonDivisor 7 = .ok (.iload 4, 2) := by decide +kernel
theorem dX6_commonDivisor_9 : decode cX6_commonDivisor 9 = .ok (.bipush 100, 2) := by decide +kernel
theorem dX6_commonDivisor_11 : decode cX6_commonDivisor 11 = .ok (.if_icmp .ge 23, 3) := by decide +kernel
theorem dX6_commonDivisor_14 : decode cX6_commonDivisor 14 = .ok (.iload_n 3, 1) := by decide +kernel
theorem dX6_commonDivisor_15 : decode cX6_commonDivisor 15 = .ok (.ifCond .eq 19, 3) := by decide +kernel
theorem dX6_commonDivisor_18 : decode cX6_commonDivisor 18 = .ok (.iload_n 2, 1) := by decide +kernel
theorem dX6_commonDivisor_19 : decode cX6_commonDivisor 19 = .ok (.iload_n 3, 1) := by decide +kernel
theorem dX6_commonDivisor_20 : decode cX6_commonDivisor 20 = .ok (.irem, 1) := by decide +kernel
theorem dX6_commonDivisor_21 : decode cX6_commonDivisor 21 = .ok (.istore 5, 2) := by decide +kernel
theorem dX6_commonDivisor_23 : decode cX6_commonDivisor 23 = .ok (.iload_n 3, 1) := by decide +kernel
theorem dX6_commonDivisor_24 : decode cX6_commonDivisor 24 = .ok (.istore_n 2, 1) := by decide +kernel
theorem dX6_commonDivisor_25 : decode cX6_commonDivisor 25 = .ok (.iload 5, 2) := by decide +kernel
theorem dX6_commonDivisor_27 : decode cX6_commonDivisor 27 = .ok (.istore_n 3, 1) := by decide +kernel
theorem dX6_commonDivisor_28 : decode cX6_commonDivisor 28 = .ok (.iinc 4 1, 3) := by decide +kernel
theorem dX6_commonDivisor_31 : decode cX6_commonDivisor 31 = .ok (.goto (-24), 3) := by decide +kernel
theorem dX6_commonDivisor_34 : decode cX6_commonDivisor 34 = .ok (.iload_n 2, 1) := by decide +kernel
theorem dX6_commonDivisor_35 : decode cX6_commonDivisor 35 = .ok (.ireturn, 1) := by decide +kernel
theorem dX6_pointsOf_0 : decode cX6_pointsOf 0 = .ok (.aload_n 0, 1) := by decide +kernel
theorem dX6_pointsOf_1 : decode cX6_pointsOf 1 = .ok (.iload_n 1, 1) := by decide +kernel
theorem dX6_pointsOf_2 : decode cX6_pointsOf 2 = .ok (.invokevirtual 321, 3) := by decide +kernel
theorem dX6_pointsOf_5 : decode cX6_pointsOf 5 = .ok (.aload_n 0, 1) := by decide +kernel
theorem dX6_pointsOf_6 : decode cX6_pointsOf 6 = .ok (.invokevirtual 447, 3) := by decide +kernel
theorem dX6_pointsOf_9 : decode cX6_pointsOf 9 = .ok (.freturn, 1) := by decide +kernel
theorem dX6_beltOf_0 : decode cX6_beltOf 0 = .ok (.aload_n 0, 1) := by decide +kernel
theorem dX6_beltOf_1 : decode cX6_beltOf 1 = .ok (.iload_n 1, 1) := by decide +kernel
theorem dX6_beltOf_2 : decode cX6_beltOf 2 = .ok (.invokevirtual 321, 3) := by decide +kernel
theorem dX6_beltOf_5 : decode cX6_beltOf 5 = .ok (.aload_n 0, 1) := by decide +kernel
theorem dX6_beltOf_6 : decode cX6_beltOf 6 = .ok (.invokevirtual 451, 3) := by decide +kernel
theorem dX6_beltOf_9 : decode cX6_beltOf 9 = .ok (.ireturn, 1) := by decide +kernel
theorem dX6_takeWorks_0 : decode cX6_takeWorks 0 = .ok (.aload_n 0, 1) := by decide +kernel
theorem dX6_takeWorks_1 : decode cX6_takeWorks 1 = .ok (.invokevirtual 454, 3) := by decide +kernel
theorem dX6_takeWorks_4 : decode cX6_takeWorks 4 = .ok (.iconst 0, 1) := by decide +kernel
theorem dX6_takeWorks_5 : decode cX6_takeWorks 5 = .ok (.istore_n 2, 1) := by decide +kernel
theorem dX6_takeWorks_6 : decode cX6_takeWorks 6 = .ok (.iload_n 2, 1) := by decide +kernel
theorem dX6_takeWorks_7 : decode cX6_takeWorks 7 = .ok (.aload_n 0, 1) := by decide +kernel
theorem dX6_takeWorks_8 : decode cX6_takeWorks 8 = .ok (.getfield 65, 3) := by decide +kernel
theorem dX6_takeWorks_11 : decode cX6_takeWorks 11 = .ok (.if_icmp .ge 72, 3) := by decide +kernel
theorem dX6_takeWorks_14 : decode cX6_takeWorks 14 = .ok (.aload_n 0, 1) := by decide +kernel
theorem dX6_takeWorks_15 : decode cX6_takeWorks 15 = .ok (.getfield 37, 3) := by decide +kernel
theorem dX6_takeWorks_18 : decode cX6_takeWorks 18 = .ok (.iload_n 2, 1) := by decide +kernel
theorem dX6_takeWorks_19 : decode cX6_takeWorks 19 = .ok (.aaload, 1) := by decide +kernel
theorem dX6_takeWorks_20 : decode cX6_takeWorks 20 = .ok (.astore_n 3, 1) := by decide +kernel
theorem dX6_takeWorks_21 : decode cX6_takeWorks 21 = .ok (.aload_n 3, 1) := by decide +kernel
theorem dX6_takeWorks_22 : decode cX6_takeWorks 22 = .ok (.getfield 223, 3) := by decide +kernel
theorem dX6_takeWorks_25 : decode cX6_takeWorks 25 = .ok (.iload_n 1, 1) := by decide +kernel
theorem dX6_takeWorks_26 : decode cX6_takeWorks 26 = .ok (.if_icmp .ne 51, 3) := by decide +kernel
theorem dX6_takeWorks_29 : decode cX6_takeWorks 29 = .ok (.aload_n 3, 1) := by decide +kernel
theorem dX6_takeWorks_30 : decode cX6_takeWorks 30 = .ok (.invokevirtual 390, 3) := by decide +kernel
theorem dX6_takeWorks_33 : decode cX6_takeWorks 33 = .ok (.ifCond .eq 44, 3) := by decide +kernel
theorem dX6_takeWorks_36 : decode cX6_takeWorks 36 = .ok (.aload_n 0, 1) := by decide +kernel
theorem dX6_takeWorks_37 : decode cX6_takeWorks 37 = .ok (.getfield 45, 3) := by decide +kernel
theorem dX6_takeWorks_40 : decode cX6_takeWorks 40 = .ok (.aload_n 3, 1) := by decide +kernel
theorem dX6_takeWorks_41 : decode cX6_takeWorks 41 = .ok (.getfield 226, 3) := by decide +kernel
theorem dX6_takeWorks_44 : decode cX6_takeWorks 44 = .ok (.iaload, 1) := by decide +kernel
theorem dX6_takeWorks_45 : decode cX6_takeWorks 45 = .ok (.istore 4, 2) := by decide +kernel
theorem dX6_takeWorks_47 : decode cX6_takeWorks 47 = .ok (.iload 4, 2) := by decide +kernel
theorem dX6_takeWorks_49 : decode cX6_takeWorks 49 = .ok (.iconst (-1), 1) := by decide +kernel
theorem dX6_takeWorks_50 : decode cX6_takeWorks 50 = .ok (.if_icmp .eq 17, 3) := by decide +kernel
theorem dX6_takeWorks_53 : decode cX6_takeWorks 53 = .ok (.aload_n 3, 1) := by decide +kernel
theorem dX6_takeWorks_54 : decode cX6_takeWorks 54 = .ok (.aload_n 0, 1) := by decide +kernel
theorem dX6_takeWorks_55 : decode cX6_takeWorks 55 = .ok (.getfield 37, 3) := by decide +kernel
theorem dX6_takeWorks_58 : decode cX6_takeWorks 58 = .ok (.iload 4, 2) := by decide +kernel
theorem dX6_takeWorks_60 : decode cX6_takeWorks 60 = .ok (.aaload, 1) := by decide +kernel
theorem dX6_takeWorks_61 : decode cX6_takeWorks 61 = .ok (.invokevirtual 457, 3) := by decide +kernel
theorem dX6_takeWorks_64 : decode cX6_takeWorks 64 = .ok (.ifCond .eq 13, 3) := by decide +kernel
theorem dX6_takeWorks_67 : decode cX6_takeWorks 67 = .ok (.aload_n 0, 1) := by decide +kernel
theorem dX6_takeWorks_68 : decode cX6_takeWorks 68 = .ok (.getfield 45, 3) := by decide +kernel
theorem dX6_takeWorks_71 : decode cX6_takeWorks 71 = .ok (.aload_n 3, 1) := by decide +kernel
theorem dX6_takeWorks_72 : decode cX6_takeWorks 72 = .ok (.getfield 226, 3) := by decide +kernel
theorem dX6_takeWorks_75 : decode cX6_takeWorks 75 = .ok (.iload_n 2, 1) := by decide +kernel
theorem dX6_takeWorks_76 : decode cX6_takeWorks 76 = .ok (.iastore, 1) := by decide +kernel
theorem dX6_takeWorks_77 : decode cX6_takeWorks 77 = .ok (.iinc 2 1, 3) := by decide +kernel
theorem dX6_takeWorks_80 : decode cX6_takeWorks 80 = .ok (.goto (-74), 3) := by decide +kernel
theorem dX6_takeWorks_83 : decode cX6_takeWorks 83 = .ok (.return_, 1) := by decide +kernel
theorem dX6_takeNone_0 : decode cX6_takeNone 0 = .ok (.iconst 0, 1) := by decide +kernel
theorem dX6_takeNone_1 : decode cX6_takeNone 1 = .ok (.istore_n 1, 1) := by decide +kernel
theorem dX6_takeNone_2 : decode cX6_takeNone 2 = .ok (.iload_n 1, 1) := by decide +kernel
theorem dX6_takeNone_3 : decode cX6_takeNone 3 = .ok (.bipush 8, 2) := by decide +kernel
theorem dX6_takeNone_5 : decode cX6_takeNone 5 = .ok (.if_icmp .ge 16, 3) := by decide +kernel
theorem dX6_takeNone_8 : decode cX6_takeNone 8 = .ok (.aload_n 0, 1) := by decide +kernel
theorem dX6_takeNone_9 : decode cX6_takeNone 9 = .ok (.getfield 45, 3) := by decide +kernel
theorem dX6_takeNone_12 : decode cX6_takeNone 12 = .ok (.iload_n 1, 1) := by decide +kernel
theorem dX6_takeNone_13 : decode cX6_takeNone 13 = .ok (.iconst (-1), 1) := by decide +kernel
theorem dX6_takeNone_14 : decode cX6_takeNone 14 = .ok (.iastore, 1) := by decide +kernel
theorem dX6_takeNone_15 : decode cX6_takeNone 15 = .ok (.iinc 1 1, 3) := by decide +kernel
theorem dX6_takeNone_18 : decode cX6_takeNone 18 = .ok (.goto (-16), 3) := by decide +kernel
theorem dX6_takeNone_21 : decode cX6_takeNone 21 = .ok (.return_, 1) := by decide +kernel
theorem dX6_takenPoints_0 : decode cX6_takenPoints 0 = .ok (.fconst 0, 1) := by decide +kernel
theorem dX6_takenPoints_1 : decode cX6_takenPoints 1 = .ok (.fstore_n 1, 1) := by decide +kernel
theorem dX6_takenPoints_2 : decode cX6_takenPoints 2 = .ok (.iconst 0, 1) := by decide +kernel
theorem dX6_takenPoints_3 : decode cX6_takenPoints 3 = .ok (.istore_n 2, 1) := by decide +kernel
theorem dX6_takenPoints_4 : decode cX6_takenPoints 4 = .ok (.iload_n 2, 1) := by decide +kernel
theorem dX6_takenPoints_5 : decode cX6_takenPoints 5 = .ok (.aload_n 0, 1) := by decide +kernel
theorem dX6_takenPoints_6 : decode cX6_takenPoints 6 = .ok (.getfield 58, 3) := by decide +kernel
theorem dX6_takenPoints_9 : decode cX6_takenPoints 9 = .ok (.if_icmp .ge 72, 3) := by decide +kernel
theorem dX6_takenPoints_12 : decode cX6_takenPoints 12 = .ok (.aload_n 0, 1) := by decide +kernel
theorem dX6_takenPoints_13 : decode cX6_takenPoints 13 = .ok (.getfield 45, 3) := by decide +kernel
theorem dX6_takenPoints_16 : decode cX6_takenPoints 16 = .ok (.iload_n 2, 1) := by decide +kernel
theorem dX6_takenPoints_17 : decode cX6_takenPoints 17 = .ok (.iaload, 1) := by decide +kernel
theorem dX6_takenPoints_18 : decode cX6_takenPoints 18 = .ok (.istore_n 3, 1) := by decide +kernel
theorem dX6_takenPoints_19 : decode cX6_takenPoints 19 = .ok (.iload_n 3, 1) := by decide +kernel
theorem dX6_takenPoints_20 : decode cX6_takenPoints 20 = .ok (.iconst (-1), 1) := by decide +kernel
theorem dX6_takenPoints_21 : decode cX6_takenPoints 21 = .ok (.if_icmp .eq 54, 3) := by decide +kernel
theorem dX6_takenPoints_24 : decode cX6_takenPoints 24 = .ok (.aload_n 0, 1) := by decide +kernel
theorem dX6_takenPoints_25 : decode cX6_takenPoints 25 = .ok (.getfield 25, 3) := by decide +kernel
theorem dX6_takenPoints_28 : decode cX6_takenPoints 28 = .ok (.iload_n 2, 1) := by decide +kernel
theorem dX6_takenPoints_29 : decode cX6_takenPoints 29 = .ok (.aaload, 1) := by decide +kernel
theorem dX6_takenPoints_30 : decode cX6_takenPoints 30 = .ok (.getfield 139, 3) := by decide +kernel
theorem dX6_takenPoints_33 : decode cX6_takenPoints 33 = .ok (.aload_n 0, 1) := by decide +kernel
theorem dX6_takenPoints_34 : decode cX6_takenPoints 34 = .ok (.getfield 37, 3) := by decide +kernel
theorem dX6_takenPoints_37 : decode cX6_takenPoints 37 = .ok (.iload_n 3, 1) := by decide +kernel
theorem dX6_takenPoints_38 : decode cX6_takenPoints 38 = .ok (.aaload, 1) := by decide +kernel
theorem dX6_takenPoints_39 : decode cX6_takenPoints 39 = .ok (.invokevirtual 302, 3) := by decide +kernel
theorem dX6_takenPoints_42 : decode cX6_takenPoints 42 = .ok (.imul, 1) := by decide +kernel
theorem dX6_takenPoints_43 : decode cX6_takenPoints 43 = .ok (.istore 4, 2) := by decide +kernel
theorem dX6_takenPoints_45 : decode cX6_takenPoints 45 = .ok (.aload_n 0, 1) := by decide +kernel
theorem dX6_takenPoints_46 : decode cX6_takenPoints 46 = .ok (.getfield 37, 3) := by decide +kernel
theorem dX6_takenPoints_49 : decode cX6_takenPoints 49 = .ok (.iload_n 3, 1) := by decide +kernel
theorem dX6_takenPoints_50 : decode cX6_takenPoints 50 = .ok (.aaload, 1) := by decide +kernel
theorem dX6_takenPoints_51 : decode cX6_takenPoints 51 = .ok (.invokevirtual 305, 3) := by decide +kernel
theorem dX6_takenPoints_54 : decode cX6_takenPoints 54 = .ok (.istore 5, 2) := by decide +kernel
theorem dX6_takenPoints_56 : decode cX6_takenPoints 56 = .ok (.fload_n 1, 1) := by decide +kernel
theorem dX6_takenPoints_57 : decode cX6_takenPoints 57 = .ok (.iload 5, 2) := by decide +kernel
theorem dX6_takenPoints_59 : decode cX6_takenPoints 59 = .ok (.ifCond .ne 7, 3) := by decide +kernel
theorem dX6_takenPoints_62 : decode cX6_takenPoints 62 = .ok (.fconst 0, 1) := by decide +kernel
theorem dX6_takenPoints_63 : decode cX6_takenPoints 63 = .ok (.goto 10, 3) := by decide +kernel
theorem dX6_takenPoints_66 : decode cX6_takenPoints 66 = .ok (.iload 4, 2) := by decide +kernel
theorem dX6_takenPoints_68 : decode cX6_takenPoints 68 = .ok (.i2f, 1) := by decide +kernel
theorem dX6_takenPoints_69 : decode cX6_takenPoints 69 = .ok (.iload 5, 2) := by decide +kernel
theorem dX6_takenPoints_71 : decode cX6_takenPoints 71 = .ok (.i2f, 1) := by decide +kernel
theorem dX6_takenPoints_72 : decode cX6_takenPoints 72 = .ok (.fdiv, 1) := by decide +kernel
theorem dX6_takenPoints_73 : decode cX6_takenPoints 73 = .ok (.fadd, 1) := by decide +kernel
theorem dX6_takenPoints_74 : decode cX6_takenPoints 74 = .ok (.fstore_n 1, 1) := by decide +kernel
theorem dX6_takenPoints_75 : decode cX6_takenPoints 75 = .ok (.iinc 2 1, 3) := by decide +kernel
theorem dX6_takenPoints_78 : decode cX6_takenPoints 78 = .ok (.goto (-74), 3) := by decide +kernel
theorem dX6_takenPoints_81 : decode cX6_takenPoints 81 = .ok (.fload_n 1, 1) := by decide +kernel
theorem dX6_takenPoints_82 : decode cX6_takenPoints 82 = .ok (.freturn, 1) := by decide +kernel
theorem dX6_takenBelt_0 : decode cX6_takenBelt 0 = .ok (.iconst 0, 1) := by decide +kernel
theorem dX6_takenBelt_1 : decode cX6_takenBelt 1 = .ok (.istore_n 1, 1) := by decide +kernel
theorem dX6_takenBelt_2 : decode cX6_takenBelt 2 = .ok (.iconst 0, 1) := by decide +kernel
theorem dX6_takenBelt_3 : decode cX6_takenBelt 3 = .ok (.istore_n 2, 1) := by decide +kernel
theorem dX6_takenBelt_4 : decode cX6_takenBelt 4 = .ok (.iload_n 2, 1) := by decide +kernel
theorem dX6_takenBelt_5 : decode cX6_takenBelt 5 = .ok (.aload_n 0, 1) := by decide +kernel
theorem dX6_takenBelt_6 : decode cX6_takenBelt 6 = .ok (.getfield 58, 3) := by decide +kernel
theorem dX6_takenBelt_9 : decode cX6_takenBelt 9 = .ok (.if_icmp .ge 27, 3) := by decide +kernel
theorem dX6_takenBelt_12 : decode cX6_takenBelt 12 = .ok (.iload_n 1, 1) := by decide +kernel
theorem dX6_takenBelt_13 : decode cX6_takenBelt 13 = .ok (.aload_n 0, 1) := by decide +kernel
theorem dX6_takenBelt_14 : decode cX6_takenBelt 14 = .ok (.getfield 45, 3) := by decide +kernel
theorem dX6_takenBelt_17 : decode cX6_takenBelt 17 = .ok (.iload_n 2, 1) := by decide +kernel
theorem dX6_takenBelt_18 : decode cX6_takenBelt 18 = .ok (.iaload, 1) := by decide +kernel
theorem dX6_takenBelt_19 : decode cX6_takenBelt 19 = .ok (.iconst (-1), 1) := by decide +kernel
theorem dX6_takenBelt_20 : decode cX6_takenBelt 20 = .ok (.if_icmp .ne 7, 3) := by decide +kernel
theorem dX6_takenBelt_23 : decode cX6_takenBelt 23 = .ok (.iconst 0, 1) := by decide +kernel
theorem dX6_takenBelt_24 : decode cX6_takenBelt 24 = .ok (.goto 4, 3) := by decide +kernel
theorem dX6_takenBelt_27 : decode cX6_takenBelt 27 = .ok (.iconst 1, 1) := by decide +kernel
theorem dX6_takenBelt_28 : decode cX6_takenBelt 28 = .ok (.iadd, 1) := by decide +kernel
theorem dX6_takenBelt_29 : decode cX6_takenBelt 29 = .ok (.istore_n 1, 1) := by decide +kernel
theorem dX6_takenBelt_30 : decode cX6_takenBelt 30 = .ok (.iinc 2 1, 3) := by decide +kernel
theorem dX6_takenBelt_33 : decode cX6_takenBelt 33 = .ok (.goto (-29), 3) := by decide +kernel
theorem dX6_takenBelt_36 : decode cX6_takenBelt 36 = .ok (.aload_n 0, 1) := by decide +kernel
theorem dX6_takenBelt_37 : decode cX6_takenBelt 37 = .ok (.invokevirtual 447, 3) := by decide +kernel
theorem dX6_takenBelt_40 : decode cX6_takenBelt 40 = .ok (.fstore_n 2, 1) := by decide +kernel
theorem dX6_takenBelt_41 : decode cX6_takenBelt 41 = .ok (.iconst 0, 1) := by decide +kernel
theorem dX6_takenBelt_42 : decode cX6_takenBelt 42 = .ok (.istore_n 3, 1) := by decide +kernel
theorem dX6_takenBelt_43 : decode cX6_takenBelt 43 = .ok (.iconst 1, 1) := by decide +kernel
theorem dX6_takenBelt_44 : decode cX6_takenBelt 44 = .ok (.istore 4, 2) := by decide +kernel
theorem dX6_takenBelt_46 : decode cX6_takenBelt 46 = .ok (.iload 4, 2) := by decide +kernel
theorem dX6_takenBelt_48 : decode cX6_takenBelt 48 = .ok (.iconst 5, 1) := by decide +kernel
theorem dX6_takenBelt_49 : decode cX6_takenBelt 49 = .ok (.if_icmp .gt 33, 3) := by decide +kernel
theorem dX6_takenBelt_52 : decode cX6_takenBelt 52 = .ok (.iload_n 1, 1) := by decide +kernel
theorem dX6_takenBelt_53 : decode cX6_takenBelt 53 = .ok (.iload 4, 2) := by decide +kernel
theorem dX6_takenBelt_55 : decode cX6_takenBelt 55 = .ok (.if_icmp .lt 21, 3) := by decide +kernel
theorem dX6_takenBelt_58 : decode cX6_takenBelt 58 = .ok (.fload_n 2, 1) := by decide +kernel
theorem dX6_takenBelt_59 : decode cX6_takenBelt 59 = .ok (.iconst 2, 1) := by decide +kernel
theorem dX6_takenBelt_60 : decode cX6_takenBelt 60 = .ok (.iload 4, 2) := by decide +kernel
theorem dX6_takenBelt_62 : decode cX6_takenBelt 62 = .ok (.imul, 1) := by decide +kernel
theorem dX6_takenBelt_63 : decode cX6_takenBelt 63 = .ok (.iload 4, 2) := by decide +kernel
theorem dX6_takenBelt_65 : decode cX6_takenBelt 65 = .ok (.iconst 1, 1) := by decide +kernel
theorem dX6_takenBelt_66 : decode cX6_takenBelt 66 = .ok (.iadd, 1) := by decide +kernel
theorem dX6_takenBelt_67 : decode cX6_takenBelt 67 = .ok (.imul, 1) := by decide +kernel
theorem dX6_takenBelt_68 : decode cX6_takenBelt 68 = .ok (.i2f, 1) := by decide +kernel
theorem dX6_takenBelt_69 : decode cX6_takenBelt 69 = .ok (.fcmp .l, 1) := by decide +kernel
theorem dX6_takenBelt_70 : decode cX6_takenBelt 70 = .ok (.ifCond .lt 6, 3) := by decide +kernel
theorem dX6_takenBelt_73 : decode cX6_takenBelt 73 = .ok (.iload 4, 2) := by decide +kernel
theorem dX6_takenBelt_75 : decode cX6_takenBelt 75 = .ok (.istore_n 3, 1) := by decide +kernel
theorem dX6_takenBelt_76 : decode cX6_takenBelt 76 = .ok (.iinc 4 1, 3) := by decide +kernel
theorem dX6_takenBelt_79 : decode cX6_takenBelt 79 = .ok (.goto (-33), 3) := by decide +kernel
theorem dX6_takenBelt_82 : decode cX6_takenBelt 82 = .ok (.iload_n 3, 1) := by decide +kernel
theorem dX6_takenBelt_83 : decode cX6_takenBelt 83 = .ok (.ireturn, 1) := by decide +kernel
theorem dX6_isRankedBefore_0 : decode cX6_isRankedBefore 0 = .ok (.aload_n 0, 1) := by decide +kernel
theorem dX6_isRankedBefore_1 : decode cX6_isRankedBefore 1 = .ok (.iload_n 1, 1) := by decide +kernel
theorem dX6_isRankedBefore_2 : decode cX6_isRankedBefore 2 = .ok (.invokevirtual 295, 3) := by decide +kernel
theorem dX6_isRankedBefore_5 : decode cX6_isRankedBefore 5 = .ok (.istore_n 3, 1) := by decide +kernel
theorem dX6_isRankedBefore_6 : decode cX6_isRankedBefore 6 = .ok (.aload_n 0, 1) := by decide +kernel
theorem dX6_isRankedBefore_7 : decode cX6_isRankedBefore 7 = .ok (.iload_n 2, 1) := by decide +kernel
theorem dX6_isRankedBefore_8 : decode cX6_isRankedBefore 8 = .ok (.invokevirtual 295, 3) := by decide +kernel
theorem dX6_isRankedBefore_11 : decode cX6_isRankedBefore 11 = .ok (.istore 4, 2) := by decide +kernel
theorem dX6_isRankedBefore_13 : decode cX6_isRankedBefore 13 = .ok (.iload_n 3, 1) := by decide +kernel
theorem dX6_isRankedBefore_14 : decode cX6_isRankedBefore 14 = .ok (.iload 4, 2) := by decide +kernel
theorem dX6_isRankedBefore_16 : decode cX6_isRankedBefore 16 = .ok (.if_icmp .eq 15, 3) := by decide +kernel
theorem dX6_isRankedBefore_19 : decode cX6_isRankedBefore 19 = .ok (.iload_n 3, 1) := by decide +kernel
theorem dX6_isRankedBefore_20 : decode cX6_isRankedBefore 20 = .ok (.iload 4, 2) := by decide +kernel
theorem dX6_isRankedBefore_22 : decode cX6_isRankedBefore 22 = .ok (.if_icmp .le 7, 3) := by decide +kernel
theorem dX6_isRankedBefore_25 : decode cX6_isRankedBefore 25 = .ok (.iconst 1, 1) := by decide +kernel
theorem dX6_isRankedBefore_26 : decode cX6_isRankedBefore 26 = .ok (.goto 4, 3) := by decide +kernel
theorem dX6_isRankedBefore_29 : decode cX6_isRankedBefore 29 = .ok (.iconst 0, 1) := by decide +kernel
theorem dX6_isRankedBefore_30 : decode cX6_isRankedBefore 30 = .ok (.ireturn, 1) := by decide +kernel
theorem dX6_isRankedBefore_31 : decode cX6_isRankedBefore 31 = .ok (.aload_n 0, 1) := by decide +kernel
theorem dX6_isRankedBefore_32 : decode cX6_isRankedBefore 32 = .ok (.iload_n 1, 1) := by decide +kernel
theorem dX6_isRankedBefore_33 : decode cX6_isRankedBefore 33 = .ok (.invokevirtual 327, 3) := by decide +kernel
theorem dX6_isRankedBefore_36 : decode cX6_isRankedBefore 36 = .ok (.fstore 5, 2) := by decide +kernel
theorem dX6_isRankedBefore_38 : decode cX6_isRankedBefore 38 = .ok (.aload_n 0, 1) := by decide +kernel
theorem dX6_isRankedBefore_39 : decode cX6_isRankedBefore 39 = .ok (.iload_n 2, 1) := by decide +kernel
theorem dX6_isRankedBefore_40 : decode cX6_isRankedBefore 40 = .ok (.invokevirtual 327, 3) := by decide +kernel
theorem dX6_isRankedBefore_43 : decode cX6_isRankedBefore 43 = .ok (.fstore 6, 2) := by decide +kernel
theorem dX6_isRankedBefore_45 : decode cX6_isRankedBefore 45 = .ok (.fload 5, 2) := by decide +kernel
theorem dX6_isRankedBefore_47 : decode cX6_isRankedBefore 47 = .ok (.fload 6, 2) := by decide +kernel
theorem dX6_isRankedBefore_49 : decode cX6_isRankedBefore 49 = .ok (.fcmp .l, 1) := by decide +kernel
theorem dX6_isRankedBefore_50 : decode cX6_isRankedBefore 50 = .ok (.ifCond .eq 17, 3) := by decide +kernel
theorem dX6_isRankedBefore_53 : decode cX6_isRankedBefore 53 = .ok (.fload 5, 2) := by decide +kernel
theorem dX6_isRankedBefore_55 : decode cX6_isRankedBefore 55 = .ok (.fload 6, 2) := by decide +kernel
theorem dX6_isRankedBefore_57 : decode cX6_isRankedBefore 57 = .ok (.fcmp .l, 1) := by decide +kernel
theorem dX6_isRankedBefore_58 : decode cX6_isRankedBefore 58 = .ok (.ifCond .le 7, 3) := by decide +kernel
theorem dX6_isRankedBefore_61 : decode cX6_isRankedBefore 61 = .ok (.iconst 1, 1) := by decide +kernel
theorem dX6_isRankedBefore_62 : decode cX6_isRankedBefore 62 = .ok (.goto 4, 3) := by decide +kernel
theorem dX6_isRankedBefore_65 : decode cX6_isRankedBefore 65 = .ok (.iconst 0, 1) := by decide +kernel
theorem dX6_isRankedBefore_66 : decode cX6_isRankedBefore 66 = .ok (.ireturn, 1) := by decide +kernel
theorem dX6_isRankedBefore_67 : decode cX6_isRankedBefore 67 = .ok (.iload_n 1, 1) := by decide +kernel
theorem dX6_isRankedBefore_68 : decode cX6_isRankedBefore 68 = .ok (.iload_n 2, 1) := by decide +kernel
theorem dX6_isRankedBefore_69 : decode cX6_isRankedBefore 69 = .ok (.if_icmp .ge 7, 3) := by decide +kernel
theorem dX6_isRankedBefore_72 : decode cX6_isRankedBefore 72 = .ok (.iconst 1, 1) := by decide +kernel
theorem dX6_isRankedBefore_73 : decode cX6_isRankedBefore 73 = .ok (.goto 4, 3) := by decide +kernel
theorem dX6_isRankedBefore_76 : decode cX6_isRankedBefore 76 = .ok (.iconst 0, 1) := by decide +kernel
theorem dX6_isRankedBefore_77 : decode cX6_isRankedBefore 77 = .ok (.ireturn, 1) := by decide +kernel
theorem dX6_isTheBody_0 : decode cX6_isTheBody 0 = .ok (.aload_n 1, 1) := by decide +kernel
theorem dX6_isTheBody_1 : decode cX6_isTheBody 1 = .ok (.getfield 105, 3) := by decide +kernel
theorem dX6_isTheBody_4 : decode cX6_isTheBody 4 = .ok (.aload_n 2, 1) := by decide +kernel
theorem dX6_isTheBody_5 : decode cX6_isTheBody 5 = .ok (.getfield 229, 3) := by decide +kernel
theorem dX6_isTheBody_8 : decode cX6_isTheBody 8 = .ok (.if_icmp .ne 15, 3) := by decide +kernel
theorem dX6_isTheBody_11 : decode cX6_isTheBody 11 = .ok (.aload_n 1, 1) := by decide +kernel
theorem dX6_isTheBody_12 : decode cX6_isTheBody 12 = .ok (.invokevirtual 461, 3) := by decide +kernel
theorem dX6_isTheBody_15 : decode cX6_isTheBody 15 = .ok (.aload_n 2, 1) := by decide +kernel
theorem dX6_isTheBody_16 : decode cX6_isTheBody 16 = .ok (.getfield 242, 3) := by decide +kernel
theorem dX6_isTheBody_19 : decode cX6_isTheBody 19 = .ok (.lcmp, 1) := by decide +kernel
theorem dX6_isTheBody_20 : decode cX6_isTheBody 20 = .ok (.ifCond .eq 5, 3) := by decide +kernel
theorem dX6_isTheBody_23 : decode cX6_isTheBody 23 = .ok (.iconst 0, 1) := by decide +kernel
theorem dX6_isTheBody_24 : decode cX6_isTheBody 24 = .ok (.ireturn, 1) := by decide +kernel
theorem dX6_isTheBody_25 : decode cX6_isTheBody 25 = .ok (.aload_n 0, 1) := by decide +kernel
theorem dX6_isTheBody_26 : decode cX6_isTheBody 26 = .ok (.getfield 25, 3) := by decide +kernel
theorem dX6_isTheBody_29 : decode cX6_isTheBody 29 = .ok (.aload_n 2, 1) := by decide +kernel
theorem dX6_isTheBody_30 : decode cX6_isTheBody 30 = .ok (.getfield 226, 3) := by decide +kernel
theorem dX6_isTheBody_33 : decode cX6_isTheBody 33 = .ok (.aaload, 1) := by decide +kernel
theorem dX6_isTheBody_34 : decode cX6_isTheBody 34 = .ok (.astore_n 3, 1) := by decide +kernel
theorem dX6_isTheBody_35 : decode cX6_isTheBody 35 = .ok (.iconst 0, 1) := by decide +kernel
theorem dX6_isTheBody_36 : decode cX6_isTheBody 36 = .ok (.istore 4, 2) := by decide +kernel
theorem dX6_isTheBody_38 : decode cX6_isTheBody 38 = .ok (.iload 4, 2) := by decide +kernel
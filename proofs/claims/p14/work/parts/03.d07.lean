theorem dX7_isOneOf_5 : decode cX7_isOneOf 5 = .ok (.iload_n 0, 1) := by decide +kernel
theorem dX7_isOneOf_6 : decode cX7_isOneOf 6 = .ok (.iload_n 2, 1) := by decide +kernel
theorem dX7_isOneOf_7 : decode cX7_isOneOf 7 = .ok (.if_icmp .eq 14, 3) := by decide +kernel
theorem dX7_isOneOf_10 : decode cX7_isOneOf 10 = .ok (.iload_n 0, 1) := by decide +kernel
theorem dX7_isOneOf_11 : decode cX7_isOneOf 11 = .ok (.iload_n 3, 1) := by decide +kernel
theorem dX7_isOneOf_12 : decode cX7_isOneOf 12 = .ok (.if_icmp .eq 9, 3) := by decide +kernel
theorem dX7_isOneOf_15 : decode cX7_isOneOf 15 = .ok (.iload_n 0, 1) := by decide +kernel
theorem dX7_isOneOf_16 : decode cX7_isOneOf 16 = .ok (.iload 4, 2) := by decide +kernel
theorem dX7_isOneOf_18 : decode cX7_isOneOf 18 = .ok (.if_icmp .ne 7, 3) := by decide +kernel
theorem dX7_isOneOf_21 : decode cX7_isOneOf 21 = .ok (.iconst 1, 1) := by decide +kernel
theorem dX7_isOneOf_22 : decode cX7_isOneOf 22 = .ok (.goto 4, 3) := by decide +kernel
theorem dX7_isOneOf_25 : decode cX7_isOneOf 25 = .ok (.iconst 0, 1) := by decide +kernel
theorem dX7_isOneOf_26 : decode cX7_isOneOf 26 = .ok (.ireturn, 1) := by decide +kernel
theorem dX7_isLetter_0 : decode cX7_isLetter 0 = .ok (.iload_n 0, 1) := by decide +kernel
theorem dX7_isLetter_1 : decode cX7_isLetter 1 = .ok (.bipush 110, 2) := by decide +kernel
theorem dX7_isLetter_3 : decode cX7_isLetter 3 = .ok (.bipush 105, 2) := by decide +kernel
theorem dX7_isLetter_5 : decode cX7_isLetter 5 = .ok (.bipush 43, 2) := by decide +kernel
theorem dX7_isLetter_7 : decode cX7_isLetter 7 = .ok (.bipush 45, 2) := by decide +kernel
theorem dX7_isLetter_9 : decode cX7_isLetter 9 = .ok (.invokestatic 153, 3) := by decide +kernel
theorem dX7_isLetter_12 : decode cX7_isLetter 12 = .ok (.ifCond .ne 33, 3) := by decide +kernel
theorem dX7_isLetter_15 : decode cX7_isLetter 15 = .ok (.iload_n 0, 1) := by decide +kernel
theorem dX7_isLetter_16 : decode cX7_isLetter 16 = .ok (.bipush 42, 2) := by decide +kernel
theorem dX7_isLetter_18 : decode cX7_isLetter 18 = .ok (.bipush 37, 2) := by decide +kernel
theorem dX7_isLetter_20 : decode cX7_isLetter 20 = .ok (.bipush 100, 2) := by decide +kernel
theorem dX7_isLetter_22 : decode cX7_isLetter 22 = .ok (.bipush 115, 2) := by decide +kernel
theorem dX7_isLetter_24 : decode cX7_isLetter 24 = .ok (.invokestatic 153, 3) := by decide +kernel
theorem dX7_isLetter_27 : decode cX7_isLetter 27 = .ok (.ifCond .ne 18, 3) := by decide +kernel
theorem dX7_isLetter_30 : decode cX7_isLetter 30 = .ok (.iload_n 0, 1) := by decide +kernel
theorem dX7_isLetter_31 : decode cX7_isLetter 31 = .ok (.bipush 112, 2) := by decide +kernel
theorem dX7_isLetter_33 : decode cX7_isLetter 33 = .ok (.bipush 111, 2) := by decide +kernel
theorem dX7_isLetter_35 : decode cX7_isLetter 35 = .ok (.bipush 91, 2) := by decide +kernel
theorem dX7_isLetter_37 : decode cX7_isLetter 37 = .ok (.bipush 93, 2) := by decide +kernel
theorem dX7_isLetter_39 : decode cX7_isLetter 39 = .ok (.invokestatic 153, 3) := by decide +kernel
theorem dX7_isLetter_42 : decode cX7_isLetter 42 = .ok (.ifCond .eq 7, 3) := by decide +kernel
theorem dX7_isLetter_45 : decode cX7_isLetter 45 = .ok (.iconst 1, 1) := by decide +kernel
theorem dX7_isLetter_46 : decode cX7_isLetter 46 = .ok (.goto 4, 3) := by decide +kernel
theorem dX7_isLetter_49 : decode cX7_isLetter 49 = .ok (.iconst 0, 1) := by decide +kernel
theorem dX7_isLetter_50 : decode cX7_isLetter 50 = .ok (.ireturn, 1) := by decide +kernel
theorem dX7_step_0 : decode cX7_step 0 = .ok (.iload_n 1, 1) := by decide +kernel
theorem dX7_step_1 : decode cX7_step 1 = .ok (.invokestatic 157, 3) := by decide +kernel
theorem dX7_step_4 : decode cX7_step 4 = .ok (.ifCond .eq 22, 3) := by decide +kernel
theorem dX7_step_7 : decode cX7_step 7 = .ok (.iload_n 1, 1) := by decide +kernel
theorem dX7_step_8 : decode cX7_step 8 = .ok (.bipush 110, 2) := by decide +kernel
theorem dX7_step_10 : decode cX7_step 10 = .ok (.if_icmp .ne 22, 3) := by decide +kernel
theorem dX7_step_13 : decode cX7_step 13 = .ok (.iload_n 2, 1) := by decide +kernel
theorem dX7_step_14 : decode cX7_step 14 = .ok (.sipush (-999), 3) := by decide +kernel
theorem dX7_step_17 : decode cX7_step 17 = .ok (.sipush 999, 3) := by decide +kernel
theorem dX7_step_20 : decode cX7_step 20 = .ok (.invokestatic 161, 3) := by decide +kernel
theorem dX7_step_23 : decode cX7_step 23 = .ok (.ifCond .ne 9, 3) := by decide +kernel
theorem dX7_step_26 : decode cX7_step 26 = .ok (.aload_n 0, 1) := by decide +kernel
theorem dX7_step_27 : decode cX7_step 27 = .ok (.iconst 1, 1) := by decide +kernel
theorem dX7_step_28 : decode cX7_step 28 = .ok (.invokevirtual 165, 3) := by decide +kernel
theorem dX7_step_31 : decode cX7_step 31 = .ok (.ireturn, 1) := by decide +kernel
theorem dX7_step_32 : decode cX7_step 32 = .ok (.aload_n 0, 1) := by decide +kernel
theorem dX7_step_33 : decode cX7_step 33 = .ok (.getfield 7, 3) := by decide +kernel
theorem dX7_step_36 : decode cX7_step 36 = .ok (.bipush 24, 2) := by decide +kernel
theorem dX7_step_38 : decode cX7_step 38 = .ok (.if_icmp .ne 9, 3) := by decide +kernel
theorem dX7_step_41 : decode cX7_step 41 = .ok (.aload_n 0, 1) := by decide +kernel
theorem dX7_step_42 : decode cX7_step 42 = .ok (.iconst 2, 1) := by decide +kernel
theorem dX7_step_43 : decode cX7_step 43 = .ok (.invokevirtual 165, 3) := by decide +kernel
theorem dX7_step_46 : decode cX7_step 46 = .ok (.ireturn, 1) := by decide +kernel
theorem dX7_step_47 : decode cX7_step 47 = .ok (.aload_n 0, 1) := by decide +kernel
theorem dX7_step_48 : decode cX7_step 48 = .ok (.getfield 40, 3) := by decide +kernel
theorem dX7_step_51 : decode cX7_step 51 = .ok (.sipush 960, 3) := by decide +kernel
theorem dX7_step_54 : decode cX7_step 54 = .ok (.aload_n 0, 1) := by decide +kernel
theorem dX7_step_55 : decode cX7_step 55 = .ok (.getfield 7, 3) := by decide +kernel
theorem dX7_step_58 : decode cX7_step 58 = .ok (.iadd, 1) := by decide +kernel
theorem dX7_step_59 : decode cX7_step 59 = .ok (.iload_n 1, 1) := by decide +kernel
theorem dX7_step_60 : decode cX7_step 60 = .ok (.castore, 1) := by decide +kernel
theorem dX7_step_61 : decode cX7_step 61 = .ok (.aload_n 0, 1) := by decide +kernel
theorem dX7_step_62 : decode cX7_step 62 = .ok (.getfield 44, 3) := by decide +kernel
theorem dX7_step_65 : decode cX7_step 65 = .ok (.sipush 960, 3) := by decide +kernel
theorem dX7_step_68 : decode cX7_step 68 = .ok (.aload_n 0, 1) := by decide +kernel
theorem dX7_step_69 : decode cX7_step 69 = .ok (.getfield 7, 3) := by decide +kernel
theorem dX7_step_72 : decode cX7_step 72 = .ok (.iadd, 1) := by decide +kernel
theorem dX7_step_73 : decode cX7_step 73 = .ok (.iload_n 1, 1) := by decide +kernel
theorem dX7_step_74 : decode cX7_step 74 = .ok (.bipush 110, 2) := by decide +kernel
theorem dX7_step_76 : decode cX7_step 76 = .ok (.if_icmp .ne 7, 3) := by decide +kernel
theorem dX7_step_79 : decode cX7_step 79 = .ok (.iload_n 2, 1) := by decide +kernel
theorem dX7_step_80 : decode cX7_step 80 = .ok (.goto 4, 3) := by decide +kernel
theorem dX7_step_83 : decode cX7_step 83 = .ok (.iconst 0, 1) := by decide +kernel
theorem dX7_step_84 : decode cX7_step 84 = .ok (.iastore, 1) := by decide +kernel
theorem dX7_step_85 : decode cX7_step 85 = .ok (.aload_n 0, 1) := by decide +kernel
theorem dX7_step_86 : decode cX7_step 86 = .ok (.dup, 1) := by decide +kernel
theorem dX7_step_87 : decode cX7_step 87 = .ok (.getfield 7, 3) := by decide +kernel
theorem dX7_step_90 : decode cX7_step 90 = .ok (.iconst 1, 1) := by decide +kernel
theorem dX7_step_91 : decode cX7_step 91 = .ok (.iadd, 1) := by decide +kernel
theorem dX7_step_92 : decode cX7_step 92 = .ok (.putfield 7, 3) := by decide +kernel
theorem dX7_step_95 : decode cX7_step 95 = .ok (.aload_n 0, 1) := by decide +kernel
theorem dX7_step_96 : decode cX7_step 96 = .ok (.getfield 48, 3) := by decide +kernel
theorem dX7_step_99 : decode cX7_step 99 = .ok (.bipush 40, 2) := by decide +kernel
theorem dX7_step_101 : decode cX7_step 101 = .ok (.aload_n 0, 1) := by decide +kernel
theorem dX7_step_102 : decode cX7_step 102 = .ok (.getfield 7, 3) := by decide +kernel
theorem dX7_step_105 : decode cX7_step 105 = .ok (.iastore, 1) := by decide +kernel
theorem dX7_step_106 : decode cX7_step 106 = .ok (.aload_n 0, 1) := by decide +kernel
theorem dX7_step_107 : decode cX7_step 107 = .ok (.aload_n 0, 1) := by decide +kernel
theorem dX7_step_108 : decode cX7_step 108 = .ok (.getfield 7, 3) := by decide +kernel
theorem dX7_step_111 : decode cX7_step 111 = .ok (.invokevirtual 169, 3) := by decide +kernel
theorem dX7_step_114 : decode cX7_step 114 = .ok (.ireturn, 1) := by decide +kernel
theorem dX7_wipe_0 : decode cX7_wipe 0 = .ok (.aload_n 0, 1) := by decide +kernel
theorem dX7_wipe_1 : decode cX7_wipe 1 = .ok (.getfield 7, 3) := by decide +kernel
theorem dX7_wipe_4 : decode cX7_wipe 4 = .ok (.istore_n 1, 1) := by decide +kernel
theorem dX7_wipe_5 : decode cX7_wipe 5 = .ok (.aload_n 0, 1) := by decide +kernel
theorem dX7_wipe_6 : decode cX7_wipe 6 = .ok (.iconst 0, 1) := by decide +kernel
theorem dX7_wipe_7 : decode cX7_wipe 7 = .ok (.putfield 7, 3) := by decide +kernel
theorem dX7_wipe_10 : decode cX7_wipe 10 = .ok (.aload_n 0, 1) := by decide +kernel
theorem dX7_wipe_11 : decode cX7_wipe 11 = .ok (.getfield 48, 3) := by decide +kernel
theorem dX7_wipe_14 : decode cX7_wipe 14 = .ok (.bipush 40, 2) := by decide +kernel
theorem dX7_wipe_16 : decode cX7_wipe 16 = .ok (.iconst 0, 1) := by decide +kernel
theorem dX7_wipe_17 : decode cX7_wipe 17 = .ok (.iastore, 1) := by decide +kernel
theorem dX7_wipe_18 : decode cX7_wipe 18 = .ok (.aload_n 0, 1) := by decide +kernel
theorem dX7_wipe_19 : decode cX7_wipe 19 = .ok (.iload_n 1, 1) := by decide +kernel
theorem dX7_wipe_20 : decode cX7_wipe 20 = .ok (.invokevirtual 169, 3) := by decide +kernel
theorem dX7_wipe_23 : decode cX7_wipe 23 = .ok (.ireturn, 1) := by decide +kernel
theorem dX7_number_0 : decode cX7_number 0 = .ok (.iload_n 1, 1) := by decide +kernel
theorem dX7_number_1 : decode cX7_number 1 = .ok (.sipush (-999), 3) := by decide +kernel
theorem dX7_number_4 : decode cX7_number 4 = .ok (.sipush 999, 3) := by decide +kernel
theorem dX7_number_7 : decode cX7_number 7 = .ok (.invokestatic 161, 3) := by decide +kernel
theorem dX7_number_10 : decode cX7_number 10 = .ok (.ifCond .ne 9, 3) := by decide +kernel
theorem dX7_number_13 : decode cX7_number 13 = .ok (.aload_n 0, 1) := by decide +kernel
theorem dX7_number_14 : decode cX7_number 14 = .ok (.iconst 1, 1) := by decide +kernel
theorem dX7_number_15 : decode cX7_number 15 = .ok (.invokevirtual 165, 3) := by decide +kernel
theorem dX7_number_18 : decode cX7_number 18 = .ok (.ireturn, 1) := by decide +kernel
theorem dX7_number_19 : decode cX7_number 19 = .ok (.iload_n 2, 1) := by decide +kernel
theorem dX7_number_20 : decode cX7_number 20 = .ok (.ifCond .eq 15, 3) := by decide +kernel
theorem dX7_number_23 : decode cX7_number 23 = .ok (.aload_n 0, 1) := by decide +kernel
theorem dX7_number_24 : decode cX7_number 24 = .ok (.getfield 16, 3) := by decide +kernel
theorem dX7_number_27 : decode cX7_number 27 = .ok (.bipush 6, 2) := by decide +kernel
theorem dX7_number_29 : decode cX7_number 29 = .ok (.if_icmp .ne 20, 3) := by decide +kernel
theorem dX7_number_32 : decode cX7_number 32 = .ok (.goto 11, 3) := by decide +kernel
theorem dX7_number_35 : decode cX7_number 35 = .ok (.aload_n 0, 1) := by decide +kernel
theorem dX7_number_36 : decode cX7_number 36 = .ok (.getfield 13, 3) := by decide +kernel
theorem dX7_number_39 : decode cX7_number 39 = .ok (.iconst 4, 1) := by decide +kernel
theorem dX7_number_40 : decode cX7_number 40 = .ok (.if_icmp .ne 9, 3) := by decide +kernel
theorem dX7_number_43 : decode cX7_number 43 = .ok (.aload_n 0, 1) := by decide +kernel
theorem dX7_number_44 : decode cX7_number 44 = .ok (.iconst 2, 1) := by decide +kernel
theorem dX7_number_45 : decode cX7_number 45 = .ok (.invokevirtual 165, 3) := by decide +kernel
theorem dX7_number_48 : decode cX7_number 48 = .ok (.ireturn, 1) := by decide +kernel
theorem dX7_number_49 : decode cX7_number 49 = .ok (.iload_n 2, 1) := by decide +kernel
theorem dX7_number_50 : decode cX7_number 50 = .ok (.ifCond .eq 32, 3) := by decide +kernel
theorem dX7_number_53 : decode cX7_number 53 = .ok (.aload_n 0, 1) := by decide +kernel
theorem dX7_number_54 : decode cX7_number 54 = .ok (.getfield 54, 3) := by decide +kernel
theorem dX7_number_57 : decode cX7_number 57 = .ok (.aload_n 0, 1) := by decide +kernel
theorem dX7_number_58 : decode cX7_number 58 = .ok (.getfield 16, 3) := by decide +kernel
theorem dX7_number_61 : decode cX7_number 61 = .ok (.iload_n 1, 1) := by decide +kernel
theorem dX7_number_62 : decode cX7_number 62 = .ok (.iastore, 1) := by decide +kernel
theorem dX7_number_63 : decode cX7_number 63 = .ok (.aload_n 0, 1) := by decide +kernel
theorem dX7_number_64 : decode cX7_number 64 = .ok (.dup, 1) := by decide +kernel
theorem dX7_number_65 : decode cX7_number 65 = .ok (.getfield 16, 3) := by decide +kernel
theorem dX7_number_68 : decode cX7_number 68 = .ok (.iconst 1, 1) := by decide +kernel
theorem dX7_number_69 : decode cX7_number 69 = .ok (.iadd, 1) := by decide +kernel
theorem dX7_number_70 : decode cX7_number 70 = .ok (.putfield 16, 3) := by decide +kernel
theorem dX7_number_73 : decode cX7_number 73 = .ok (.aload_n 0, 1) := by decide +kernel
theorem dX7_number_74 : decode cX7_number 74 = .ok (.aload_n 0, 1) := by decide +kernel
theorem dX7_number_75 : decode cX7_number 75 = .ok (.getfield 16, 3) := by decide +kernel
theorem dX7_number_78 : decode cX7_number 78 = .ok (.invokevirtual 169, 3) := by decide +kernel
theorem dX7_number_81 : decode cX7_number 81 = .ok (.ireturn, 1) := by decide +kernel
theorem dX7_number_82 : decode cX7_number 82 = .ok (.aload_n 0, 1) := by decide +kernel
theorem dX7_number_83 : decode cX7_number 83 = .ok (.getfield 51, 3) := by decide +kernel
theorem dX7_number_86 : decode cX7_number 86 = .ok (.aload_n 0, 1) := by decide +kernel
theorem dX7_number_87 : decode cX7_number 87 = .ok (.getfield 13, 3) := by decide +kernel
theorem dX7_number_90 : decode cX7_number 90 = .ok (.iload_n 1, 1) := by decide +kernel
theorem dX7_number_91 : decode cX7_number 91 = .ok (.iastore, 1) := by decide +kernel
theorem dX7_number_92 : decode cX7_number 92 = .ok (.aload_n 0, 1) := by decide +kernel
theorem dX7_number_93 : decode cX7_number 93 = .ok (.dup, 1) := by decide +kernel
theorem dX7_number_94 : decode cX7_number 94 = .ok (.getfield 13, 3) := by decide +kernel
theorem dX7_number_97 : decode cX7_number 97 = .ok (.iconst 1, 1) := by decide +kernel
theorem dX7_number_98 : decode cX7_number 98 = .ok (.iadd, 1) := by decide +kernel
theorem dX7_number_99 : decode cX7_number 99 = .ok (.putfield 13, 3) := by decide +kernel
theorem dX7_number_102 : decode cX7_number 102 = .ok (.aload_n 0, 1) := by decide +kernel
theorem dX7_number_103 : decode cX7_number 103 = .ok (.aload_n 0, 1) := by decide +kernel
theorem dX7_number_104 : decode cX7_number 104 = .ok (.getfield 13, 3) := by decide +kernel
theorem dX7_number_107 : decode cX7_number 107 = .ok (.invokevirtual 169, 3) := by decide +kernel
theorem dX7_number_110 : decode cX7_number 110 = .ok (.ireturn, 1) := by decide +kernel
theorem dX7_clears_0 : decode cX7_clears 0 = .ok (.aload_n 0, 1) := by decide +kernel
theorem dX7_clears_1 : decode cX7_clears 1 = .ok (.getfield 13, 3) := by decide +kernel
theorem dX7_clears_4 : decode cX7_clears 4 = .ok (.aload_n 0, 1) := by decide +kernel
theorem dX7_clears_5 : decode cX7_clears 5 = .ok (.getfield 16, 3) := by decide +kernel
theorem dX7_clears_8 : decode cX7_clears 8 = .ok (.iadd, 1) := by decide +kernel
theorem dX7_clears_9 : decode cX7_clears 9 = .ok (.istore_n 1, 1) := by decide +kernel
theorem dX7_clears_10 : decode cX7_clears 10 = .ok (.aload_n 0, 1) := by decide +kernel
theorem dX7_clears_11 : decode cX7_clears 11 = .ok (.iconst 0, 1) := by decide +kernel
theorem dX7_clears_12 : decode cX7_clears 12 = .ok (.putfield 13, 3) := by decide +kernel
theorem dX7_clears_15 : decode cX7_clears 15 = .ok (.aload_n 0, 1) := by decide +kernel
theorem dX7_clears_16 : decode cX7_clears 16 = .ok (.iconst 0, 1) := by decide +kernel
theorem dX7_clears_17 : decode cX7_clears 17 = .ok (.putfield 16, 3) := by decide +kernel
theorem dX7_clears_20 : decode cX7_clears 20 = .ok (.iload_n 1, 1) := by decide +kernel
theorem dX7_clears_21 : decode cX7_clears 21 = .ok (.ireturn, 1) := by decide +kernel
theorem dX7_clear_0 : decode cX7_clear 0 = .ok (.aload_n 0, 1) := by decide +kernel
theorem dX7_clear_1 : decode cX7_clear 1 = .ok (.aload_n 0, 1) := by decide +kernel
theorem dX7_clear_2 : decode cX7_clear 2 = .ok (.invokevirtual 172, 3) := by decide +kernel
theorem dX7_clear_5 : decode cX7_clear 5 = .ok (.invokevirtual 169, 3) := by decide +kernel
theorem dX7_clear_8 : decode cX7_clear 8 = .ok (.ireturn, 1) := by decide +kernel
theorem dX7_partner_0 : decode cX7_partner 0 = .ok (.iconst 0, 1) := by decide +kernel
theorem dX7_partner_1 : decode cX7_partner 1 = .ok (.istore 4, 2) := by decide +kernel
theorem dX7_partner_3 : decode cX7_partner 3 = .ok (.iload_n 2, 1) := by decide +kernel
theorem dX7_partner_4 : decode cX7_partner 4 = .ok (.istore 5, 2) := by decide +kernel
theorem dX7_partner_6 : decode cX7_partner 6 = .ok (.iload 5, 2) := by decide +kernel
theorem dX7_partner_8 : decode cX7_partner 8 = .ok (.iconst 0, 1) := by decide +kernel
theorem dX7_partner_9 : decode cX7_partner 9 = .ok (.aload_n 0, 1) := by decide +kernel
theorem dX7_partner_10 : decode cX7_partner 10 = .ok (.getfield 48, 3) := by decide +kernel
theorem dX7_partner_13 : decode cX7_partner 13 = .ok (.iload_n 1, 1) := by decide +kernel
theorem dX7_partner_14 : decode cX7_partner 14 = .ok (.iaload, 1) := by decide +kernel
theorem dX7_partner_15 : decode cX7_partner 15 = .ok (.iconst 1, 1) := by decide +kernel
theorem dX7_partner_16 : decode cX7_partner 16 = .ok (.isub, 1) := by decide +kernel
theorem dX7_partner_17 : decode cX7_partner 17 = .ok (.invokestatic 161, 3) := by decide +kernel
theorem dX7_partner_20 : decode cX7_partner 20 = .ok (.ifCond .eq 68, 3) := by decide +kernel
theorem dX7_partner_23 : decode cX7_partner 23 = .ok (.iload 4, 2) := by decide +kernel
theorem dX7_partner_25 : decode cX7_partner 25 = .ok (.aload_n 0, 1) := by decide +kernel
theorem dX7_partner_26 : decode cX7_partner 26 = .ok (.getfield 40, 3) := by decide +kernel
theorem dX7_partner_29 : decode cX7_partner 29 = .ok (.bipush 24, 2) := by decide +kernel
theorem dX7_partner_31 : decode cX7_partner 31 = .ok (.iload_n 1, 1) := by decide +kernel
theorem dX7_partner_32 : decode cX7_partner 32 = .ok (.imul, 1) := by decide +kernel
theorem dX7_partner_33 : decode cX7_partner 33 = .ok (.iload 5, 2) := by decide +kernel
theorem dX7_partner_35 : decode cX7_partner 35 = .ok (.iadd, 1) := by decide +kernel
theorem dX7_partner_36 : decode cX7_partner 36 = .ok (.caload, 1) := by decide +kernel
theorem dX7_partner_37 : decode cX7_partner 37 = .ok (.bipush 91, 2) := by decide +kernel
theorem dX7_partner_39 : decode cX7_partner 39 = .ok (.if_icmp .ne 7, 3) := by decide +kernel
theorem dX7_partner_42 : decode cX7_partner 42 = .ok (.iconst 1, 1) := by decide +kernel
theorem dX7_partner_43 : decode cX7_partner 43 = .ok (.goto 25, 3) := by decide +kernel
theorem dX7_partner_46 : decode cX7_partner 46 = .ok (.aload_n 0, 1) := by decide +kernel
theorem dX7_partner_47 : decode cX7_partner 47 = .ok (.getfield 40, 3) := by decide +kernel
theorem dX7_partner_50 : decode cX7_partner 50 = .ok (.bipush 24, 2) := by decide +kernel
theorem dX7_partner_52 : decode cX7_partner 52 = .ok (.iload_n 1, 1) := by decide +kernel
theorem dX7_partner_53 : decode cX7_partner 53 = .ok (.imul, 1) := by decide +kernel
theorem dX7_partner_54 : decode cX7_partner 54 = .ok (.iload 5, 2) := by decide +kernel
theorem dX7_partner_56 : decode cX7_partner 56 = .ok (.iadd, 1) := by decide +kernel
theorem dX7_partner_57 : decode cX7_partner 57 = .ok (.caload, 1) := by decide +kernel
theorem dX7_partner_58 : decode cX7_partner 58 = .ok (.bipush 93, 2) := by decide +kernel
theorem dX7_partner_60 : decode cX7_partner 60 = .ok (.if_icmp .ne 7, 3) := by decide +kernel
theorem dX7_partner_63 : decode cX7_partner 63 = .ok (.iconst (-1), 1) := by decide +kernel
theorem dX7_partner_64 : decode cX7_partner 64 = .ok (.goto 4, 3) := by decide +kernel
theorem dX7_partner_67 : decode cX7_partner 67 = .ok (.iconst 0, 1) := by decide +kernel
theorem dX7_partner_68 : decode cX7_partner 68 = .ok (.iadd, 1) := by decide +kernel
theorem dX7_partner_69 : decode cX7_partner 69 = .ok (.istore 4, 2) := by decide +kernel
theorem dX7_partner_71 : decode cX7_partner 71 = .ok (.iload 4, 2) := by decide +kernel
theorem dX7_partner_73 : decode cX7_partner 73 = .ok (.ifCond .ne 6, 3) := by decide +kernel
theorem dX7_partner_76 : decode cX7_partner 76 = .ok (.iload 5, 2) := by decide +kernel
theorem dX7_partner_78 : decode cX7_partner 78 = .ok (.ireturn, 1) := by decide +kernel
theorem dX7_partner_79 : decode cX7_partner 79 = .ok (.iload 5, 2) := by decide +kernel
theorem dX7_partner_81 : decode cX7_partner 81 = .ok (.iload_n 3, 1) := by decide +kernel
theorem dX7_partner_82 : decode cX7_partner 82 = .ok (.iadd, 1) := by decide +kernel
theorem dX7_partner_83 : decode cX7_partner 83 = .ok (.istore 5, 2) := by decide +kernel
theorem dX7_partner_85 : decode cX7_partner 85 = .ok (.goto (-79), 3) := by decide +kernel
theorem dX7_partner_88 : decode cX7_partner 88 = .ok (.iconst (-1), 1) := by decide +kernel
theorem dX7_partner_89 : decode cX7_partner 89 = .ok (.ireturn, 1) := by decide +kernel
theorem dX7_isWhole_0 : decode cX7_isWhole 0 = .ok (.iconst 0, 1) := by decide +kernel
theorem dX7_isWhole_1 : decode cX7_isWhole 1 = .ok (.istore_n 2, 1) := by decide +kernel
theorem dX7_isWhole_2 : decode cX7_isWhole 2 = .ok (.iconst 1, 1) := by decide +kernel
theorem dX7_isWhole_3 : decode cX7_isWhole 3 = .ok (.istore_n 3, 1) := by decide +kernel
theorem dX7_isWhole_4 : decode cX7_isWhole 4 = .ok (.iconst 0, 1) := by decide +kernel
theorem dX7_isWhole_5 : decode cX7_isWhole 5 = .ok (.istore 4, 2) := by decide +kernel
theorem dX7_isWhole_7 : decode cX7_isWhole 7 = .ok (.iload 4, 2) := by decide +kernel
theorem dX7_isWhole_9 : decode cX7_isWhole 9 = .ok (.aload_n 0, 1) := by decide +kernel
theorem dX7_isWhole_10 : decode cX7_isWhole 10 = .ok (.getfield 48, 3) := by decide +kernel
theorem dX7_isWhole_13 : decode cX7_isWhole 13 = .ok (.iload_n 1, 1) := by decide +kernel
theorem dX7_isWhole_14 : decode cX7_isWhole 14 = .ok (.iaload, 1) := by decide +kernel
theorem dX7_isWhole_15 : decode cX7_isWhole 15 = .ok (.if_icmp .ge 69, 3) := by decide +kernel
theorem dX7_isWhole_18 : decode cX7_isWhole 18 = .ok (.iload_n 2, 1) := by decide +kernel
theorem dX7_isWhole_19 : decode cX7_isWhole 19 = .ok (.aload_n 0, 1) := by decide +kernel
theorem dX7_isWhole_20 : decode cX7_isWhole 20 = .ok (.getfield 40, 3) := by decide +kernel
theorem dX7_isWhole_23 : decode cX7_isWhole 23 = .ok (.bipush 24, 2) := by decide +kernel
theorem dX7_isWhole_25 : decode cX7_isWhole 25 = .ok (.iload_n 1, 1) := by decide +kernel
theorem dX7_isWhole_26 : decode cX7_isWhole 26 = .ok (.imul, 1) := by decide +kernel
theorem dX7_isWhole_27 : decode cX7_isWhole 27 = .ok (.iload 4, 2) := by decide +kernel
theorem dX7_isWhole_29 : decode cX7_isWhole 29 = .ok (.iadd, 1) := by decide +kernel
theorem dX7_isWhole_30 : decode cX7_isWhole 30 = .ok (.caload, 1) := by decide +kernel
theorem dX7_isWhole_31 : decode cX7_isWhole 31 = .ok (.bipush 91, 2) := by decide +kernel
theorem dX7_isWhole_33 : decode cX7_isWhole 33 = .ok (.if_icmp .ne 7, 3) := by decide +kernel
theorem dX7_isWhole_36 : decode cX7_isWhole 36 = .ok (.iconst 1, 1) := by decide +kernel
theorem dX7_isWhole_37 : decode cX7_isWhole 37 = .ok (.goto 25, 3) := by decide +kernel
theorem dX7_isWhole_40 : decode cX7_isWhole 40 = .ok (.aload_n 0, 1) := by decide +kernel
theorem dX7_isWhole_41 : decode cX7_isWhole 41 = .ok (.getfield 40, 3) := by decide +kernel
theorem dX7_isWhole_44 : decode cX7_isWhole 44 = .ok (.bipush 24, 2) := by decide +kernel
theorem dX7_isWhole_46 : decode cX7_isWhole 46 = .ok (.iload_n 1, 1) := by decide +kernel
theorem dX7_isWhole_47 : decode cX7_isWhole 47 = .ok (.imul, 1) := by decide +kernel
theorem dX7_isWhole_48 : decode cX7_isWhole 48 = .ok (.iload 4, 2) := by decide +kernel
theorem dX7_isWhole_50 : decode cX7_isWhole 50 = .ok (.iadd, 1) := by decide +kernel
theorem dX7_isWhole_51 : decode cX7_isWhole 51 = .ok (.caload, 1) := by decide +kernel
theorem dX7_isWhole_52 : decode cX7_isWhole 52 = .ok (.bipush 93, 2) := by decide +kernel
theorem dX7_isWhole_54 : decode cX7_isWhole 54 = .ok (.if_icmp .ne 7, 3) := by decide +kernel
theorem dX7_isWhole_57 : decode cX7_isWhole 57 = .ok (.iconst (-1), 1) := by decide +kernel
theorem dX7_isWhole_58 : decode cX7_isWhole 58 = .ok (.goto 4, 3) := by decide +kernel
theorem dX7_isWhole_61 : decode cX7_isWhole 61 = .ok (.iconst 0, 1) := by decide +kernel
theorem dX7_isWhole_62 : decode cX7_isWhole 62 = .ok (.iadd, 1) := by decide +kernel
theorem dX7_isWhole_63 : decode cX7_isWhole 63 = .ok (.istore_n 2, 1) := by decide +kernel
theorem dX7_isWhole_64 : decode cX7_isWhole 64 = .ok (.iload_n 3, 1) := by decide +kernel
theorem dX7_isWhole_65 : decode cX7_isWhole 65 = .ok (.ifCond .eq 11, 3) := by decide +kernel
theorem dX7_isWhole_68 : decode cX7_isWhole 68 = .ok (.iload_n 2, 1) := by decide +kernel
theorem dX7_isWhole_69 : decode cX7_isWhole 69 = .ok (.ifCond .lt 7, 3) := by decide +kernel
theorem dX7_isWhole_72 : decode cX7_isWhole 72 = .ok (.iconst 1, 1) := by decide +kernel
theorem dX7_isWhole_73 : decode cX7_isWhole 73 = .ok (.goto 4, 3) := by decide +kernel
theorem dX7_isWhole_76 : decode cX7_isWhole 76 = .ok (.iconst 0, 1) := by decide +kernel
theorem dX7_isWhole_77 : decode cX7_isWhole 77 = .ok (.istore_n 3, 1) := by decide +kernel
theorem dX7_isWhole_78 : decode cX7_isWhole 78 = .ok (.iinc 4 1, 3) := by decide +kernel
theorem dX7_isWhole_81 : decode cX7_isWhole 81 = .ok (.goto (-74), 3) := by decide +kernel
theorem dX7_isWhole_84 : decode cX7_isWhole 84 = .ok (.iload_n 3, 1) := by decide +kernel
theorem dX7_isWhole_85 : decode cX7_isWhole 85 = .ok (.ifCond .eq 11, 3) := by decide +kernel
theorem dX7_isWhole_88 : decode cX7_isWhole 88 = .ok (.iload_n 2, 1) := by decide +kernel
theorem dX7_isWhole_89 : decode cX7_isWhole 89 = .ok (.ifCond .ne 7, 3) := by decide +kernel
theorem dX7_isWhole_92 : decode cX7_isWhole 92 = .ok (.iconst 1, 1) := by decide +kernel
theorem dX7_isWhole_93 : decode cX7_isWhole 93 = .ok (.goto 4, 3) := by decide +kernel
theorem dX7_isWhole_96 : decode cX7_isWhole 96 = .ok (.iconst 0, 1) := by decide +kernel
theorem dX7_isWhole_97 : decode cX7_isWhole 97 = .ok (.ireturn, 1) := by decide +kernel
theorem dX7_needs_0 : decode cX7_needs 0 = .ok (.iload_n 0, 1) := by decide +kernel
theorem dX7_needs_1 : decode cX7_needs 1 = .ok (.bipush 43, 2) := by decide +kernel
theorem dX7_needs_3 : decode cX7_needs 3 = .ok (.bipush 45, 2) := by decide +kernel
theorem dX7_needs_5 : decode cX7_needs 5 = .ok (.bipush 42, 2) := by decide +kernel
theorem dX7_needs_7 : decode cX7_needs 7 = .ok (.bipush 37, 2) := by decide +kernel
theorem dX7_needs_9 : decode cX7_needs 9 = .ok (.invokestatic 153, 3) := by decide +kernel
theorem dX7_needs_12 : decode cX7_needs 12 = .ok (.ifCond .ne 9, 3) := by decide +kernel
theorem dX7_needs_15 : decode cX7_needs 15 = .ok (.iload_n 0, 1) := by decide +kernel
theorem dX7_needs_16 : decode cX7_needs 16 = .ok (.bipush 115, 2) := by decide +kernel
theorem dX7_needs_18 : decode cX7_needs 18 = .ok (.if_icmp .ne 7, 3) := by decide +kernel
theorem dX7_needs_21 : decode cX7_needs 21 = .ok (.iconst 2, 1) := by decide +kernel
theorem dX7_needs_22 : decode cX7_needs 22 = .ok (.goto 20, 3) := by decide +kernel
theorem dX7_needs_25 : decode cX7_needs 25 = .ok (.iload_n 0, 1) := by decide +kernel
theorem dX7_needs_26 : decode cX7_needs 26 = .ok (.bipush 110, 2) := by decide +kernel
theorem dX7_needs_28 : decode cX7_needs 28 = .ok (.if_icmp .eq 9, 3) := by decide +kernel
theorem dX7_needs_31 : decode cX7_needs 31 = .ok (.iload_n 0, 1) := by decide +kernel
theorem dX7_needs_32 : decode cX7_needs 32 = .ok (.bipush 105, 2) := by decide +kernel
theorem dX7_needs_34 : decode cX7_needs 34 = .ok (.if_icmp .ne 7, 3) := by decide +kernel
theorem dX7_needs_37 : decode cX7_needs 37 = .ok (.iconst 0, 1) := by decide +kernel
theorem dX7_needs_38 : decode cX7_needs 38 = .ok (.goto 4, 3) := by decide +kernel
theorem dX7_needs_41 : decode cX7_needs 41 = .ok (.iconst 1, 1) := by decide +kernel
theorem dX7_needs_42 : decode cX7_needs 42 = .ok (.ireturn, 1) := by decide +kernel
theorem dX7_runs_0 : decode cX7_runs 0 = .ok (.aload_n 0, 1) := by decide +kernel
theorem dX7_runs_1 : decode cX7_runs 1 = .ok (.iconst 0, 1) := by decide +kernel
theorem dX7_runs_2 : decode cX7_runs 2 = .ok (.putfield 128, 3) := by decide +kernel
theorem dX7_runs_5 : decode cX7_runs 5 = .ok (.aload_n 0, 1) := by decide +kernel
theorem dX7_runs_6 : decode cX7_runs 6 = .ok (.iconst 0, 1) := by decide +kernel
theorem dX7_runs_7 : decode cX7_runs 7 = .ok (.putfield 131, 3) := by decide +kernel
theorem dX7_runs_10 : decode cX7_runs 10 = .ok (.aload_n 0, 1) := by decide +kernel
theorem dX7_runs_11 : decode cX7_runs 11 = .ok (.iconst 0, 1) := by decide +kernel
theorem dX7_runs_12 : decode cX7_runs 12 = .ok (.putfield 134, 3) := by decide +kernel
theorem dX7_runs_15 : decode cX7_runs 15 = .ok (.iconst 0, 1) := by decide +kernel
theorem dX7_runs_16 : decode cX7_runs 16 = .ok (.istore_n 3, 1) := by decide +kernel
theorem dX7_runs_17 : decode cX7_runs 17 = .ok (.iconst 0, 1) := by decide +kernel
theorem dX7_runs_18 : decode cX7_runs 18 = .ok (.istore 4, 2) := by decide +kernel
theorem dX7_runs_20 : decode cX7_runs 20 = .ok (.iload 4, 2) := by decide +kernel
theorem dX7_runs_22 : decode cX7_runs 22 = .ok (.aload_n 0, 1) := by decide +kernel
theorem dX7_runs_23 : decode cX7_runs 23 = .ok (.getfield 48, 3) := by decide +kernel
theorem dX7_runs_26 : decode cX7_runs 26 = .ok (.iload_n 1, 1) := by decide +kernel
theorem dX7_runs_27 : decode cX7_runs 27 = .ok (.iaload, 1) := by decide +kernel
theorem dX7_runs_28 : decode cX7_runs 28 = .ok (.if_icmp .ge 348, 3) := by decide +kernel
theorem dX7_runs_31 : decode cX7_runs 31 = .ok (.aload_n 0, 1) := by decide +kernel
theorem dX7_runs_32 : decode cX7_runs 32 = .ok (.getfield 40, 3) := by decide +kernel
theorem dX7_runs_35 : decode cX7_runs 35 = .ok (.bipush 24, 2) := by decide +kernel
theorem dX7_runs_37 : decode cX7_runs 37 = .ok (.iload_n 1, 1) := by decide +kernel
theorem dX7_runs_38 : decode cX7_runs 38 = .ok (.imul, 1) := by decide +kernel
theorem dX7_runs_39 : decode cX7_runs 39 = .ok (.iload 4, 2) := by decide +kernel
theorem dX7_runs_41 : decode cX7_runs 41 = .ok (.iadd, 1) := by decide +kernel
theorem dX7_runs_42 : decode cX7_runs 42 = .ok (.caload, 1) := by decide +kernel
theorem dX7_runs_43 : decode cX7_runs 43 = .ok (.istore 5, 2) := by decide +kernel
theorem dX7_runs_45 : decode cX7_runs 45 = .ok (.iload 5, 2) := by decide +kernel
theorem dX7_runs_47 : decode cX7_runs 47 = .ok (.bipush 110, 2) := by decide +kernel
theorem dX7_runs_49 : decode cX7_runs 49 = .ok (.if_icmp .eq 17, 3) := by decide +kernel
theorem dX7_runs_52 : decode cX7_runs 52 = .ok (.iload 5, 2) := by decide +kernel
theorem dX7_runs_54 : decode cX7_runs 54 = .ok (.bipush 105, 2) := by decide +kernel
theorem dX7_runs_56 : decode cX7_runs 56 = .ok (.if_icmp .eq 10, 3) := by decide +kernel
theorem dX7_runs_59 : decode cX7_runs 59 = .ok (.iload 5, 2) := by decide +kernel
theorem dX7_runs_61 : decode cX7_runs 61 = .ok (.bipush 100, 2) := by decide +kernel
theorem dX7_runs_63 : decode cX7_runs 63 = .ok (.if_icmp .ne 7, 3) := by decide +kernel
theorem dX7_runs_66 : decode cX7_runs 66 = .ok (.iconst 1, 1) := by decide +kernel
theorem dX7_runs_67 : decode cX7_runs 67 = .ok (.goto 4, 3) := by decide +kernel
theorem dX7_runs_70 : decode cX7_runs 70 = .ok (.iconst 0, 1) := by decide +kernel
theorem dX7_runs_71 : decode cX7_runs 71 = .ok (.istore 6, 2) := by decide +kernel
theorem dX7_runs_73 : decode cX7_runs 73 = .ok (.aload_n 0, 1) := by decide +kernel
theorem dX7_runs_74 : decode cX7_runs 74 = .ok (.getfield 134, 3) := by decide +kernel
theorem dX7_runs_77 : decode cX7_runs 77 = .ok (.sipush 300, 3) := by decide +kernel
theorem dX7_runs_80 : decode cX7_runs 80 = .ok (.if_icmp .ne 6, 3) := by decide +kernel
theorem dX7_runs_83 : decode cX7_runs 83 = .ok (.bipush 116, 2) := by decide +kernel
theorem dX7_runs_85 : decode cX7_runs 85 = .ok (.ireturn, 1) := by decide +kernel
theorem dX7_runs_86 : decode cX7_runs 86 = .ok (.aload_n 0, 1) := by decide +kernel
theorem dX7_runs_87 : decode cX7_runs 87 = .ok (.getfield 128, 3) := by decide +kernel
theorem dX7_runs_90 : decode cX7_runs 90 = .ok (.iload 5, 2) := by decide +kernel
theorem dX7_runs_92 : decode cX7_runs 92 = .ok (.invokestatic 176, 3) := by decide +kernel
theorem dX7_runs_95 : decode cX7_runs 95 = .ok (.if_icmp .ge 6, 3) := by decide +kernel
theorem dX7_runs_98 : decode cX7_runs 98 = .ok (.bipush 117, 2) := by decide +kernel
theorem dX7_runs_100 : decode cX7_runs 100 = .ok (.ireturn, 1) := by decide +kernel
theorem dX7_runs_101 : decode cX7_runs 101 = .ok (.iload 5, 2) := by decide +kernel
theorem dX7_runs_103 : decode cX7_runs 103 = .ok (.bipush 105, 2) := by decide +kernel
theorem dX7_runs_105 : decode cX7_runs 105 = .ok (.if_icmp .ne 16, 3) := by decide +kernel
theorem dX7_runs_108 : decode cX7_runs 108 = .ok (.iload_n 3, 1) := by decide +kernel
theorem dX7_runs_109 : decode cX7_runs 109 = .ok (.aload_n 0, 1) := by decide +kernel
theorem dX7_runs_110 : decode cX7_runs 110 = .ok (.getfield 63, 3) := by decide +kernel
theorem dX7_runs_113 : decode cX7_runs 113 = .ok (.iload_n 2, 1) := by decide +kernel
theorem dX7_runs_114 : decode cX7_runs 114 = .ok (.iaload, 1) := by decide +kernel
theorem dX7_runs_115 : decode cX7_runs 115 = .ok (.if_icmp .ne 6, 3) := by decide +kernel
theorem dX7_runs_118 : decode cX7_runs 118 = .ok (.bipush 101, 2) := by decide +kernel
theorem dX7_runs_120 : decode cX7_runs 120 = .ok (.ireturn, 1) := by decide +kernel
theorem dX7_runs_121 : decode cX7_runs 121 = .ok (.iload 5, 2) := by decide +kernel
theorem dX7_runs_123 : decode cX7_runs 123 = .ok (.bipush 37, 2) := by decide +kernel
theorem dX7_runs_125 : decode cX7_runs 125 = .ok (.if_icmp .ne 20, 3) := by decide +kernel
theorem dX7_runs_128 : decode cX7_runs 128 = .ok (.aload_n 0, 1) := by decide +kernel
theorem dX7_runs_129 : decode cX7_runs 129 = .ok (.getfield 122, 3) := by decide +kernel
theorem dX7_runs_132 : decode cX7_runs 132 = .ok (.aload_n 0, 1) := by decide +kernel
theorem dX7_runs_133 : decode cX7_runs 133 = .ok (.getfield 128, 3) := by decide +kernel
theorem dX7_runs_136 : decode cX7_runs 136 = .ok (.iconst 1, 1) := by decide +kernel
theorem dX7_runs_137 : decode cX7_runs 137 = .ok (.isub, 1) := by decide +kernel
theorem dX7_runs_138 : decode cX7_runs 138 = .ok (.iaload, 1) := by decide +kernel
theorem dX7_runs_139 : decode cX7_runs 139 = .ok (.ifCond .ne 6, 3) := by decide +kernel
theorem dX7_runs_142 : decode cX7_runs 142 = .ok (.bipush 122, 2) := by decide +kernel
theorem dX7_runs_144 : decode cX7_runs 144 = .ok (.ireturn, 1) := by decide +kernel
theorem dX7_runs_145 : decode cX7_runs 145 = .ok (.iload 6, 2) := by decide +kernel
theorem dX7_runs_147 : decode cX7_runs 147 = .ok (.ifCond .eq 15, 3) := by decide +kernel
theorem dX7_runs_150 : decode cX7_runs 150 = .ok (.aload_n 0, 1) := by decide +kernel
theorem dX7_runs_151 : decode cX7_runs 151 = .ok (.getfield 128, 3) := by decide +kernel
theorem dX7_runs_154 : decode cX7_runs 154 = .ok (.bipush 12, 2) := by decide +kernel
theorem dX7_runs_156 : decode cX7_runs 156 = .ok (.if_icmp .ne 6, 3) := by decide +kernel
theorem dX7_runs_159 : decode cX7_runs 159 = .ok (.bipush 118, 2) := by decide +kernel
theorem dX7_runs_161 : decode cX7_runs 161 = .ok (.ireturn, 1) := by decide +kernel
theorem dX7_runs_162 : decode cX7_runs 162 = .ok (.iload 5, 2) := by decide +kernel
theorem dX7_runs_164 : decode cX7_runs 164 = .ok (.bipush 111, 2) := by decide +kernel
theorem dX7_runs_166 : decode cX7_runs 166 = .ok (.if_icmp .ne 15, 3) := by decide +kernel
theorem dX7_runs_169 : decode cX7_runs 169 = .ok (.aload_n 0, 1) := by decide +kernel
theorem dX7_runs_170 : decode cX7_runs 170 = .ok (.getfield 131, 3) := by decide +kernel
theorem dX7_runs_173 : decode cX7_runs 173 = .ok (.bipush 6, 2) := by decide +kernel
theorem dX7_runs_175 : decode cX7_runs 175 = .ok (.if_icmp .ne 6, 3) := by decide +kernel
theorem dX7_runs_178 : decode cX7_runs 178 = .ok (.bipush 108, 2) := by decide +kernel
theorem dX7_runs_180 : decode cX7_runs 180 = .ok (.ireturn, 1) := by decide +kernel
theorem dX7_runs_181 : decode cX7_runs 181 = .ok (.aload_n 0, 1) := by decide +kernel
theorem dX7_runs_182 : decode cX7_runs 182 = .ok (.dup, 1) := by decide +kernel
theorem dX7_runs_183 : decode cX7_runs 183 = .ok (.getfield 134, 3) := by decide +kernel
theorem dX7_runs_186 : decode cX7_runs 186 = .ok (.iconst 1, 1) := by decide +kernel
theorem dX7_runs_187 : decode cX7_runs 187 = .ok (.iadd, 1) := by decide +kernel
theorem dX7_runs_188 : decode cX7_runs 188 = .ok (.putfield 134, 3) := by decide +kernel
theorem dX7_runs_191 : decode cX7_runs 191 = .ok (.iload 6, 2) := by decide +kernel
theorem dX7_runs_193 : decode cX7_runs 193 = .ok (.ifCond .eq 93, 3) := by decide +kernel
theorem dX7_runs_196 : decode cX7_runs 196 = .ok (.aload_n 0, 1) := by decide +kernel
theorem dX7_runs_197 : decode cX7_runs 197 = .ok (.getfield 122, 3) := by decide +kernel
theorem dX7_runs_200 : decode cX7_runs 200 = .ok (.aload_n 0, 1) := by decide +kernel
theorem dX7_runs_201 : decode cX7_runs 201 = .ok (.getfield 128, 3) := by decide +kernel
theorem dX7_runs_204 : decode cX7_runs 204 = .ok (.iload 5, 2) := by decide +kernel
theorem dX7_runs_206 : decode cX7_runs 206 = .ok (.bipush 110, 2) := by decide +kernel
theorem dX7_runs_208 : decode cX7_runs 208 = .ok (.if_icmp .ne 18, 3) := by decide +kernel
theorem dX7_runs_211 : decode cX7_runs 211 = .ok (.aload_n 0, 1) := by decide +kernel
theorem dX7_runs_212 : decode cX7_runs 212 = .ok (.getfield 44, 3) := by decide +kernel
theorem dX7_runs_215 : decode cX7_runs 215 = .ok (.bipush 24, 2) := by decide +kernel
theorem dX7_runs_217 : decode cX7_runs 217 = .ok (.iload_n 1, 1) := by decide +kernel
theorem dX7_runs_218 : decode cX7_runs 218 = .ok (.imul, 1) := by decide +kernel
theorem dX7_runs_219 : decode cX7_runs 219 = .ok (.iload 4, 2) := by decide +kernel
theorem dX7_runs_221 : decode cX7_runs 221 = .ok (.iadd, 1) := by decide +kernel
theorem dX7_runs_222 : decode cX7_runs 222 = .ok (.iaload, 1) := by decide +kernel
theorem dX7_runs_223 : decode cX7_runs 223 = .ok (.goto 34, 3) := by decide +kernel
theorem dX7_runs_226 : decode cX7_runs 226 = .ok (.iload 5, 2) := by decide +kernel
theorem dX7_runs_228 : decode cX7_runs 228 = .ok (.bipush 100, 2) := by decide +kernel
theorem dX7_runs_230 : decode cX7_runs 230 = .ok (.if_icmp .ne 17, 3) := by decide +kernel
theorem dX7_runs_233 : decode cX7_runs 233 = .ok (.aload_n 0, 1) := by decide +kernel
theorem dX7_runs_234 : decode cX7_runs 234 = .ok (.getfield 122, 3) := by decide +kernel
theorem dX7_runs_237 : decode cX7_runs 237 = .ok (.aload_n 0, 1) := by decide +kernel
theorem dX7_runs_238 : decode cX7_runs 238 = .ok (.getfield 128, 3) := by decide +kernel
theorem dX7_runs_241 : decode cX7_runs 241 = .ok (.iconst 1, 1) := by decide +kernel
theorem dX7_runs_242 : decode cX7_runs 242 = .ok (.isub, 1) := by decide +kernel
theorem dX7_runs_243 : decode cX7_runs 243 = .ok (.iaload, 1) := by decide +kernel
theorem dX7_runs_244 : decode cX7_runs 244 = .ok (.goto 13, 3) := by decide +kernel
theorem dX7_runs_247 : decode cX7_runs 247 = .ok (.aload_n 0, 1) := by decide +kernel
theorem dX7_runs_248 : decode cX7_runs 248 = .ok (.getfield 69, 3) := by decide +kernel
theorem dX7_runs_251 : decode cX7_runs 251 = .ok (.iconst 4, 1) := by decide +kernel
theorem dX7_runs_252 : decode cX7_runs 252 = .ok (.iload_n 2, 1) := by decide +kernel
theorem dX7_runs_253 : decode cX7_runs 253 = .ok (.imul, 1) := by decide +kernel
theorem dX7_runs_254 : decode cX7_runs 254 = .ok (.iload_n 3, 1) := by decide +kernel
theorem dX7_runs_255 : decode cX7_runs 255 = .ok (.iadd, 1) := by decide +kernel
theorem dX7_runs_256 : decode cX7_runs 256 = .ok (.iaload, 1) := by decide +kernel
theorem dX7_runs_257 : decode cX7_runs 257 = .ok (.iastore, 1) := by decide +kernel
theorem dX7_runs_258 : decode cX7_runs 258 = .ok (.iload_n 3, 1) := by decide +kernel
theorem dX7_runs_259 : decode cX7_runs 259 = .ok (.iload 5, 2) := by decide +kernel
theorem dX7_runs_261 : decode cX7_runs 261 = .ok (.bipush 105, 2) := by decide +kernel
theorem dX7_runs_263 : decode cX7_runs 263 = .ok (.if_icmp .ne 7, 3) := by decide +kernel
theorem dX7_runs_266 : decode cX7_runs 266 = .ok (.iconst 1, 1) := by decide +kernel
theorem dX7_runs_267 : decode cX7_runs 267 = .ok (.goto 4, 3) := by decide +kernel
theorem dX7_runs_270 : decode cX7_runs 270 = .ok (.iconst 0, 1) := by decide +kernel
theorem dX7_runs_271 : decode cX7_runs 271 = .ok (.iadd, 1) := by decide +kernel
theorem dX7_runs_272 : decode cX7_runs 272 = .ok (.istore_n 3, 1) := by decide +kernel
theorem dX7_runs_273 : decode cX7_runs 273 = .ok (.aload_n 0, 1) := by decide +kernel
theorem dX7_runs_274 : decode cX7_runs 274 = .ok (.dup, 1) := by decide +kernel
theorem dX7_runs_275 : decode cX7_runs 275 = .ok (.getfield 128, 3) := by decide +kernel
theorem dX7_runs_278 : decode cX7_runs 278 = .ok (.iconst 1, 1) := by decide +kernel
theorem dX7_runs_279 : decode cX7_runs 279 = .ok (.iadd, 1) := by decide +kernel
theorem dX7_runs_280 : decode cX7_runs 280 = .ok (.putfield 128, 3) := by decide +kernel
theorem dX7_runs_283 : decode cX7_runs 283 = .ok (.goto 87, 3) := by decide +kernel
theorem dX7_runs_286 : decode cX7_runs 286 = .ok (.iload 5, 2) := by decide +kernel
theorem dX7_runs_288 : decode cX7_runs 288 = .ok (.bipush 91, 2) := by decide +kernel
theorem dX7_runs_290 : decode cX7_runs 290 = .ok (.if_icmp .ne 35, 3) := by decide +kernel
theorem dX7_runs_293 : decode cX7_runs 293 = .ok (.aload_n 0, 1) := by decide +kernel
theorem dX7_runs_294 : decode cX7_runs 294 = .ok (.getfield 122, 3) := by decide +kernel
theorem dX7_runs_297 : decode cX7_runs 297 = .ok (.aload_n 0, 1) := by decide +kernel
theorem dX7_runs_298 : decode cX7_runs 298 = .ok (.getfield 128, 3) := by decide +kernel
theorem dX7_runs_301 : decode cX7_runs 301 = .ok (.iconst 1, 1) := by decide +kernel
theorem dX7_runs_302 : decode cX7_runs 302 = .ok (.isub, 1) := by decide +kernel
theorem dX7_runs_303 : decode cX7_runs 303 = .ok (.iaload, 1) := by decide +kernel
theorem dX7_runs_304 : decode cX7_runs 304 = .ok (.ifCond .ne 14, 3) := by decide +kernel
theorem dX7_runs_307 : decode cX7_runs 307 = .ok (.aload_n 0, 1) := by decide +kernel
theorem dX7_runs_308 : decode cX7_runs 308 = .ok (.iload_n 1, 1) := by decide +kernel
theorem dX7_runs_309 : decode cX7_runs 309 = .ok (.iload 4, 2) := by decide +kernel
theorem dX7_runs_311 : decode cX7_runs 311 = .ok (.iconst 1, 1) := by decide +kernel
theorem dX7_runs_312 : decode cX7_runs 312 = .ok (.invokevirtual 180, 3) := by decide +kernel
theorem dX7_runs_315 : decode cX7_runs 315 = .ok (.goto 5, 3) := by decide +kernel
theorem dX7_runs_318 : decode cX7_runs 318 = .ok (.iload 4, 2) := by decide +kernel
theorem dX7_runs_320 : decode cX7_runs 320 = .ok (.istore 4, 2) := by decide +kernel
theorem dX5_takeVote_49 : decode cX5_takeVote 49 = .ok (.getfield 22, 3) := by decide +kernel
theorem dX5_takeVote_52 : decode cX5_takeVote 52 = .ok (.iload_n 1, 1) := by decide +kernel
theorem dX5_takeVote_53 : decode cX5_takeVote 53 = .ok (.iaload, 1) := by decide +kernel
theorem dX5_takeVote_54 : decode cX5_takeVote 54 = .ok (.aload_n 0, 1) := by decide +kernel
theorem dX5_takeVote_55 : decode cX5_takeVote 55 = .ok (.getfield 25, 3) := by decide +kernel
theorem dX5_takeVote_58 : decode cX5_takeVote 58 = .ok (.iload_n 1, 1) := by decide +kernel
theorem dX5_takeVote_59 : decode cX5_takeVote 59 = .ok (.iaload, 1) := by decide +kernel
theorem dX5_takeVote_60 : decode cX5_takeVote 60 = .ok (.imul, 1) := by decide +kernel
theorem dX5_takeVote_61 : decode cX5_takeVote 61 = .ok (.isub, 1) := by decide +kernel
theorem dX5_takeVote_62 : decode cX5_takeVote 62 = .ok (.iadd, 1) := by decide +kernel
theorem dX5_takeVote_63 : decode cX5_takeVote 63 = .ok (.putfield 35, 3) := by decide +kernel
theorem dX5_takeVote_66 : decode cX5_takeVote 66 = .ok (.aload_n 0, 1) := by decide +kernel
theorem dX5_takeVote_67 : decode cX5_takeVote 67 = .ok (.getfield 22, 3) := by decide +kernel
theorem dX5_takeVote_70 : decode cX5_takeVote 70 = .ok (.iload_n 1, 1) := by decide +kernel
theorem dX5_takeVote_71 : decode cX5_takeVote 71 = .ok (.iload_n 2, 1) := by decide +kernel
theorem dX5_takeVote_72 : decode cX5_takeVote 72 = .ok (.iastore, 1) := by decide +kernel
theorem dX5_takeVote_73 : decode cX5_takeVote 73 = .ok (.aload_n 0, 1) := by decide +kernel
theorem dX5_takeVote_74 : decode cX5_takeVote 74 = .ok (.getfield 25, 3) := by decide +kernel
theorem dX5_takeVote_77 : decode cX5_takeVote 77 = .ok (.iload_n 1, 1) := by decide +kernel
theorem dX5_takeVote_78 : decode cX5_takeVote 78 = .ok (.iload_n 3, 1) := by decide +kernel
theorem dX5_takeVote_79 : decode cX5_takeVote 79 = .ok (.iastore, 1) := by decide +kernel
theorem dX5_takeVote_80 : decode cX5_takeVote 80 = .ok (.return_, 1) := by decide +kernel
theorem dX5_areSumsOfVotes_0 : decode cX5_areSumsOfVotes 0 = .ok (.iconst 0, 1) := by decide +kernel
theorem dX5_areSumsOfVotes_1 : decode cX5_areSumsOfVotes 1 = .ok (.istore_n 1, 1) := by decide +kernel
theorem dX5_areSumsOfVotes_2 : decode cX5_areSumsOfVotes 2 = .ok (.iconst 0, 1) := by decide +kernel
theorem dX5_areSumsOfVotes_3 : decode cX5_areSumsOfVotes 3 = .ok (.istore_n 2, 1) := by decide +kernel
theorem dX5_areSumsOfVotes_4 : decode cX5_areSumsOfVotes 4 = .ok (.bipush 9, 2) := by decide +kernel
theorem dX5_areSumsOfVotes_6 : decode cX5_areSumsOfVotes 6 = .ok (.istore_n 3, 1) := by decide +kernel
theorem dX5_areSumsOfVotes_7 : decode cX5_areSumsOfVotes 7 = .ok (.iload_n 3, 1) := by decide +kernel
theorem dX5_areSumsOfVotes_8 : decode cX5_areSumsOfVotes 8 = .ok (.ifCond .lt 34, 3) := by decide +kernel
theorem dX5_areSumsOfVotes_11 : decode cX5_areSumsOfVotes 11 = .ok (.iload_n 1, 1) := by decide +kernel
theorem dX5_areSumsOfVotes_12 : decode cX5_areSumsOfVotes 12 = .ok (.aload_n 0, 1) := by decide +kernel
theorem dX5_areSumsOfVotes_13 : decode cX5_areSumsOfVotes 13 = .ok (.getfield 25, 3) := by decide +kernel
theorem dX5_areSumsOfVotes_16 : decode cX5_areSumsOfVotes 16 = .ok (.iload_n 3, 1) := by decide +kernel
theorem dX5_areSumsOfVotes_17 : decode cX5_areSumsOfVotes 17 = .ok (.iaload, 1) := by decide +kernel
theorem dX5_areSumsOfVotes_18 : decode cX5_areSumsOfVotes 18 = .ok (.iadd, 1) := by decide +kernel
theorem dX5_areSumsOfVotes_19 : decode cX5_areSumsOfVotes 19 = .ok (.istore_n 1, 1) := by decide +kernel
theorem dX5_areSumsOfVotes_20 : decode cX5_areSumsOfVotes 20 = .ok (.iload_n 2, 1) := by decide +kernel
theorem dX5_areSumsOfVotes_21 : decode cX5_areSumsOfVotes 21 = .ok (.aload_n 0, 1) := by decide +kernel
theorem dX5_areSumsOfVotes_22 : decode cX5_areSumsOfVotes 22 = .ok (.getfield 22, 3) := by decide +kernel
theorem dX5_areSumsOfVotes_25 : decode cX5_areSumsOfVotes 25 = .ok (.iload_n 3, 1) := by decide +kernel
theorem dX5_areSumsOfVotes_26 : decode cX5_areSumsOfVotes 26 = .ok (.iaload, 1) := by decide +kernel
theorem dX5_areSumsOfVotes_27 : decode cX5_areSumsOfVotes 27 = .ok (.aload_n 0, 1) := by decide +kernel
theorem dX5_areSumsOfVotes_28 : decode cX5_areSumsOfVotes 28 = .ok (.getfield 25, 3) := by decide +kernel
theorem dX5_areSumsOfVotes_31 : decode cX5_areSumsOfVotes 31 = .ok (.iload_n 3, 1) := by decide +kernel
theorem dX5_areSumsOfVotes_32 : decode cX5_areSumsOfVotes 32 = .ok (.iaload, 1) := by decide +kernel
theorem dX5_areSumsOfVotes_33 : decode cX5_areSumsOfVotes 33 = .ok (.imul, 1) := by decide +kernel
theorem dX5_areSumsOfVotes_34 : decode cX5_areSumsOfVotes 34 = .ok (.iadd, 1) := by decide +kernel
theorem dX5_areSumsOfVotes_35 : decode cX5_areSumsOfVotes 35 = .ok (.istore_n 2, 1) := by decide +kernel
theorem dX5_areSumsOfVotes_36 : decode cX5_areSumsOfVotes 36 = .ok (.iinc 3 (-1), 3) := by decide +kernel
theorem dX5_areSumsOfVotes_39 : decode cX5_areSumsOfVotes 39 = .ok (.goto (-32), 3) := by decide +kernel
theorem dX5_areSumsOfVotes_42 : decode cX5_areSumsOfVotes 42 = .ok (.iload_n 1, 1) := by decide +kernel
theorem dX5_areSumsOfVotes_43 : decode cX5_areSumsOfVotes 43 = .ok (.aload_n 0, 1) := by decide +kernel
theorem dX5_areSumsOfVotes_44 : decode cX5_areSumsOfVotes 44 = .ok (.getfield 32, 3) := by decide +kernel
theorem dX5_areSumsOfVotes_47 : decode cX5_areSumsOfVotes 47 = .ok (.if_icmp .ne 15, 3) := by decide +kernel
theorem dX5_areSumsOfVotes_50 : decode cX5_areSumsOfVotes 50 = .ok (.iload_n 2, 1) := by decide +kernel
theorem dX5_areSumsOfVotes_51 : decode cX5_areSumsOfVotes 51 = .ok (.aload_n 0, 1) := by decide +kernel
theorem dX5_areSumsOfVotes_52 : decode cX5_areSumsOfVotes 52 = .ok (.getfield 35, 3) := by decide +kernel
theorem dX5_areSumsOfVotes_55 : decode cX5_areSumsOfVotes 55 = .ok (.if_icmp .ne 7, 3) := by decide +kernel
theorem dX5_areSumsOfVotes_58 : decode cX5_areSumsOfVotes 58 = .ok (.iconst 1, 1) := by decide +kernel
theorem dX5_areSumsOfVotes_59 : decode cX5_areSumsOfVotes 59 = .ok (.goto 4, 3) := by decide +kernel
theorem dX5_areSumsOfVotes_62 : decode cX5_areSumsOfVotes 62 = .ok (.iconst 0, 1) := by decide +kernel
theorem dX5_areSumsOfVotes_63 : decode cX5_areSumsOfVotes 63 = .ok (.ireturn, 1) := by decide +kernel
theorem dX5_styleAbove_0 : decode cX5_styleAbove 0 = .ok (.aload_n 0, 1) := by decide +kernel
theorem dX5_styleAbove_1 : decode cX5_styleAbove 1 = .ok (.getfield 32, 3) := by decide +kernel
theorem dX5_styleAbove_4 : decode cX5_styleAbove 4 = .ok (.ifCond .ne 7, 3) := by decide +kernel
theorem dX5_styleAbove_7 : decode cX5_styleAbove 7 = .ok (.iconst 1, 1) := by decide +kernel
theorem dX5_styleAbove_8 : decode cX5_styleAbove 8 = .ok (.goto 7, 3) := by decide +kernel
theorem dX5_styleAbove_11 : decode cX5_styleAbove 11 = .ok (.aload_n 0, 1) := by decide +kernel
theorem dX5_styleAbove_12 : decode cX5_styleAbove 12 = .ok (.getfield 35, 3) := by decide +kernel
theorem dX5_styleAbove_15 : decode cX5_styleAbove 15 = .ok (.ireturn, 1) := by decide +kernel
theorem dX5_styleUnder_0 : decode cX5_styleUnder 0 = .ok (.aload_n 0, 1) := by decide +kernel
theorem dX5_styleUnder_1 : decode cX5_styleUnder 1 = .ok (.getfield 32, 3) := by decide +kernel
theorem dX5_styleUnder_4 : decode cX5_styleUnder 4 = .ok (.ifCond .ne 7, 3) := by decide +kernel
theorem dX5_styleUnder_7 : decode cX5_styleUnder 7 = .ok (.iconst 1, 1) := by decide +kernel
theorem dX5_styleUnder_8 : decode cX5_styleUnder 8 = .ok (.goto 7, 3) := by decide +kernel
theorem dX5_styleUnder_11 : decode cX5_styleUnder 11 = .ok (.aload_n 0, 1) := by decide +kernel
theorem dX5_styleUnder_12 : decode cX5_styleUnder 12 = .ok (.getfield 32, 3) := by decide +kernel
theorem dX5_styleUnder_15 : decode cX5_styleUnder 15 = .ok (.ireturn, 1) := by decide +kernel
theorem dX5_hasGreaterStyleThan_0 : decode cX5_hasGreaterStyleThan 0 = .ok (.aload_n 0, 1) := by decide +kernel
theorem dX5_hasGreaterStyleThan_1 : decode cX5_hasGreaterStyleThan 1 = .ok (.invokevirtual 83, 3) := by decide +kernel
theorem dX5_hasGreaterStyleThan_4 : decode cX5_hasGreaterStyleThan 4 = .ok (.aload_n 1, 1) := by decide +kernel
theorem dX5_hasGreaterStyleThan_5 : decode cX5_hasGreaterStyleThan 5 = .ok (.invokevirtual 87, 3) := by decide +kernel
theorem dX5_hasGreaterStyleThan_8 : decode cX5_hasGreaterStyleThan 8 = .ok (.imul, 1) := by decide +kernel
theorem dX5_hasGreaterStyleThan_9 : decode cX5_hasGreaterStyleThan 9 = .ok (.aload_n 1, 1) := by decide +kernel
theorem dX5_hasGreaterStyleThan_10 : decode cX5_hasGreaterStyleThan 10 = .ok (.invokevirtual 83, 3) := by decide +kernel
theorem dX5_hasGreaterStyleThan_13 : decode cX5_hasGreaterStyleThan 13 = .ok (.aload_n 0, 1) := by decide +kernel
theorem dX5_hasGreaterStyleThan_14 : decode cX5_hasGreaterStyleThan 14 = .ok (.invokevirtual 87, 3) := by decide +kernel
theorem dX5_hasGreaterStyleThan_17 : decode cX5_hasGreaterStyleThan 17 = .ok (.imul, 1) := by decide +kernel
theorem dX5_hasGreaterStyleThan_18 : decode cX5_hasGreaterStyleThan 18 = .ok (.if_icmp .le 7, 3) := by decide +kernel
theorem dX5_hasGreaterStyleThan_21 : decode cX5_hasGreaterStyleThan 21 = .ok (.iconst 1, 1) := by decide +kernel
theorem dX5_hasGreaterStyleThan_22 : decode cX5_hasGreaterStyleThan 22 = .ok (.goto 4, 3) := by decide +kernel
theorem dX5_hasGreaterStyleThan_25 : decode cX5_hasGreaterStyleThan 25 = .ok (.iconst 0, 1) := by decide +kernel
theorem dX5_hasGreaterStyleThan_26 : decode cX5_hasGreaterStyleThan 26 = .ok (.ireturn, 1) := by decide +kernel
theorem dX6_init_0 : decode cX6_init 0 = .ok (.aload_n 0, 1) := by decide +kernel
theorem dX6_init_1 : decode cX6_init 1 = .ok (.invokespecial 1, 3) := by decide +kernel
theorem dX6_init_4 : decode cX6_init 4 = .ok (.aload_n 0, 1) := by decide +kernel
theorem dX6_init_5 : decode cX6_init 5 = .ok (.new 7, 3) := by decide +kernel
theorem dX6_init_8 : decode cX6_init 8 = .ok (.dup, 1) := by decide +kernel
theorem dX6_init_9 : decode cX6_init 9 = .ok (.invokespecial 9, 3) := by decide +kernel
theorem dX6_init_12 : decode cX6_init 12 = .ok (.putfield 10, 3) := by decide +kernel
theorem dX6_init_15 : decode cX6_init 15 = .ok (.aload_n 0, 1) := by decide +kernel
theorem dX6_init_16 : decode cX6_init 16 = .ok (.new 16, 3) := by decide +kernel
theorem dX6_init_19 : decode cX6_init 19 = .ok (.dup, 1) := by decide +kernel
theorem dX6_init_20 : decode cX6_init 20 = .ok (.invokespecial 18, 3) := by decide +kernel
theorem dX6_init_23 : decode cX6_init 23 = .ok (.putfield 19, 3) := by decide +kernel
theorem dX6_init_26 : decode cX6_init 26 = .ok (.aload_n 0, 1) := by decide +kernel
theorem dX6_init_27 : decode cX6_init 27 = .ok (.bipush 8, 2) := by decide +kernel
theorem dX6_init_29 : decode cX6_init 29 = .ok (.anewarray 23, 3) := by decide +kernel
theorem dX6_init_32 : decode cX6_init 32 = .ok (.putfield 25, 3) := by decide +kernel
theorem dX6_init_35 : decode cX6_init 35 = .ok (.aload_n 0, 1) := by decide +kernel
theorem dX6_init_36 : decode cX6_init 36 = .ok (.bipush 10, 2) := by decide +kernel
theorem dX6_init_38 : decode cX6_init 38 = .ok (.anewarray 29, 3) := by decide +kernel
theorem dX6_init_41 : decode cX6_init 41 = .ok (.putfield 31, 3) := by decide +kernel
theorem dX6_init_44 : decode cX6_init 44 = .ok (.aload_n 0, 1) := by decide +kernel
theorem dX6_init_45 : decode cX6_init 45 = .ok (.bipush 40, 2) := by decide +kernel
theorem dX6_init_47 : decode cX6_init 47 = .ok (.anewarray 35, 3) := by decide +kernel
theorem dX6_init_50 : decode cX6_init 50 = .ok (.putfield 37, 3) := by decide +kernel
theorem dX6_init_53 : decode cX6_init 53 = .ok (.aload_n 0, 1) := by decide +kernel
theorem dX6_init_54 : decode cX6_init 54 = .ok (.bipush 8, 2) := by decide +kernel
theorem dX6_init_56 : decode cX6_init 56 = .ok (.newarray .int, 2) := by decide +kernel
theorem dX6_init_58 : decode cX6_init 58 = .ok (.putfield 41, 3) := by decide +kernel
theorem dX6_init_61 : decode cX6_init 61 = .ok (.aload_n 0, 1) := by decide +kernel
theorem dX6_init_62 : decode cX6_init 62 = .ok (.bipush 8, 2) := by decide +kernel
theorem dX6_init_64 : decode cX6_init 64 = .ok (.newarray .int, 2) := by decide +kernel
theorem dX6_init_66 : decode cX6_init 66 = .ok (.putfield 45, 3) := by decide +kernel
theorem dX6_init_69 : decode cX6_init 69 = .ok (.aload_n 0, 1) := by decide +kernel
theorem dX6_init_70 : decode cX6_init 70 = .ok (.new 48, 3) := by decide +kernel
theorem dX6_init_73 : decode cX6_init 73 = .ok (.dup, 1) := by decide +kernel
theorem dX6_init_74 : decode cX6_init 74 = .ok (.invokespecial 50, 3) := by decide +kernel
theorem dX6_init_77 : decode cX6_init 77 = .ok (.putfield 51, 3) := by decide +kernel
theorem dX6_init_80 : decode cX6_init 80 = .ok (.aload_n 0, 1) := by decide +kernel
theorem dX6_init_81 : decode cX6_init 81 = .ok (.new 48, 3) := by decide +kernel
theorem dX6_init_84 : decode cX6_init 84 = .ok (.dup, 1) := by decide +kernel
theorem dX6_init_85 : decode cX6_init 85 = .ok (.invokespecial 50, 3) := by decide +kernel
theorem dX6_init_88 : decode cX6_init 88 = .ok (.putfield 55, 3) := by decide +kernel
theorem dX6_init_91 : decode cX6_init 91 = .ok (.aload_n 0, 1) := by decide +kernel
theorem dX6_init_92 : decode cX6_init 92 = .ok (.iconst 0, 1) := by decide +kernel
theorem dX6_init_93 : decode cX6_init 93 = .ok (.putfield 58, 3) := by decide +kernel
theorem dX6_init_96 : decode cX6_init 96 = .ok (.aload_n 0, 1) := by decide +kernel
theorem dX6_init_97 : decode cX6_init 97 = .ok (.iconst 0, 1) := by decide +kernel
theorem dX6_init_98 : decode cX6_init 98 = .ok (.putfield 62, 3) := by decide +kernel
theorem dX6_init_101 : decode cX6_init 101 = .ok (.aload_n 0, 1) := by decide +kernel
theorem dX6_init_102 : decode cX6_init 102 = .ok (.iconst 0, 1) := by decide +kernel
theorem dX6_init_103 : decode cX6_init 103 = .ok (.putfield 65, 3) := by decide +kernel
theorem dX6_init_106 : decode cX6_init 106 = .ok (.aload_n 0, 1) := by decide +kernel
theorem dX6_init_107 : decode cX6_init 107 = .ok (.iconst 0, 1) := by decide +kernel
theorem dX6_init_108 : decode cX6_init 108 = .ok (.putfield 68, 3) := by decide +kernel
theorem dX6_init_111 : decode cX6_init 111 = .ok (.aload_n 0, 1) := by decide +kernel
theorem dX6_init_112 : decode cX6_init 112 = .ok (.bipush 12, 2) := by decide +kernel
theorem dX6_init_114 : decode cX6_init 114 = .ok (.putfield 71, 3) := by decide +kernel
theorem dX6_init_117 : decode cX6_init 117 = .ok (.aload_n 0, 1) := by decide +kernel
theorem dX6_init_118 : decode cX6_init 118 = .ok (.iconst 0, 1) := by decide +kernel
theorem dX6_init_119 : decode cX6_init 119 = .ok (.putfield 74, 3) := by decide +kernel
theorem dX6_init_122 : decode cX6_init 122 = .ok (.aload_n 0, 1) := by decide +kernel
theorem dX6_init_123 : decode cX6_init 123 = .ok (.iconst 0, 1) := by decide +kernel
theorem dX6_init_124 : decode cX6_init 124 = .ok (.putfield 77, 3) := by decide +kernel
theorem dX6_init_127 : decode cX6_init 127 = .ok (.iconst 0, 1) := by decide +kernel
theorem dX6_init_128 : decode cX6_init 128 = .ok (.istore_n 1, 1) := by decide +kernel
theorem dX6_init_129 : decode cX6_init 129 = .ok (.iload_n 1, 1) := by decide +kernel
theorem dX6_init_130 : decode cX6_init 130 = .ok (.bipush 8, 2) := by decide +kernel
theorem dX6_init_132 : decode cX6_init 132 = .ok (.if_icmp .ge 22, 3) := by decide +kernel
theorem dX6_init_135 : decode cX6_init 135 = .ok (.aload_n 0, 1) := by decide +kernel
theorem dX6_init_136 : decode cX6_init 136 = .ok (.getfield 25, 3) := by decide +kernel
theorem dX6_init_139 : decode cX6_init 139 = .ok (.iload_n 1, 1) := by decide +kernel
theorem dX6_init_140 : decode cX6_init 140 = .ok (.new 23, 3) := by decide +kernel
theorem dX6_init_143 : decode cX6_init 143 = .ok (.dup, 1) := by decide +kernel
theorem dX6_init_144 : decode cX6_init 144 = .ok (.invokespecial 81, 3) := by decide +kernel
theorem dX6_init_147 : decode cX6_init 147 = .ok (.aastore, 1) := by decide +kernel
theorem dX6_init_148 : decode cX6_init 148 = .ok (.iinc 1 1, 3) := by decide +kernel
theorem dX6_init_151 : decode cX6_init 151 = .ok (.goto (-22), 3) := by decide +kernel
theorem dX6_init_154 : decode cX6_init 154 = .ok (.iconst 0, 1) := by decide +kernel
theorem dX6_init_155 : decode cX6_init 155 = .ok (.istore_n 1, 1) := by decide +kernel
theorem dX6_init_156 : decode cX6_init 156 = .ok (.iload_n 1, 1) := by decide +kernel
theorem dX6_init_157 : decode cX6_init 157 = .ok (.bipush 10, 2) := by decide +kernel
theorem dX6_init_159 : decode cX6_init 159 = .ok (.if_icmp .ge 22, 3) := by decide +kernel
theorem dX6_init_162 : decode cX6_init 162 = .ok (.aload_n 0, 1) := by decide +kernel
theorem dX6_init_163 : decode cX6_init 163 = .ok (.getfield 31, 3) := by decide +kernel
theorem dX6_init_166 : decode cX6_init 166 = .ok (.iload_n 1, 1) := by decide +kernel
theorem dX6_init_167 : decode cX6_init 167 = .ok (.new 29, 3) := by decide +kernel
theorem dX6_init_170 : decode cX6_init 170 = .ok (.dup, 1) := by decide +kernel
theorem dX6_init_171 : decode cX6_init 171 = .ok (.invokespecial 82, 3) := by decide +kernel
theorem dX6_init_174 : decode cX6_init 174 = .ok (.aastore, 1) := by decide +kernel
theorem dX6_init_175 : decode cX6_init 175 = .ok (.iinc 1 1, 3) := by decide +kernel
theorem dX6_init_178 : decode cX6_init 178 = .ok (.goto (-22), 3) := by decide +kernel
theorem dX6_init_181 : decode cX6_init 181 = .ok (.iconst 0, 1) := by decide +kernel
theorem dX6_init_182 : decode cX6_init 182 = .ok (.istore_n 1, 1) := by decide +kernel
theorem dX6_init_183 : decode cX6_init 183 = .ok (.iload_n 1, 1) := by decide +kernel
theorem dX6_init_184 : decode cX6_init 184 = .ok (.bipush 40, 2) := by decide +kernel
theorem dX6_init_186 : decode cX6_init 186 = .ok (.if_icmp .ge 22, 3) := by decide +kernel
theorem dX6_init_189 : decode cX6_init 189 = .ok (.aload_n 0, 1) := by decide +kernel
theorem dX6_init_190 : decode cX6_init 190 = .ok (.getfield 37, 3) := by decide +kernel
theorem dX6_init_193 : decode cX6_init 193 = .ok (.iload_n 1, 1) := by decide +kernel
theorem dX6_init_194 : decode cX6_init 194 = .ok (.new 35, 3) := by decide +kernel
theorem dX6_init_197 : decode cX6_init 197 = .ok (.dup, 1) := by decide +kernel
theorem dX6_init_198 : decode cX6_init 198 = .ok (.invokespecial 83, 3) := by decide +kernel
theorem dX6_init_201 : decode cX6_init 201 = .ok (.aastore, 1) := by decide +kernel
theorem dX6_init_202 : decode cX6_init 202 = .ok (.iinc 1 1, 3) := by decide +kernel
theorem dX6_init_205 : decode cX6_init 205 = .ok (.goto (-22), 3) := by decide +kernel
theorem dX6_init_208 : decode cX6_init 208 = .ok (.return_, 1) := by decide +kernel
theorem dX6_step_0 : decode cX6_step 0 = .ok (.ldc 84, 2) := by decide +kernel
theorem dX6_step_2 : decode cX6_step 2 = .ok (.iload_n 1, 1) := by decide +kernel
theorem dX6_step_3 : decode cX6_step 3 = .ok (.invokevirtual 86, 3) := by decide +kernel
theorem dX6_step_6 : decode cX6_step 6 = .ok (.ifCond .ge 13, 3) := by decide +kernel
theorem dX6_step_9 : decode cX6_step 9 = .ok (.new 92, 3) := by decide +kernel
theorem dX6_step_12 : decode cX6_step 12 = .ok (.dup, 1) := by decide +kernel
theorem dX6_step_13 : decode cX6_step 13 = .ok (.ldc 94, 2) := by decide +kernel
theorem dX6_step_15 : decode cX6_step 15 = .ok (.invokespecial 96, 3) := by decide +kernel
theorem dX6_step_18 : decode cX6_step 18 = .ok (.athrow, 1) := by decide +kernel
theorem dX6_step_19 : decode cX6_step 19 = .ok (.iload_n 1, 1) := by decide +kernel
theorem dX6_step_20 : decode cX6_step 20 = .ok (.bipush 110, 2) := by decide +kernel
theorem dX6_step_22 : decode cX6_step 22 = .ok (.if_icmp .ne 7, 3) := by decide +kernel
theorem dX6_step_25 : decode cX6_step 25 = .ok (.iconst 1, 1) := by decide +kernel
theorem dX6_step_26 : decode cX6_step 26 = .ok (.goto 4, 3) := by decide +kernel
theorem dX6_step_29 : decode cX6_step 29 = .ok (.iconst 0, 1) := by decide +kernel
theorem dX6_step_30 : decode cX6_step 30 = .ok (.istore_n 3, 1) := by decide +kernel
theorem dX6_step_31 : decode cX6_step 31 = .ok (.iload_n 3, 1) := by decide +kernel
theorem dX6_step_32 : decode cX6_step 32 = .ok (.ifCond .eq 20, 3) := by decide +kernel
theorem dX6_step_35 : decode cX6_step 35 = .ok (.iload_n 2, 1) := by decide +kernel
theorem dX6_step_36 : decode cX6_step 36 = .ok (.invokestatic 99, 3) := by decide +kernel
theorem dX6_step_39 : decode cX6_step 39 = .ok (.ifCond .eq 13, 3) := by decide +kernel
theorem dX6_step_42 : decode cX6_step 42 = .ok (.new 92, 3) := by decide +kernel
theorem dX6_step_45 : decode cX6_step 45 = .ok (.dup, 1) := by decide +kernel
theorem dX6_step_46 : decode cX6_step 46 = .ok (.ldc 103, 2) := by decide +kernel
theorem dX6_step_48 : decode cX6_step 48 = .ok (.invokespecial 96, 3) := by decide +kernel
theorem dX6_step_51 : decode cX6_step 51 = .ok (.athrow, 1) := by decide +kernel
theorem dX6_step_52 : decode cX6_step 52 = .ok (.aload_n 0, 1) := by decide +kernel
theorem dX6_step_53 : decode cX6_step 53 = .ok (.getfield 10, 3) := by decide +kernel
theorem dX6_step_56 : decode cX6_step 56 = .ok (.getfield 105, 3) := by decide +kernel
theorem dX6_step_59 : decode cX6_step 59 = .ok (.bipush 24, 2) := by decide +kernel
theorem dX6_step_61 : decode cX6_step 61 = .ok (.if_icmp .lt 13, 3) := by decide +kernel
theorem dX6_step_64 : decode cX6_step 64 = .ok (.new 108, 3) := by decide +kernel
theorem dX6_step_67 : decode cX6_step 67 = .ok (.dup, 1) := by decide +kernel
theorem dX6_step_68 : decode cX6_step 68 = .ok (.ldc 110, 2) := by decide +kernel
theorem dX6_step_70 : decode cX6_step 70 = .ok (.invokespecial 112, 3) := by decide +kernel
theorem dX6_step_73 : decode cX6_step 73 = .ok (.athrow, 1) := by decide +kernel
theorem dX6_step_74 : decode cX6_step 74 = .ok (.aload_n 0, 1) := by decide +kernel
theorem dX6_step_75 : decode cX6_step 75 = .ok (.getfield 10, 3) := by decide +kernel
theorem dX6_step_78 : decode cX6_step 78 = .ok (.iload_n 1, 1) := by decide +kernel
theorem dX6_step_79 : decode cX6_step 79 = .ok (.iload_n 3, 1) := by decide +kernel
theorem dX6_step_80 : decode cX6_step 80 = .ok (.ifCond .eq 7, 3) := by decide +kernel
theorem dX6_step_83 : decode cX6_step 83 = .ok (.iload_n 2, 1) := by decide +kernel
theorem dX6_step_84 : decode cX6_step 84 = .ok (.goto 4, 3) := by decide +kernel
theorem dX6_step_87 : decode cX6_step 87 = .ok (.iconst 0, 1) := by decide +kernel
theorem dX6_step_88 : decode cX6_step 88 = .ok (.invokevirtual 113, 3) := by decide +kernel
theorem dX6_step_91 : decode cX6_step 91 = .ok (.aload_n 0, 1) := by decide +kernel
theorem dX6_step_92 : decode cX6_step 92 = .ok (.getfield 10, 3) := by decide +kernel
theorem dX6_step_95 : decode cX6_step 95 = .ok (.getfield 105, 3) := by decide +kernel
theorem dX6_step_98 : decode cX6_step 98 = .ok (.ireturn, 1) := by decide +kernel
theorem dX6_wipe_0 : decode cX6_wipe 0 = .ok (.aload_n 0, 1) := by decide +kernel
theorem dX6_wipe_1 : decode cX6_wipe 1 = .ok (.getfield 10, 3) := by decide +kernel
theorem dX6_wipe_4 : decode cX6_wipe 4 = .ok (.getfield 105, 3) := by decide +kernel
theorem dX6_wipe_7 : decode cX6_wipe 7 = .ok (.istore_n 1, 1) := by decide +kernel
theorem dX6_wipe_8 : decode cX6_wipe 8 = .ok (.aload_n 0, 1) := by decide +kernel
theorem dX6_wipe_9 : decode cX6_wipe 9 = .ok (.getfield 10, 3) := by decide +kernel
theorem dX6_wipe_12 : decode cX6_wipe 12 = .ok (.invokevirtual 117, 3) := by decide +kernel
theorem dX6_wipe_15 : decode cX6_wipe 15 = .ok (.iload_n 1, 1) := by decide +kernel
theorem dX6_wipe_16 : decode cX6_wipe 16 = .ok (.ireturn, 1) := by decide +kernel
theorem dX6_number_0 : decode cX6_number 0 = .ok (.iload_n 1, 1) := by decide +kernel
theorem dX6_number_1 : decode cX6_number 1 = .ok (.invokestatic 99, 3) := by decide +kernel
theorem dX6_number_4 : decode cX6_number 4 = .ok (.ifCond .eq 13, 3) := by decide +kernel
theorem dX6_number_7 : decode cX6_number 7 = .ok (.new 92, 3) := by decide +kernel
theorem dX6_number_10 : decode cX6_number 10 = .ok (.dup, 1) := by decide +kernel
theorem dX6_number_11 : decode cX6_number 11 = .ok (.ldc 103, 2) := by decide +kernel
theorem dX6_number_13 : decode cX6_number 13 = .ok (.invokespecial 96, 3) := by decide +kernel
theorem dX6_number_16 : decode cX6_number 16 = .ok (.athrow, 1) := by decide +kernel
theorem dX6_number_17 : decode cX6_number 17 = .ok (.iload_n 2, 1) := by decide +kernel
theorem dX6_number_18 : decode cX6_number 18 = .ok (.ifCond .eq 18, 3) := by decide +kernel
theorem dX6_number_21 : decode cX6_number 21 = .ok (.aload_n 0, 1) := by decide +kernel
theorem dX6_number_22 : decode cX6_number 22 = .ok (.getfield 19, 3) := by decide +kernel
theorem dX6_number_25 : decode cX6_number 25 = .ok (.getfield 120, 3) := by decide +kernel
theorem dX6_number_28 : decode cX6_number 28 = .ok (.bipush 6, 2) := by decide +kernel
theorem dX6_number_30 : decode cX6_number 30 = .ok (.if_icmp .lt 27, 3) := by decide +kernel
theorem dX6_number_33 : decode cX6_number 33 = .ok (.goto 14, 3) := by decide +kernel
theorem dX6_number_36 : decode cX6_number 36 = .ok (.aload_n 0, 1) := by decide +kernel
theorem dX6_number_37 : decode cX6_number 37 = .ok (.getfield 19, 3) := by decide +kernel
theorem dX6_number_40 : decode cX6_number 40 = .ok (.getfield 123, 3) := by decide +kernel
theorem dX6_number_43 : decode cX6_number 43 = .ok (.iconst 4, 1) := by decide +kernel
theorem dX6_number_44 : decode cX6_number 44 = .ok (.if_icmp .lt 13, 3) := by decide +kernel
theorem dX6_number_47 : decode cX6_number 47 = .ok (.new 108, 3) := by decide +kernel
theorem dX6_number_50 : decode cX6_number 50 = .ok (.dup, 1) := by decide +kernel
theorem dX6_number_51 : decode cX6_number 51 = .ok (.ldc 126, 2) := by decide +kernel
theorem dX6_number_53 : decode cX6_number 53 = .ok (.invokespecial 112, 3) := by decide +kernel
theorem dX6_number_56 : decode cX6_number 56 = .ok (.athrow, 1) := by decide +kernel
theorem dX6_number_57 : decode cX6_number 57 = .ok (.iload_n 2, 1) := by decide +kernel
theorem dX6_number_58 : decode cX6_number 58 = .ok (.ifCond .eq 14, 3) := by decide +kernel
theorem dX6_number_61 : decode cX6_number 61 = .ok (.aload_n 0, 1) := by decide +kernel
theorem dX6_number_62 : decode cX6_number 62 = .ok (.getfield 19, 3) := by decide +kernel
theorem dX6_number_65 : decode cX6_number 65 = .ok (.iload_n 1, 1) := by decide +kernel
theorem dX6_number_66 : decode cX6_number 66 = .ok (.invokevirtual 128, 3) := by decide +kernel
theorem dX6_number_69 : decode cX6_number 69 = .ok (.goto 11, 3) := by decide +kernel
theorem dX6_number_72 : decode cX6_number 72 = .ok (.aload_n 0, 1) := by decide +kernel
theorem dX6_number_73 : decode cX6_number 73 = .ok (.getfield 19, 3) := by decide +kernel
theorem dX6_number_76 : decode cX6_number 76 = .ok (.iload_n 1, 1) := by decide +kernel
theorem dX6_number_77 : decode cX6_number 77 = .ok (.invokevirtual 131, 3) := by decide +kernel
theorem dX6_number_80 : decode cX6_number 80 = .ok (.ireturn, 1) := by decide +kernel
theorem dX6_clear_0 : decode cX6_clear 0 = .ok (.aload_n 0, 1) := by decide +kernel
theorem dX6_clear_1 : decode cX6_clear 1 = .ok (.getfield 19, 3) := by decide +kernel
theorem dX6_clear_4 : decode cX6_clear 4 = .ok (.getfield 123, 3) := by decide +kernel
theorem dX6_clear_7 : decode cX6_clear 7 = .ok (.aload_n 0, 1) := by decide +kernel
theorem dX6_clear_8 : decode cX6_clear 8 = .ok (.getfield 19, 3) := by decide +kernel
theorem dX6_clear_11 : decode cX6_clear 11 = .ok (.getfield 120, 3) := by decide +kernel
theorem dX6_clear_14 : decode cX6_clear 14 = .ok (.iadd, 1) := by decide +kernel
theorem dX6_clear_15 : decode cX6_clear 15 = .ok (.istore_n 1, 1) := by decide +kernel
theorem dX6_clear_16 : decode cX6_clear 16 = .ok (.aload_n 0, 1) := by decide +kernel
theorem dX6_clear_17 : decode cX6_clear 17 = .ok (.getfield 19, 3) := by decide +kernel
theorem dX6_clear_20 : decode cX6_clear 20 = .ok (.invokevirtual 134, 3) := by decide +kernel
theorem dX6_clear_23 : decode cX6_clear 23 = .ok (.iload_n 1, 1) := by decide +kernel
theorem dX6_clear_24 : decode cX6_clear 24 = .ok (.ireturn, 1) := by decide +kernel
theorem dX6_kata_0 : decode cX6_kata 0 = .ok (.iload_n 1, 1) := by decide +kernel
theorem dX6_kata_1 : decode cX6_kata 1 = .ok (.iconst 1, 1) := by decide +kernel
theorem dX6_kata_2 : decode cX6_kata 2 = .ok (.if_icmp .lt 8, 3) := by decide +kernel
theorem dX6_kata_5 : decode cX6_kata 5 = .ok (.iload_n 1, 1) := by decide +kernel
theorem dX6_kata_6 : decode cX6_kata 6 = .ok (.iconst 5, 1) := by decide +kernel
theorem dX6_kata_7 : decode cX6_kata 7 = .ok (.if_icmp .le 13, 3) := by decide +kernel
theorem dX6_kata_10 : decode cX6_kata 10 = .ok (.new 92, 3) := by decide +kernel
theorem dX6_kata_13 : decode cX6_kata 13 = .ok (.dup, 1) := by decide +kernel
theorem dX6_kata_14 : decode cX6_kata 14 = .ok (.ldc 135, 2) := by decide +kernel
theorem dX6_kata_16 : decode cX6_kata 16 = .ok (.invokespecial 96, 3) := by decide +kernel
theorem dX6_kata_19 : decode cX6_kata 19 = .ok (.athrow, 1) := by decide +kernel
theorem dX6_kata_20 : decode cX6_kata 20 = .ok (.aload_n 0, 1) := by decide +kernel
theorem dX6_kata_21 : decode cX6_kata 21 = .ok (.getfield 58, 3) := by decide +kernel
theorem dX6_kata_24 : decode cX6_kata 24 = .ok (.bipush 8, 2) := by decide +kernel
theorem dX6_kata_26 : decode cX6_kata 26 = .ok (.if_icmp .lt 13, 3) := by decide +kernel
theorem dX6_kata_29 : decode cX6_kata 29 = .ok (.new 108, 3) := by decide +kernel
theorem dX6_kata_32 : decode cX6_kata 32 = .ok (.dup, 1) := by decide +kernel
theorem dX6_kata_33 : decode cX6_kata 33 = .ok (.ldc 137, 2) := by decide +kernel
theorem dX6_kata_35 : decode cX6_kata 35 = .ok (.invokespecial 112, 3) := by decide +kernel
theorem dX6_kata_38 : decode cX6_kata 38 = .ok (.athrow, 1) := by decide +kernel
theorem dX6_kata_39 : decode cX6_kata 39 = .ok (.aload_n 0, 1) := by decide +kernel
theorem dX6_kata_40 : decode cX6_kata 40 = .ok (.getfield 25, 3) := by decide +kernel
theorem dX6_kata_43 : decode cX6_kata 43 = .ok (.aload_n 0, 1) := by decide +kernel
theorem dX6_kata_44 : decode cX6_kata 44 = .ok (.getfield 58, 3) := by decide +kernel
theorem dX6_kata_47 : decode cX6_kata 47 = .ok (.aaload, 1) := by decide +kernel
theorem dX6_kata_48 : decode cX6_kata 48 = .ok (.iload_n 1, 1) := by decide +kernel
theorem dX6_kata_49 : decode cX6_kata 49 = .ok (.putfield 139, 3) := by decide +kernel
theorem dX6_kata_52 : decode cX6_kata 52 = .ok (.aload_n 0, 1) := by decide +kernel
theorem dX6_kata_53 : decode cX6_kata 53 = .ok (.dup, 1) := by decide +kernel
theorem dX6_kata_54 : decode cX6_kata 54 = .ok (.getfield 58, 3) := by decide +kernel
theorem dX6_kata_57 : decode cX6_kata 57 = .ok (.iconst 1, 1) := by decide +kernel
theorem dX6_kata_58 : decode cX6_kata 58 = .ok (.iadd, 1) := by decide +kernel
theorem dX6_kata_59 : decode cX6_kata 59 = .ok (.putfield 58, 3) := by decide +kernel
theorem dX6_kata_62 : decode cX6_kata 62 = .ok (.aload_n 0, 1) := by decide +kernel
theorem dX6_kata_63 : decode cX6_kata 63 = .ok (.getfield 58, 3) := by decide +kernel
theorem dX6_kata_66 : decode cX6_kata 66 = .ok (.iconst 1, 1) := by decide +kernel
theorem dX6_kata_67 : decode cX6_kata 67 = .ok (.isub, 1) := by decide +kernel
theorem dX6_kata_68 : decode cX6_kata 68 = .ok (.ireturn, 1) := by decide +kernel
theorem dX6_test_0 : decode cX6_test 0 = .ok (.aload_n 0, 1) := by decide +kernel
theorem dX6_test_1 : decode cX6_test 1 = .ok (.iload_n 1, 1) := by decide +kernel
theorem dX6_test_2 : decode cX6_test 2 = .ok (.invokevirtual 142, 3) := by decide +kernel
theorem dX6_test_5 : decode cX6_test 5 = .ok (.astore_n 2, 1) := by decide +kernel
theorem dX6_test_6 : decode cX6_test 6 = .ok (.aload_n 2, 1) := by decide +kernel
theorem dX6_test_7 : decode cX6_test 7 = .ok (.getfield 146, 3) := by decide +kernel
theorem dX6_test_10 : decode cX6_test 10 = .ok (.iconst 5, 1) := by decide +kernel
theorem dX6_test_11 : decode cX6_test 11 = .ok (.if_icmp .lt 13, 3) := by decide +kernel
theorem dX6_test_14 : decode cX6_test 14 = .ok (.new 108, 3) := by decide +kernel
theorem dX6_test_17 : decode cX6_test 17 = .ok (.dup, 1) := by decide +kernel
theorem dX6_test_18 : decode cX6_test 18 = .ok (.ldc 149, 2) := by decide +kernel
theorem dX6_test_20 : decode cX6_test 20 = .ok (.invokespecial 112, 3) := by decide +kernel
theorem dX6_test_23 : decode cX6_test 23 = .ok (.athrow, 1) := by decide +kernel
theorem dX6_test_24 : decode cX6_test 24 = .ok (.aload_n 2, 1) := by decide +kernel
theorem dX6_test_25 : decode cX6_test 25 = .ok (.getfield 146, 3) := by decide +kernel
theorem dX6_test_28 : decode cX6_test 28 = .ok (.istore_n 3, 1) := by decide +kernel
theorem dX6_test_29 : decode cX6_test 29 = .ok (.aload_n 2, 1) := by decide +kernel
theorem dX6_test_30 : decode cX6_test 30 = .ok (.dup, 1) := by decide +kernel
theorem dX6_test_31 : decode cX6_test 31 = .ok (.getfield 146, 3) := by decide +kernel
theorem dX6_test_34 : decode cX6_test 34 = .ok (.iconst 1, 1) := by decide +kernel
theorem dX6_test_35 : decode cX6_test 35 = .ok (.iadd, 1) := by decide +kernel
theorem dX6_test_36 : decode cX6_test 36 = .ok (.putfield 146, 3) := by decide +kernel
theorem dX6_test_39 : decode cX6_test 39 = .ok (.aload_n 0, 1) := by decide +kernel
theorem dX6_test_40 : decode cX6_test 40 = .ok (.iload_n 1, 1) := by decide +kernel
theorem dX6_test_41 : decode cX6_test 41 = .ok (.aload_n 2, 1) := by decide +kernel
theorem dX6_test_42 : decode cX6_test 42 = .ok (.getfield 151, 3) := by decide +kernel
theorem dX6_test_45 : decode cX6_test 45 = .ok (.iload_n 3, 1) := by decide +kernel
theorem dX6_test_46 : decode cX6_test 46 = .ok (.aaload, 1) := by decide +kernel
theorem dX6_test_47 : decode cX6_test 47 = .ok (.invokevirtual 155, 3) := by decide +kernel
theorem dX6_test_50 : decode cX6_test 50 = .ok (.ireturn, 1) := by decide +kernel
theorem dX6_fix_0 : decode cX6_fix 0 = .ok (.aload_n 0, 1) := by decide +kernel
theorem dX6_fix_1 : decode cX6_fix 1 = .ok (.iload_n 1, 1) := by decide +kernel
theorem dX6_fix_2 : decode cX6_fix 2 = .ok (.aload_n 0, 1) := by decide +kernel
theorem dX6_fix_3 : decode cX6_fix 3 = .ok (.aload_n 0, 1) := by decide +kernel
theorem dX6_fix_4 : decode cX6_fix 4 = .ok (.iload_n 1, 1) := by decide +kernel
theorem dX6_fix_5 : decode cX6_fix 5 = .ok (.invokevirtual 142, 3) := by decide +kernel
theorem dX6_fix_8 : decode cX6_fix 8 = .ok (.iload_n 2, 1) := by decide +kernel
theorem dX6_fix_9 : decode cX6_fix 9 = .ok (.invokevirtual 159, 3) := by decide +kernel
theorem dX6_fix_12 : decode cX6_fix 12 = .ok (.invokevirtual 155, 3) := by decide +kernel
theorem dX6_fix_15 : decode cX6_fix 15 = .ok (.ireturn, 1) := by decide +kernel
theorem dX6_tests_0 : decode cX6_tests 0 = .ok (.aload_n 0, 1) := by decide +kernel
theorem dX6_tests_1 : decode cX6_tests 1 = .ok (.iload_n 1, 1) := by decide +kernel
theorem dX6_tests_2 : decode cX6_tests 2 = .ok (.invokevirtual 142, 3) := by decide +kernel
theorem dX6_tests_5 : decode cX6_tests 5 = .ok (.getfield 146, 3) := by decide +kernel
theorem dX6_tests_8 : decode cX6_tests 8 = .ok (.ireturn, 1) := by decide +kernel
theorem dX6_run_0 : decode cX6_run 0 = .ok (.aload_n 0, 1) := by decide +kernel
theorem dX6_run_1 : decode cX6_run 1 = .ok (.aload_n 0, 1) := by decide +kernel
theorem dX6_run_2 : decode cX6_run 2 = .ok (.iload_n 1, 1) := by decide +kernel
theorem dX6_run_3 : decode cX6_run 3 = .ok (.invokevirtual 142, 3) := by decide +kernel
theorem dX6_run_6 : decode cX6_run 6 = .ok (.iload_n 2, 1) := by decide +kernel
theorem dX6_run_7 : decode cX6_run 7 = .ok (.invokevirtual 159, 3) := by decide +kernel
theorem dX6_run_10 : decode cX6_run 10 = .ok (.astore_n 3, 1) := by decide +kernel
theorem dX6_run_11 : decode cX6_run 11 = .ok (.aload_n 0, 1) := by decide +kernel
theorem dX6_run_12 : decode cX6_run 12 = .ok (.getfield 10, 3) := by decide +kernel
theorem dX6_run_15 : decode cX6_run 15 = .ok (.invokevirtual 163, 3) := by decide +kernel
theorem dX6_run_18 : decode cX6_run 18 = .ok (.ifCond .ne 13, 3) := by decide +kernel
theorem dX6_run_21 : decode cX6_run 21 = .ok (.new 167, 3) := by decide +kernel
theorem dX6_run_24 : decode cX6_run 24 = .ok (.dup, 1) := by decide +kernel
theorem dX6_run_25 : decode cX6_run 25 = .ok (.ldc 169, 2) := by decide +kernel
theorem dX6_run_27 : decode cX6_run 27 = .ok (.invokespecial 171, 3) := by decide +kernel
theorem dX6_run_30 : decode cX6_run 30 = .ok (.athrow, 1) := by decide +kernel
theorem dX6_run_31 : decode cX6_run 31 = .ok (.aload_n 0, 1) := by decide +kernel
theorem dX6_run_32 : decode cX6_run 32 = .ok (.iconst 1, 1) := by decide +kernel
theorem dX6_run_33 : decode cX6_run 33 = .ok (.putfield 77, 3) := by decide +kernel
theorem dX6_run_36 : decode cX6_run 36 = .ok (.aload_n 0, 1) := by decide +kernel
theorem dX6_run_37 : decode cX6_run 37 = .ok (.getfield 51, 3) := by decide +kernel
theorem dX6_run_40 : decode cX6_run 40 = .ok (.aload_n 0, 1) := by decide +kernel
theorem dX6_run_41 : decode cX6_run 41 = .ok (.getfield 10, 3) := by decide +kernel
theorem dX6_run_44 : decode cX6_run 44 = .ok (.aload_n 3, 1) := by decide +kernel
theorem dX6_run_45 : decode cX6_run 45 = .ok (.invokevirtual 172, 3) := by decide +kernel
theorem dX6_run_48 : decode cX6_run 48 = .ok (.ireturn, 1) := by decide +kernel
theorem dX6_done_0 : decode cX6_done 0 = .ok (.aload_n 0, 1) := by decide +kernel
theorem dX6_done_1 : decode cX6_done 1 = .ok (.invokevirtual 176, 3) := by decide +kernel
theorem dX6_done_4 : decode cX6_done 4 = .ok (.getfield 180, 3) := by decide +kernel
theorem dX6_done_7 : decode cX6_done 7 = .ok (.ireturn, 1) := by decide +kernel
theorem dX6_outputs_0 : decode cX6_outputs 0 = .ok (.aload_n 0, 1) := by decide +kernel
theorem dX6_outputs_1 : decode cX6_outputs 1 = .ok (.invokevirtual 176, 3) := by decide +kernel
theorem dX6_outputs_4 : decode cX6_outputs 4 = .ok (.getfield 183, 3) := by decide +kernel
theorem dX6_outputs_7 : decode cX6_outputs 7 = .ok (.ireturn, 1) := by decide +kernel
theorem dX6_output_0 : decode cX6_output 0 = .ok (.aload_n 0, 1) := by decide +kernel
theorem dX6_output_1 : decode cX6_output 1 = .ok (.invokevirtual 176, 3) := by decide +kernel
theorem dX6_output_4 : decode cX6_output 4 = .ok (.astore_n 2, 1) := by decide +kernel
theorem dX6_output_5 : decode cX6_output 5 = .ok (.iload_n 1, 1) := by decide +kernel
theorem dX6_output_6 : decode cX6_output 6 = .ok (.ifCond .lt 11, 3) := by decide +kernel
theorem dX6_output_9 : decode cX6_output 9 = .ok (.iload_n 1, 1) := by decide +kernel
theorem dX6_output_10 : decode cX6_output 10 = .ok (.aload_n 2, 1) := by decide +kernel
theorem dX6_output_11 : decode cX6_output 11 = .ok (.getfield 183, 3) := by decide +kernel
theorem dX6_output_14 : decode cX6_output 14 = .ok (.if_icmp .lt 13, 3) := by decide +kernel
theorem dX6_output_17 : decode cX6_output 17 = .ok (.new 186, 3) := by decide +kernel
theorem dX6_output_20 : decode cX6_output 20 = .ok (.dup, 1) := by decide +kernel
theorem dX6_output_21 : decode cX6_output 21 = .ok (.ldc 188, 2) := by decide +kernel
theorem dX6_output_23 : decode cX6_output 23 = .ok (.invokespecial 190, 3) := by decide +kernel
theorem dX6_output_26 : decode cX6_output 26 = .ok (.athrow, 1) := by decide +kernel
theorem dX6_output_27 : decode cX6_output 27 = .ok (.aload_n 2, 1) := by decide +kernel
theorem dX6_output_28 : decode cX6_output 28 = .ok (.getfield 191, 3) := by decide +kernel
theorem dX6_output_31 : decode cX6_output 31 = .ok (.iload_n 1, 1) := by decide +kernel
theorem dX6_output_32 : decode cX6_output 32 = .ok (.iaload, 1) := by decide +kernel
theorem dX6_output_33 : decode cX6_output 33 = .ok (.ireturn, 1) := by decide +kernel
theorem dX6_depth_0 : decode cX6_depth 0 = .ok (.aload_n 0, 1) := by decide +kernel
theorem dX6_depth_1 : decode cX6_depth 1 = .ok (.invokevirtual 176, 3) := by decide +kernel
theorem dX6_depth_4 : decode cX6_depth 4 = .ok (.getfield 194, 3) := by decide +kernel
theorem dX6_depth_7 : decode cX6_depth 7 = .ok (.ireturn, 1) := by decide +kernel
theorem dX6_member_0 : decode cX6_member 0 = .ok (.aload_n 0, 1) := by decide +kernel
theorem dX6_member_1 : decode cX6_member 1 = .ok (.getfield 62, 3) := by decide +kernel
theorem dX6_member_4 : decode cX6_member 4 = .ok (.bipush 10, 2) := by decide +kernel
theorem dX6_member_6 : decode cX6_member 6 = .ok (.if_icmp .lt 13, 3) := by decide +kernel
theorem dX6_member_9 : decode cX6_member 9 = .ok (.new 108, 3) := by decide +kernel
theorem dX6_member_12 : decode cX6_member 12 = .ok (.dup, 1) := by decide +kernel
theorem dX6_member_13 : decode cX6_member 13 = .ok (.ldc 197, 2) := by decide +kernel
theorem dX6_member_15 : decode cX6_member 15 = .ok (.invokespecial 112, 3) := by decide +kernel
theorem dX6_member_18 : decode cX6_member 18 = .ok (.athrow, 1) := by decide +kernel
theorem dX6_member_19 : decode cX6_member 19 = .ok (.aload_n 0, 1) := by decide +kernel
theorem dX6_member_20 : decode cX6_member 20 = .ok (.dup, 1) := by decide +kernel
theorem dX6_member_21 : decode cX6_member 21 = .ok (.getfield 62, 3) := by decide +kernel
theorem dX6_member_24 : decode cX6_member 24 = .ok (.iconst 1, 1) := by decide +kernel
theorem dX6_member_25 : decode cX6_member 25 = .ok (.iadd, 1) := by decide +kernel
theorem dX6_member_26 : decode cX6_member 26 = .ok (.putfield 62, 3) := by decide +kernel
theorem dX6_member_29 : decode cX6_member 29 = .ok (.aload_n 0, 1) := by decide +kernel
theorem dX6_member_30 : decode cX6_member 30 = .ok (.getfield 62, 3) := by decide +kernel
theorem dX6_member_33 : decode cX6_member 33 = .ok (.iconst 1, 1) := by decide +kernel
theorem dX6_member_34 : decode cX6_member 34 = .ok (.isub, 1) := by decide +kernel
theorem dX6_member_35 : decode cX6_member 35 = .ok (.ireturn, 1) := by decide +kernel
theorem dX6_submit_0 : decode cX6_submit 0 = .ok (.aload_n 0, 1) := by decide +kernel
theorem dX6_submit_1 : decode cX6_submit 1 = .ok (.iload_n 1, 1) := by decide +kernel
theorem dX6_submit_2 : decode cX6_submit 2 = .ok (.invokevirtual 199, 3) := by decide +kernel
theorem dX6_submit_5 : decode cX6_submit 5 = .ok (.pop, 1) := by decide +kernel
theorem dX6_submit_6 : decode cX6_submit 6 = .ok (.aload_n 0, 1) := by decide +kernel
theorem dX6_submit_7 : decode cX6_submit 7 = .ok (.iload_n 2, 1) := by decide +kernel
theorem dX6_submit_8 : decode cX6_submit 8 = .ok (.invokevirtual 142, 3) := by decide +kernel
theorem dX6_submit_11 : decode cX6_submit 11 = .ok (.astore_n 3, 1) := by decide +kernel
theorem dX6_submit_12 : decode cX6_submit 12 = .ok (.aload_n 0, 1) := by decide +kernel
theorem dX6_submit_13 : decode cX6_submit 13 = .ok (.getfield 10, 3) := by decide +kernel
theorem dX6_submit_16 : decode cX6_submit 16 = .ok (.invokevirtual 163, 3) := by decide +kernel
theorem dX6_submit_19 : decode cX6_submit 19 = .ok (.ifCond .eq 10, 3) := by decide +kernel
theorem dX6_submit_22 : decode cX6_submit 22 = .ok (.aload_n 3, 1) := by decide +kernel
theorem dX6_submit_23 : decode cX6_submit 23 = .ok (.getfield 146, 3) := by decide +kernel
theorem dX6_submit_26 : decode cX6_submit 26 = .ok (.ifCond .ne 13, 3) := by decide +kernel
theorem dX6_submit_29 : decode cX6_submit 29 = .ok (.new 167, 3) := by decide +kernel
theorem dX6_submit_32 : decode cX6_submit 32 = .ok (.dup, 1) := by decide +kernel
theorem dX6_submit_33 : decode cX6_submit 33 = .ok (.ldc 203, 2) := by decide +kernel
theorem dX6_submit_35 : decode cX6_submit 35 = .ok (.invokespecial 171, 3) := by decide +kernel
theorem dX6_submit_38 : decode cX6_submit 38 = .ok (.athrow, 1) := by decide +kernel
theorem dX6_submit_39 : decode cX6_submit 39 = .ok (.aload_n 0, 1) := by decide +kernel
theorem dX6_submit_40 : decode cX6_submit 40 = .ok (.getfield 65, 3) := by decide +kernel
theorem dX6_submit_43 : decode cX6_submit 43 = .ok (.bipush 40, 2) := by decide +kernel
theorem dX6_submit_45 : decode cX6_submit 45 = .ok (.if_icmp .lt 13, 3) := by decide +kernel
theorem dX6_submit_48 : decode cX6_submit 48 = .ok (.new 108, 3) := by decide +kernel
theorem dX6_submit_51 : decode cX6_submit 51 = .ok (.dup, 1) := by decide +kernel
theorem dX6_submit_52 : decode cX6_submit 52 = .ok (.ldc 205, 2) := by decide +kernel
theorem dX6_submit_54 : decode cX6_submit 54 = .ok (.invokespecial 112, 3) := by decide +kernel
theorem dX6_submit_57 : decode cX6_submit 57 = .ok (.athrow, 1) := by decide +kernel
theorem dX6_submit_58 : decode cX6_submit 58 = .ok (.aload_n 0, 1) := by decide +kernel
theorem dX6_submit_59 : decode cX6_submit 59 = .ok (.aload_n 0, 1) := by decide +kernel
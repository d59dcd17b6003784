theorem xd_RD_init_0 : decode xc_RD_init 0 = .ok (.aload_n 0, 1) := by decide +kernel
theorem xd_RD_init_1 : decode xc_RD_init 1 = .ok (.invokespecial 3, 3) := by decide +kernel
theorem xd_RD_init_4 : decode xc_RD_init 4 = .ok (.aload_n 0, 1) := by decide +kernel
theorem xd_RD_init_5 : decode xc_RD_init 5 = .ok (.bipush 11, 2) := by decide +kernel
theorem xd_RD_init_7 : decode xc_RD_init 7 = .ok (.newarray .int, 2) := by decide +kernel
theorem xd_RD_init_9 : decode xc_RD_init 9 = .ok (.putfield 9, 3) := by decide +kernel
theorem xd_RD_init_12 : decode xc_RD_init 12 = .ok (.aload_n 0, 1) := by decide +kernel
theorem xd_RD_init_13 : decode xc_RD_init 13 = .ok (.new 15, 3) := by decide +kernel
theorem xd_RD_init_16 : decode xc_RD_init 16 = .ok (.dup, 1) := by decide +kernel
theorem xd_RD_init_17 : decode xc_RD_init 17 = .ok (.invokespecial 17, 3) := by decide +kernel
theorem xd_RD_init_20 : decode xc_RD_init 20 = .ok (.putfield 18, 3) := by decide +kernel
theorem xd_RD_init_23 : decode xc_RD_init 23 = .ok (.aload_n 0, 1) := by decide +kernel
theorem xd_RD_init_24 : decode xc_RD_init 24 = .ok (.iconst 0, 1) := by decide +kernel
theorem xd_RD_init_25 : decode xc_RD_init 25 = .ok (.putfield 22, 3) := by decide +kernel
theorem xd_RD_init_28 : decode xc_RD_init 28 = .ok (.aload_n 0, 1) := by decide +kernel
theorem xd_RD_init_29 : decode xc_RD_init 29 = .ok (.iconst 0, 1) := by decide +kernel
theorem xd_RD_init_30 : decode xc_RD_init 30 = .ok (.putfield 26, 3) := by decide +kernel
theorem xd_RD_init_33 : decode xc_RD_init 33 = .ok (.aload_n 0, 1) := by decide +kernel
theorem xd_RD_init_34 : decode xc_RD_init 34 = .ok (.iconst 0, 1) := by decide +kernel
theorem xd_RD_init_35 : decode xc_RD_init 35 = .ok (.putfield 29, 3) := by decide +kernel
theorem xd_RD_init_38 : decode xc_RD_init 38 = .ok (.aload_n 0, 1) := by decide +kernel
theorem xd_RD_init_39 : decode xc_RD_init 39 = .ok (.iconst 0, 1) := by decide +kernel
theorem xd_RD_init_40 : decode xc_RD_init 40 = .ok (.putfield 33, 3) := by decide +kernel
theorem xd_RD_init_43 : decode xc_RD_init 43 = .ok (.aload_n 0, 1) := by decide +kernel
theorem xd_RD_init_44 : decode xc_RD_init 44 = .ok (.iconst 0, 1) := by decide +kernel
theorem xd_RD_init_45 : decode xc_RD_init 45 = .ok (.putfield 36, 3) := by decide +kernel
theorem xd_RD_init_48 : decode xc_RD_init 48 = .ok (.aload_n 0, 1) := by decide +kernel
theorem xd_RD_init_49 : decode xc_RD_init 49 = .ok (.iconst 0, 1) := by decide +kernel
theorem xd_RD_init_50 : decode xc_RD_init 50 = .ok (.putfield 39, 3) := by decide +kernel
theorem xd_RD_init_53 : decode xc_RD_init 53 = .ok (.return_, 1) := by decide +kernel
theorem xd_RD_read_0 : decode xc_RD_read 0 = .ok (.aload_n 0, 1) := by decide +kernel
theorem xd_RD_read_1 : decode xc_RD_read 1 = .ok (.aload_n 3, 1) := by decide +kernel
theorem xd_RD_read_2 : decode xc_RD_read 2 = .ok (.invokevirtual 42, 3) := by decide +kernel
theorem xd_RD_read_5 : decode xc_RD_read 5 = .ok (.iconst 0, 1) := by decide +kernel
theorem xd_RD_read_6 : decode xc_RD_read 6 = .ok (.istore 4, 2) := by decide +kernel
theorem xd_RD_read_8 : decode xc_RD_read 8 = .ok (.iload 4, 2) := by decide +kernel
theorem xd_RD_read_10 : decode xc_RD_read 10 = .ok (.iload_n 2, 1) := by decide +kernel
theorem xd_RD_read_11 : decode xc_RD_read 11 = .ok (.if_icmp .ge 46, 3) := by decide +kernel
theorem xd_RD_read_14 : decode xc_RD_read 14 = .ok (.aload_n 1, 1) := by decide +kernel
theorem xd_RD_read_15 : decode xc_RD_read 15 = .ok (.iload 4, 2) := by decide +kernel
theorem xd_RD_read_17 : decode xc_RD_read 17 = .ok (.iaload, 1) := by decide +kernel
theorem xd_RD_read_18 : decode xc_RD_read 18 = .ok (.istore 5, 2) := by decide +kernel
theorem xd_RD_read_20 : decode xc_RD_read 20 = .ok (.aload_n 0, 1) := by decide +kernel
theorem xd_RD_read_21 : decode xc_RD_read 21 = .ok (.getfield 22, 3) := by decide +kernel
theorem xd_RD_read_24 : decode xc_RD_read 24 = .ok (.ifCond .ne 15, 3) := by decide +kernel
theorem xd_RD_read_27 : decode xc_RD_read 27 = .ok (.aload_n 0, 1) := by decide +kernel
theorem xd_RD_read_28 : decode xc_RD_read 28 = .ok (.iload 5, 2) := by decide +kernel
theorem xd_RD_read_30 : decode xc_RD_read 30 = .ok (.invokevirtual 46, 3) := by decide +kernel
theorem xd_RD_read_33 : decode xc_RD_read 33 = .ok (.ifCond .eq 15, 3) := by decide +kernel
theorem xd_RD_read_36 : decode xc_RD_read 36 = .ok (.goto 15, 3) := by decide +kernel
theorem xd_RD_read_39 : decode xc_RD_read 39 = .ok (.aload_n 0, 1) := by decide +kernel
theorem xd_RD_read_40 : decode xc_RD_read 40 = .ok (.iload 5, 2) := by decide +kernel
theorem xd_RD_read_42 : decode xc_RD_read 42 = .ok (.invokevirtual 50, 3) := by decide +kernel
theorem xd_RD_read_45 : decode xc_RD_read 45 = .ok (.ifCond .ne 6, 3) := by decide +kernel
theorem xd_RD_read_48 : decode xc_RD_read 48 = .ok (.iload 4, 2) := by decide +kernel
theorem xd_RD_read_50 : decode xc_RD_read 50 = .ok (.ireturn, 1) := by decide +kernel
theorem xd_RD_read_51 : decode xc_RD_read 51 = .ok (.iinc 4 1, 3) := by decide +kernel
theorem xd_RD_read_54 : decode xc_RD_read 54 = .ok (.goto (-46), 3) := by decide +kernel
theorem xd_RD_read_57 : decode xc_RD_read 57 = .ok (.aload_n 0, 1) := by decide +kernel
theorem xd_RD_read_58 : decode xc_RD_read 58 = .ok (.getfield 22, 3) := by decide +kernel
theorem xd_RD_read_61 : decode xc_RD_read 61 = .ok (.ifCond .ne 10, 3) := by decide +kernel
theorem xd_RD_read_64 : decode xc_RD_read 64 = .ok (.aload_n 0, 1) := by decide +kernel
theorem xd_RD_read_65 : decode xc_RD_read 65 = .ok (.getfield 26, 3) := by decide +kernel
theorem xd_RD_read_68 : decode xc_RD_read 68 = .ok (.ifCond .le 5, 3) := by decide +kernel
theorem xd_RD_read_71 : decode xc_RD_read 71 = .ok (.iload_n 2, 1) := by decide +kernel
theorem xd_RD_read_72 : decode xc_RD_read 72 = .ok (.ireturn, 1) := by decide +kernel
theorem xd_RD_read_73 : decode xc_RD_read 73 = .ok (.aload_n 0, 1) := by decide +kernel
theorem xd_RD_read_74 : decode xc_RD_read 74 = .ok (.invokevirtual 53, 3) := by decide +kernel
theorem xd_RD_read_77 : decode xc_RD_read 77 = .ok (.aload_n 0, 1) := by decide +kernel
theorem xd_RD_read_78 : decode xc_RD_read 78 = .ok (.getfield 18, 3) := by decide +kernel
theorem xd_RD_read_81 : decode xc_RD_read 81 = .ok (.aload_n 0, 1) := by decide +kernel
theorem xd_RD_read_82 : decode xc_RD_read 82 = .ok (.getfield 9, 3) := by decide +kernel
theorem xd_RD_read_85 : decode xc_RD_read 85 = .ok (.iconst 0, 1) := by decide +kernel
theorem xd_RD_read_86 : decode xc_RD_read 86 = .ok (.iaload, 1) := by decide +kernel
theorem xd_RD_read_87 : decode xc_RD_read 87 = .ok (.putfield 56, 3) := by decide +kernel
theorem xd_RD_read_90 : decode xc_RD_read 90 = .ok (.iconst (-1), 1) := by decide +kernel
theorem xd_RD_read_91 : decode xc_RD_read 91 = .ok (.ireturn, 1) := by decide +kernel
theorem xd_RD_start_0 : decode xc_RD_start 0 = .ok (.aload_n 0, 1) := by decide +kernel
theorem xd_RD_start_1 : decode xc_RD_start 1 = .ok (.aload_n 1, 1) := by decide +kernel
theorem xd_RD_start_2 : decode xc_RD_start 2 = .ok (.putfield 18, 3) := by decide +kernel
theorem xd_RD_start_5 : decode xc_RD_start 5 = .ok (.aload_n 0, 1) := by decide +kernel
theorem xd_RD_start_6 : decode xc_RD_start 6 = .ok (.getfield 18, 3) := by decide +kernel
theorem xd_RD_start_9 : decode xc_RD_start 9 = .ok (.invokevirtual 59, 3) := by decide +kernel
theorem xd_RD_start_12 : decode xc_RD_start 12 = .ok (.aload_n 0, 1) := by decide +kernel
theorem xd_RD_start_13 : decode xc_RD_start 13 = .ok (.iconst 0, 1) := by decide +kernel
theorem xd_RD_start_14 : decode xc_RD_start 14 = .ok (.putfield 22, 3) := by decide +kernel
theorem xd_RD_start_17 : decode xc_RD_start 17 = .ok (.aload_n 0, 1) := by decide +kernel
theorem xd_RD_start_18 : decode xc_RD_start 18 = .ok (.iconst 0, 1) := by decide +kernel
theorem xd_RD_start_19 : decode xc_RD_start 19 = .ok (.putfield 26, 3) := by decide +kernel
theorem xd_RD_start_22 : decode xc_RD_start 22 = .ok (.aload_n 0, 1) := by decide +kernel
theorem xd_RD_start_23 : decode xc_RD_start 23 = .ok (.iconst 0, 1) := by decide +kernel
theorem xd_RD_start_24 : decode xc_RD_start 24 = .ok (.putfield 29, 3) := by decide +kernel
theorem xd_RD_start_27 : decode xc_RD_start 27 = .ok (.aload_n 0, 1) := by decide +kernel
theorem xd_RD_start_28 : decode xc_RD_start 28 = .ok (.invokevirtual 62, 3) := by decide +kernel
theorem xd_RD_start_31 : decode xc_RD_start 31 = .ok (.return_, 1) := by decide +kernel
theorem xd_RD_startAlternative_0 : decode xc_RD_startAlternative 0 = .ok (.aload_n 0, 1) := by decide +kernel
theorem xd_RD_startAlternative_1 : decode xc_RD_startAlternative 1 = .ok (.getfield 9, 3) := by decide +kernel
theorem xd_RD_startAlternative_4 : decode xc_RD_startAlternative 4 = .ok (.aload_n 0, 1) := by decide +kernel
theorem xd_RD_startAlternative_5 : decode xc_RD_startAlternative 5 = .ok (.getfield 26, 3) := by decide +kernel
theorem xd_RD_startAlternative_8 : decode xc_RD_startAlternative 8 = .ok (.iconst 0, 1) := by decide +kernel
theorem xd_RD_startAlternative_9 : decode xc_RD_startAlternative 9 = .ok (.iastore, 1) := by decide +kernel
theorem xd_RD_startAlternative_10 : decode xc_RD_startAlternative 10 = .ok (.aload_n 0, 1) := by decide +kernel
theorem xd_RD_startAlternative_11 : decode xc_RD_startAlternative 11 = .ok (.getfield 18, 3) := by decide +kernel
theorem xd_RD_startAlternative_14 : decode xc_RD_startAlternative 14 = .ok (.iconst 0, 1) := by decide +kernel
theorem xd_RD_startAlternative_15 : decode xc_RD_startAlternative 15 = .ok (.iconst 0, 1) := by decide +kernel
theorem xd_RD_startAlternative_16 : decode xc_RD_startAlternative 16 = .ok (.invokevirtual 91, 3) := by decide +kernel
theorem xd_RD_startAlternative_19 : decode xc_RD_startAlternative 19 = .ok (.aload_n 0, 1) := by decide +kernel
theorem xd_RD_startAlternative_20 : decode xc_RD_startAlternative 20 = .ok (.getfield 18, 3) := by decide +kernel
theorem xd_RD_startAlternative_23 : decode xc_RD_startAlternative 23 = .ok (.iconst 1, 1) := by decide +kernel
theorem xd_RD_startAlternative_24 : decode xc_RD_startAlternative 24 = .ok (.iconst 0, 1) := by decide +kernel
theorem xd_RD_startAlternative_25 : decode xc_RD_startAlternative 25 = .ok (.invokevirtual 91, 3) := by decide +kernel
theorem xd_RD_startAlternative_28 : decode xc_RD_startAlternative 28 = .ok (.return_, 1) := by decide +kernel
theorem xd_RD_takeInRow_0 : decode xc_RD_takeInRow 0 = .ok (.iload_n 1, 1) := by decide +kernel
theorem xd_RD_takeInRow_1 : decode xc_RD_takeInRow 1 = .ok (.lookupswitch 162 #[(40, 83), (41, 88), (42, 120), (43, 127), (63, 134), (91, 114), (94, 108), (123, 141), (124, 93)], 83) := by decide +kernel
theorem xd_RD_takeInRow_84 : decode xc_RD_takeInRow 84 = .ok (.aload_n 0, 1) := by decide +kernel
theorem xd_RD_takeInRow_85 : decode xc_RD_takeInRow 85 = .ok (.invokevirtual 84, 3) := by decide +kernel
theorem xd_RD_takeInRow_88 : decode xc_RD_takeInRow 88 = .ok (.ireturn, 1) := by decide +kernel
theorem xd_RD_takeInRow_89 : decode xc_RD_takeInRow 89 = .ok (.aload_n 0, 1) := by decide +kernel
theorem xd_RD_takeInRow_90 : decode xc_RD_takeInRow 90 = .ok (.invokevirtual 88, 3) := by decide +kernel
theorem xd_RD_takeInRow_93 : decode xc_RD_takeInRow 93 = .ok (.ireturn, 1) := by decide +kernel
theorem xd_RD_takeInRow_94 : decode xc_RD_takeInRow 94 = .ok (.aload_n 0, 1) := by decide +kernel
theorem xd_RD_takeInRow_95 : decode xc_RD_takeInRow 95 = .ok (.invokevirtual 53, 3) := by decide +kernel
theorem xd_RD_takeInRow_98 : decode xc_RD_takeInRow 98 = .ok (.aload_n 0, 1) := by decide +kernel
theorem xd_RD_takeInRow_99 : decode xc_RD_takeInRow 99 = .ok (.getfield 18, 3) := by decide +kernel
theorem xd_RD_takeInRow_102 : decode xc_RD_takeInRow 102 = .ok (.iconst 1, 1) := by decide +kernel
theorem xd_RD_takeInRow_103 : decode xc_RD_takeInRow 103 = .ok (.iconst 0, 1) := by decide +kernel
theorem xd_RD_takeInRow_104 : decode xc_RD_takeInRow 104 = .ok (.invokevirtual 91, 3) := by decide +kernel
theorem xd_RD_takeInRow_107 : decode xc_RD_takeInRow 107 = .ok (.iconst 1, 1) := by decide +kernel
theorem xd_RD_takeInRow_108 : decode xc_RD_takeInRow 108 = .ok (.ireturn, 1) := by decide +kernel
theorem xd_RD_takeInRow_109 : decode xc_RD_takeInRow 109 = .ok (.aload_n 0, 1) := by decide +kernel
theorem xd_RD_takeInRow_110 : decode xc_RD_takeInRow 110 = .ok (.iconst 1, 1) := by decide +kernel
theorem xd_RD_takeInRow_111 : decode xc_RD_takeInRow 111 = .ok (.invokevirtual 69, 3) := by decide +kernel
theorem xd_RD_takeInRow_114 : decode xc_RD_takeInRow 114 = .ok (.ireturn, 1) := by decide +kernel
theorem xd_RD_takeInRow_115 : decode xc_RD_takeInRow 115 = .ok (.aload_n 0, 1) := by decide +kernel
theorem xd_RD_takeInRow_116 : decode xc_RD_takeInRow 116 = .ok (.iconst 2, 1) := by decide +kernel
theorem xd_RD_takeInRow_117 : decode xc_RD_takeInRow 117 = .ok (.invokevirtual 69, 3) := by decide +kernel
theorem xd_RD_takeInRow_120 : decode xc_RD_takeInRow 120 = .ok (.ireturn, 1) := by decide +kernel
theorem xd_RD_takeInRow_121 : decode xc_RD_takeInRow 121 = .ok (.aload_n 0, 1) := by decide +kernel
theorem xd_RD_takeInRow_122 : decode xc_RD_takeInRow 122 = .ok (.bipush 8, 2) := by decide +kernel
theorem xd_RD_takeInRow_124 : decode xc_RD_takeInRow 124 = .ok (.invokevirtual 95, 3) := by decide +kernel
theorem xd_RD_takeInRow_127 : decode xc_RD_takeInRow 127 = .ok (.ireturn, 1) := by decide +kernel
theorem xd_RD_takeInRow_128 : decode xc_RD_takeInRow 128 = .ok (.aload_n 0, 1) := by decide +kernel
theorem xd_RD_takeInRow_129 : decode xc_RD_takeInRow 129 = .ok (.bipush 9, 2) := by decide +kernel
theorem xd_RD_takeInRow_131 : decode xc_RD_takeInRow 131 = .ok (.invokevirtual 95, 3) := by decide +kernel
theorem xd_RD_takeInRow_134 : decode xc_RD_takeInRow 134 = .ok (.ireturn, 1) := by decide +kernel
theorem xd_RD_takeInRow_135 : decode xc_RD_takeInRow 135 = .ok (.aload_n 0, 1) := by decide +kernel
theorem xd_RD_takeInRow_136 : decode xc_RD_takeInRow 136 = .ok (.bipush 10, 2) := by decide +kernel
theorem xd_RD_takeInRow_138 : decode xc_RD_takeInRow 138 = .ok (.invokevirtual 95, 3) := by decide +kernel
theorem xd_RD_takeInRow_141 : decode xc_RD_takeInRow 141 = .ok (.ireturn, 1) := by decide +kernel
theorem xd_RD_takeInRow_142 : decode xc_RD_takeInRow 142 = .ok (.aload_n 0, 1) := by decide +kernel
theorem xd_RD_takeInRow_143 : decode xc_RD_takeInRow 143 = .ok (.getfield 29, 3) := by decide +kernel
theorem xd_RD_takeInRow_146 : decode xc_RD_takeInRow 146 = .ok (.ifCond .eq 15, 3) := by decide +kernel
theorem xd_RD_takeInRow_149 : decode xc_RD_takeInRow 149 = .ok (.aload_n 0, 1) := by decide +kernel
theorem xd_RD_takeInRow_150 : decode xc_RD_takeInRow 150 = .ok (.iconst 5, 1) := by decide +kernel
theorem xd_RD_takeInRow_151 : decode xc_RD_takeInRow 151 = .ok (.invokevirtual 69, 3) := by decide +kernel
theorem xd_RD_takeInRow_154 : decode xc_RD_takeInRow 154 = .ok (.ifCond .eq 7, 3) := by decide +kernel
theorem xd_RD_takeInRow_157 : decode xc_RD_takeInRow 157 = .ok (.iconst 1, 1) := by decide +kernel
theorem xd_RD_takeInRow_158 : decode xc_RD_takeInRow 158 = .ok (.goto 4, 3) := by decide +kernel
theorem xd_RD_takeInRow_161 : decode xc_RD_takeInRow 161 = .ok (.iconst 0, 1) := by decide +kernel
theorem xd_RD_takeInRow_162 : decode xc_RD_takeInRow 162 = .ok (.ireturn, 1) := by decide +kernel
theorem xd_RD_takeInRow_163 : decode xc_RD_takeInRow 163 = .ok (.aload_n 0, 1) := by decide +kernel
theorem xd_RD_takeInRow_164 : decode xc_RD_takeInRow 164 = .ok (.iload_n 1, 1) := by decide +kernel
theorem xd_RD_takeInRow_165 : decode xc_RD_takeInRow 165 = .ok (.iconst 2, 1) := by decide +kernel
theorem xd_RD_takeInRow_166 : decode xc_RD_takeInRow 166 = .ok (.invokevirtual 65, 3) := by decide +kernel
theorem xd_RD_takeInRow_169 : decode xc_RD_takeInRow 169 = .ok (.ireturn, 1) := by decide +kernel
theorem xd_RD_openGroup_0 : decode xc_RD_openGroup 0 = .ok (.aload_n 0, 1) := by decide +kernel
theorem xd_RD_openGroup_1 : decode xc_RD_openGroup 1 = .ok (.getfield 26, 3) := by decide +kernel
theorem xd_RD_openGroup_4 : decode xc_RD_openGroup 4 = .ok (.bipush 10, 2) := by decide +kernel
theorem xd_RD_openGroup_6 : decode xc_RD_openGroup 6 = .ok (.if_icmp .ne 5, 3) := by decide +kernel
theorem xd_RD_openGroup_9 : decode xc_RD_openGroup 9 = .ok (.iconst 0, 1) := by decide +kernel
theorem xd_RD_openGroup_10 : decode xc_RD_openGroup 10 = .ok (.ireturn, 1) := by decide +kernel
theorem xd_RD_openGroup_11 : decode xc_RD_openGroup 11 = .ok (.aload_n 0, 1) := by decide +kernel
theorem xd_RD_openGroup_12 : decode xc_RD_openGroup 12 = .ok (.invokevirtual 110, 3) := by decide +kernel
theorem xd_RD_openGroup_15 : decode xc_RD_openGroup 15 = .ok (.aload_n 0, 1) := by decide +kernel
theorem xd_RD_openGroup_16 : decode xc_RD_openGroup 16 = .ok (.dup, 1) := by decide +kernel
theorem xd_RD_openGroup_17 : decode xc_RD_openGroup 17 = .ok (.getfield 26, 3) := by decide +kernel
theorem xd_RD_openGroup_20 : decode xc_RD_openGroup 20 = .ok (.iconst 1, 1) := by decide +kernel
theorem xd_RD_openGroup_21 : decode xc_RD_openGroup 21 = .ok (.iadd, 1) := by decide +kernel
theorem xd_RD_openGroup_22 : decode xc_RD_openGroup 22 = .ok (.putfield 26, 3) := by decide +kernel
theorem xd_RD_openGroup_25 : decode xc_RD_openGroup 25 = .ok (.aload_n 0, 1) := by decide +kernel
theorem xd_RD_openGroup_26 : decode xc_RD_openGroup 26 = .ok (.invokevirtual 62, 3) := by decide +kernel
theorem xd_RD_openGroup_29 : decode xc_RD_openGroup 29 = .ok (.iconst 1, 1) := by decide +kernel
theorem xd_RD_openGroup_30 : decode xc_RD_openGroup 30 = .ok (.ireturn, 1) := by decide +kernel
theorem xd_RD_endRepeat_0 : decode xc_RD_endRepeat 0 = .ok (.aload_n 0, 1) := by decide +kernel
theorem xd_RD_endRepeat_1 : decode xc_RD_endRepeat 1 = .ok (.getfield 29, 3) := by decide +kernel
theorem xd_RD_endRepeat_4 : decode xc_RD_endRepeat 4 = .ok (.ifCond .eq 46, 3) := by decide +kernel
theorem xd_RD_endRepeat_7 : decode xc_RD_endRepeat 7 = .ok (.aload_n 0, 1) := by decide +kernel
theorem xd_RD_endRepeat_8 : decode xc_RD_endRepeat 8 = .ok (.getfield 18, 3) := by decide +kernel
theorem xd_RD_endRepeat_11 : decode xc_RD_endRepeat 11 = .ok (.bipush 6, 2) := by decide +kernel
theorem xd_RD_endRepeat_13 : decode xc_RD_endRepeat 13 = .ok (.iconst 0, 1) := by decide +kernel
theorem xd_RD_endRepeat_14 : decode xc_RD_endRepeat 14 = .ok (.invokevirtual 91, 3) := by decide +kernel
theorem xd_RD_endRepeat_17 : decode xc_RD_endRepeat 17 = .ok (.aload_n 0, 1) := by decide +kernel
theorem xd_RD_endRepeat_18 : decode xc_RD_endRepeat 18 = .ok (.getfield 9, 3) := by decide +kernel
theorem xd_RD_endRepeat_21 : decode xc_RD_endRepeat 21 = .ok (.aload_n 0, 1) := by decide +kernel
theorem xd_RD_endRepeat_22 : decode xc_RD_endRepeat 22 = .ok (.getfield 26, 3) := by decide +kernel
theorem xd_RD_endRepeat_25 : decode xc_RD_endRepeat 25 = .ok (.aload_n 0, 1) := by decide +kernel
theorem xd_RD_endRepeat_26 : decode xc_RD_endRepeat 26 = .ok (.getfield 9, 3) := by decide +kernel
theorem xd_RD_endRepeat_29 : decode xc_RD_endRepeat 29 = .ok (.aload_n 0, 1) := by decide +kernel
theorem xd_RD_endRepeat_30 : decode xc_RD_endRepeat 30 = .ok (.getfield 26, 3) := by decide +kernel
theorem xd_RD_endRepeat_33 : decode xc_RD_endRepeat 33 = .ok (.iaload, 1) := by decide +kernel
theorem xd_RD_endRepeat_34 : decode xc_RD_endRepeat 34 = .ok (.aload_n 0, 1) := by decide +kernel
theorem xd_RD_endRepeat_35 : decode xc_RD_endRepeat 35 = .ok (.getfield 33, 3) := by decide +kernel
theorem xd_RD_endRepeat_38 : decode xc_RD_endRepeat 38 = .ok (.iadd, 1) := by decide +kernel
theorem xd_RD_endRepeat_39 : decode xc_RD_endRepeat 39 = .ok (.bipush 81, 2) := by decide +kernel
theorem xd_RD_endRepeat_41 : decode xc_RD_endRepeat 41 = .ok (.invokestatic 104, 3) := by decide +kernel
theorem xd_RD_endRepeat_44 : decode xc_RD_endRepeat 44 = .ok (.iastore, 1) := by decide +kernel
theorem xd_RD_endRepeat_45 : decode xc_RD_endRepeat 45 = .ok (.aload_n 0, 1) := by decide +kernel
theorem xd_RD_endRepeat_46 : decode xc_RD_endRepeat 46 = .ok (.iconst 0, 1) := by decide +kernel
theorem xd_RD_endRepeat_47 : decode xc_RD_endRepeat 47 = .ok (.putfield 29, 3) := by decide +kernel
theorem xd_RD_endRepeat_50 : decode xc_RD_endRepeat 50 = .ok (.return_, 1) := by decide +kernel
theorem xd_RD_closeGroup_0 : decode xc_RD_closeGroup 0 = .ok (.aload_n 0, 1) := by decide +kernel
theorem xd_RD_closeGroup_1 : decode xc_RD_closeGroup 1 = .ok (.getfield 26, 3) := by decide +kernel
theorem xd_RD_closeGroup_4 : decode xc_RD_closeGroup 4 = .ok (.ifCond .ne 5, 3) := by decide +kernel
theorem xd_RD_closeGroup_7 : decode xc_RD_closeGroup 7 = .ok (.iconst 0, 1) := by decide +kernel
theorem xd_RD_closeGroup_8 : decode xc_RD_closeGroup 8 = .ok (.ireturn, 1) := by decide +kernel
theorem xd_RD_closeGroup_9 : decode xc_RD_closeGroup 9 = .ok (.aload_n 0, 1) := by decide +kernel
theorem xd_RD_closeGroup_10 : decode xc_RD_closeGroup 10 = .ok (.invokevirtual 53, 3) := by decide +kernel
theorem xd_RD_closeGroup_13 : decode xc_RD_closeGroup 13 = .ok (.aload_n 0, 1) := by decide +kernel
theorem xd_RD_closeGroup_14 : decode xc_RD_closeGroup 14 = .ok (.aload_n 0, 1) := by decide +kernel
theorem xd_RD_closeGroup_15 : decode xc_RD_closeGroup 15 = .ok (.getfield 9, 3) := by decide +kernel
theorem xd_RD_closeGroup_18 : decode xc_RD_closeGroup 18 = .ok (.aload_n 0, 1) := by decide +kernel
theorem xd_RD_closeGroup_19 : decode xc_RD_closeGroup 19 = .ok (.getfield 26, 3) := by decide +kernel
theorem xd_RD_closeGroup_22 : decode xc_RD_closeGroup 22 = .ok (.iaload, 1) := by decide +kernel
theorem xd_RD_closeGroup_23 : decode xc_RD_closeGroup 23 = .ok (.invokevirtual 113, 3) := by decide +kernel
theorem xd_RD_closeGroup_26 : decode xc_RD_closeGroup 26 = .ok (.aload_n 0, 1) := by decide +kernel
theorem xd_RD_closeGroup_27 : decode xc_RD_closeGroup 27 = .ok (.dup, 1) := by decide +kernel
theorem xd_RD_closeGroup_28 : decode xc_RD_closeGroup 28 = .ok (.getfield 26, 3) := by decide +kernel
theorem xd_RD_closeGroup_31 : decode xc_RD_closeGroup 31 = .ok (.iconst 1, 1) := by decide +kernel
theorem xd_RD_closeGroup_32 : decode xc_RD_closeGroup 32 = .ok (.isub, 1) := by decide +kernel
theorem xd_RD_closeGroup_33 : decode xc_RD_closeGroup 33 = .ok (.putfield 26, 3) := by decide +kernel
theorem xd_RD_closeGroup_36 : decode xc_RD_closeGroup 36 = .ok (.iconst 1, 1) := by decide +kernel
theorem xd_RD_closeGroup_37 : decode xc_RD_closeGroup 37 = .ok (.ireturn, 1) := by decide +kernel
theorem xd_RD_endRow_0 : decode xc_RD_endRow 0 = .ok (.aload_n 0, 1) := by decide +kernel
theorem xd_RD_endRow_1 : decode xc_RD_endRow 1 = .ok (.invokevirtual 110, 3) := by decide +kernel
theorem xd_RD_endRow_4 : decode xc_RD_endRow 4 = .ok (.aload_n 0, 1) := by decide +kernel
theorem xd_RD_endRow_5 : decode xc_RD_endRow 5 = .ok (.getfield 18, 3) := by decide +kernel
theorem xd_RD_endRow_8 : decode xc_RD_endRow 8 = .ok (.bipush 7, 2) := by decide +kernel
theorem xd_RD_endRow_10 : decode xc_RD_endRow 10 = .ok (.iconst 0, 1) := by decide +kernel
theorem xd_RD_endRow_11 : decode xc_RD_endRow 11 = .ok (.invokevirtual 91, 3) := by decide +kernel
theorem xd_RD_endRow_14 : decode xc_RD_endRow 14 = .ok (.return_, 1) := by decide +kernel
theorem xd_RD_startRepeat_0 : decode xc_RD_startRepeat 0 = .ok (.aload_n 0, 1) := by decide +kernel
theorem xd_RD_startRepeat_1 : decode xc_RD_startRepeat 1 = .ok (.iconst 1, 1) := by decide +kernel
theorem xd_RD_startRepeat_2 : decode xc_RD_startRepeat 2 = .ok (.putfield 29, 3) := by decide +kernel
theorem xd_RD_startRepeat_5 : decode xc_RD_startRepeat 5 = .ok (.aload_n 0, 1) := by decide +kernel
theorem xd_RD_startRepeat_6 : decode xc_RD_startRepeat 6 = .ok (.iload_n 1, 1) := by decide +kernel
theorem xd_RD_startRepeat_7 : decode xc_RD_startRepeat 7 = .ok (.putfield 33, 3) := by decide +kernel
theorem xd_RD_startRepeat_10 : decode xc_RD_startRepeat 10 = .ok (.return_, 1) := by decide +kernel
theorem xd_RD_goOnTo_0 : decode xc_RD_goOnTo 0 = .ok (.aload_n 0, 1) := by decide +kernel
theorem xd_RD_goOnTo_1 : decode xc_RD_goOnTo 1 = .ok (.iload_n 1, 1) := by decide +kernel
theorem xd_RD_goOnTo_2 : decode xc_RD_goOnTo 2 = .ok (.putfield 22, 3) := by decide +kernel
theorem xd_RD_goOnTo_5 : decode xc_RD_goOnTo 5 = .ok (.iconst 1, 1) := by decide +kernel
theorem xd_RD_goOnTo_6 : decode xc_RD_goOnTo 6 = .ok (.ireturn, 1) := by decide +kernel
theorem xd_RD_changeRepeat_0 : decode xc_RD_changeRepeat 0 = .ok (.aload_n 0, 1) := by decide +kernel
theorem xd_RD_changeRepeat_1 : decode xc_RD_changeRepeat 1 = .ok (.getfield 29, 3) := by decide +kernel
theorem xd_RD_changeRepeat_4 : decode xc_RD_changeRepeat 4 = .ok (.ifCond .eq 12, 3) := by decide +kernel
theorem xd_RD_changeRepeat_7 : decode xc_RD_changeRepeat 7 = .ok (.aload_n 0, 1) := by decide +kernel
theorem xd_RD_changeRepeat_8 : decode xc_RD_changeRepeat 8 = .ok (.getfield 18, 3) := by decide +kernel
theorem xd_RD_changeRepeat_11 : decode xc_RD_changeRepeat 11 = .ok (.iload_n 1, 1) := by decide +kernel
theorem xd_RD_changeRepeat_12 : decode xc_RD_changeRepeat 12 = .ok (.iconst 0, 1) := by decide +kernel
theorem xd_RD_changeRepeat_13 : decode xc_RD_changeRepeat 13 = .ok (.invokevirtual 91, 3) := by decide +kernel
theorem xd_RD_changeRepeat_16 : decode xc_RD_changeRepeat 16 = .ok (.aload_n 0, 1) := by decide +kernel
theorem xd_RD_changeRepeat_17 : decode xc_RD_changeRepeat 17 = .ok (.getfield 29, 3) := by decide +kernel
theorem xd_RD_changeRepeat_20 : decode xc_RD_changeRepeat 20 = .ok (.ireturn, 1) := by decide +kernel
theorem xd_RD_takeStep_0 : decode xc_RD_takeStep 0 = .ok (.iload_n 1, 1) := by decide +kernel
theorem xd_RD_takeStep_1 : decode xc_RD_takeStep 1 = .ok (.bipush 46, 2) := by decide +kernel
theorem xd_RD_takeStep_3 : decode xc_RD_takeStep 3 = .ok (.if_icmp .ne 17, 3) := by decide +kernel
theorem xd_RD_takeStep_6 : decode xc_RD_takeStep 6 = .ok (.aload_n 0, 1) := by decide +kernel
theorem xd_RD_takeStep_7 : decode xc_RD_takeStep 7 = .ok (.iload_n 2, 1) := by decide +kernel
theorem xd_RD_takeStep_8 : decode xc_RD_takeStep 8 = .ok (.sipush 255, 3) := by decide +kernel
theorem xd_RD_takeStep_11 : decode xc_RD_takeStep 11 = .ok (.invokevirtual 98, 3) := by decide +kernel
theorem xd_RD_takeStep_14 : decode xc_RD_takeStep 14 = .ok (.aload_n 0, 1) := by decide +kernel
theorem xd_RD_takeStep_15 : decode xc_RD_takeStep 15 = .ok (.iconst 0, 1) := by decide +kernel
theorem xd_RD_takeStep_16 : decode xc_RD_takeStep 16 = .ok (.invokevirtual 69, 3) := by decide +kernel
theorem xd_RD_takeStep_19 : decode xc_RD_takeStep 19 = .ok (.ireturn, 1) := by decide +kernel
theorem xd_RD_takeStep_20 : decode xc_RD_takeStep 20 = .ok (.iload_n 1, 1) := by decide +kernel
theorem xd_RD_takeStep_21 : decode xc_RD_takeStep 21 = .ok (.bipush 97, 2) := by decide +kernel
theorem xd_RD_takeStep_23 : decode xc_RD_takeStep 23 = .ok (.isub, 1) := by decide +kernel
theorem xd_RD_takeStep_24 : decode xc_RD_takeStep 24 = .ok (.istore_n 3, 1) := by decide +kernel
theorem xd_RD_takeStep_25 : decode xc_RD_takeStep 25 = .ok (.iload_n 3, 1) := by decide +kernel
theorem xd_RD_takeStep_26 : decode xc_RD_takeStep 26 = .ok (.ifCond .lt 9, 3) := by decide +kernel
theorem xd_RD_takeStep_29 : decode xc_RD_takeStep 29 = .ok (.iload_n 3, 1) := by decide +kernel
theorem xd_RD_takeStep_30 : decode xc_RD_takeStep 30 = .ok (.bipush 8, 2) := by decide +kernel
theorem xd_RD_takeStep_32 : decode xc_RD_takeStep 32 = .ok (.if_icmp .lt 5, 3) := by decide +kernel
theorem xd_RD_takeStep_35 : decode xc_RD_takeStep 35 = .ok (.iconst 0, 1) := by decide +kernel
theorem xd_RD_takeStep_36 : decode xc_RD_takeStep 36 = .ok (.ireturn, 1) := by decide +kernel
theorem xd_RD_takeStep_37 : decode xc_RD_takeStep 37 = .ok (.aload_n 0, 1) := by decide +kernel
theorem xd_RD_takeStep_38 : decode xc_RD_takeStep 38 = .ok (.iload_n 2, 1) := by decide +kernel
theorem xd_RD_takeStep_39 : decode xc_RD_takeStep 39 = .ok (.iconst 1, 1) := by decide +kernel
theorem xd_RD_takeStep_40 : decode xc_RD_takeStep 40 = .ok (.iload_n 3, 1) := by decide +kernel
theorem xd_RD_takeStep_41 : decode xc_RD_takeStep 41 = .ok (.ishl, 1) := by decide +kernel
theorem xd_RD_takeStep_42 : decode xc_RD_takeStep 42 = .ok (.invokevirtual 98, 3) := by decide +kernel
theorem xd_RD_takeStep_45 : decode xc_RD_takeStep 45 = .ok (.aload_n 0, 1) := by decide +kernel
theorem xd_RD_takeStep_46 : decode xc_RD_takeStep 46 = .ok (.iconst 0, 1) := by decide +kernel
theorem xd_RD_takeStep_47 : decode xc_RD_takeStep 47 = .ok (.invokevirtual 69, 3) := by decide +kernel
theorem xd_RD_takeStep_50 : decode xc_RD_takeStep 50 = .ok (.ireturn, 1) := by decide +kernel
theorem xd_RD_addStep_0 : decode xc_RD_addStep 0 = .ok (.aload_n 0, 1) := by decide +kernel
theorem xd_RD_addStep_1 : decode xc_RD_addStep 1 = .ok (.invokevirtual 110, 3) := by decide +kernel
theorem xd_RD_addStep_4 : decode xc_RD_addStep 4 = .ok (.aload_n 0, 1) := by decide +kernel
theorem xd_RD_addStep_5 : decode xc_RD_addStep 5 = .ok (.getfield 18, 3) := by decide +kernel
theorem xd_RD_addStep_8 : decode xc_RD_addStep 8 = .ok (.iload_n 1, 1) := by decide +kernel
theorem xd_RD_addStep_9 : decode xc_RD_addStep 9 = .ok (.iload_n 2, 1) := by decide +kernel
theorem xd_RD_addStep_10 : decode xc_RD_addStep 10 = .ok (.invokevirtual 91, 3) := by decide +kernel
theorem xd_RD_addStep_13 : decode xc_RD_addStep 13 = .ok (.aload_n 0, 1) := by decide +kernel
theorem xd_RD_addStep_14 : decode xc_RD_addStep 14 = .ok (.iconst 1, 1) := by decide +kernel
theorem xd_RD_addStep_15 : decode xc_RD_addStep 15 = .ok (.invokevirtual 113, 3) := by decide +kernel
theorem xd_RD_addStep_18 : decode xc_RD_addStep 18 = .ok (.return_, 1) := by decide +kernel
theorem xd_RD_takeInside_0 : decode xc_RD_takeInside 0 = .ok (.aload_n 0, 1) := by decide +kernel
theorem xd_RD_takeInside_1 : decode xc_RD_takeInside 1 = .ok (.getfield 22, 3) := by decide +kernel
theorem xd_RD_takeInside_4 : decode xc_RD_takeInside 4 = .ok (.tableswitch 132 1 7 #[44, 51, 72, 79, 99, 105, 126], 44) := by decide +kernel
theorem xd_RD_takeInside_48 : decode xc_RD_takeInside 48 = .ok (.aload_n 0, 1) := by decide +kernel
theorem xd_RD_takeInside_49 : decode xc_RD_takeInside 49 = .ok (.iload_n 1, 1) := by decide +kernel
theorem xd_RD_takeInside_50 : decode xc_RD_takeInside 50 = .ok (.iconst 3, 1) := by decide +kernel
theorem xd_RD_takeInside_51 : decode xc_RD_takeInside 51 = .ok (.invokevirtual 65, 3) := by decide +kernel
theorem xd_RD_takeInside_54 : decode xc_RD_takeInside 54 = .ok (.ireturn, 1) := by decide +kernel
theorem xd_RD_takeInside_55 : decode xc_RD_takeInside 55 = .ok (.iload_n 1, 1) := by decide +kernel
theorem xd_RD_takeInside_56 : decode xc_RD_takeInside 56 = .ok (.bipush 33, 2) := by decide +kernel
theorem xd_RD_takeInside_58 : decode xc_RD_takeInside 58 = .ok (.if_icmp .ne 11, 3) := by decide +kernel
theorem xd_RD_takeInside_61 : decode xc_RD_takeInside 61 = .ok (.aload_n 0, 1) := by decide +kernel
theorem xd_RD_takeInside_62 : decode xc_RD_takeInside 62 = .ok (.iconst 3, 1) := by decide +kernel
theorem xd_RD_takeInside_63 : decode xc_RD_takeInside 63 = .ok (.invokevirtual 69, 3) := by decide +kernel
theorem xd_RD_takeInside_66 : decode xc_RD_takeInside 66 = .ok (.goto 9, 3) := by decide +kernel
theorem xd_RD_takeInside_69 : decode xc_RD_takeInside 69 = .ok (.aload_n 0, 1) := by decide +kernel
theorem xd_RD_takeInside_70 : decode xc_RD_takeInside 70 = .ok (.iload_n 1, 1) := by decide +kernel
theorem xd_RD_takeInside_71 : decode xc_RD_takeInside 71 = .ok (.iconst 4, 1) := by decide +kernel
theorem xd_RD_takeInside_72 : decode xc_RD_takeInside 72 = .ok (.invokevirtual 72, 3) := by decide +kernel
theorem xd_RD_takeInside_75 : decode xc_RD_takeInside 75 = .ok (.ireturn, 1) := by decide +kernel
theorem xd_RD_takeInside_76 : decode xc_RD_takeInside 76 = .ok (.aload_n 0, 1) := by decide +kernel
theorem xd_RD_takeInside_77 : decode xc_RD_takeInside 77 = .ok (.iload_n 1, 1) := by decide +kernel
theorem xd_RD_takeInside_78 : decode xc_RD_takeInside 78 = .ok (.iconst 5, 1) := by decide +kernel
theorem xd_RD_takeInside_79 : decode xc_RD_takeInside 79 = .ok (.invokevirtual 72, 3) := by decide +kernel
theorem xd_RD_takeInside_82 : decode xc_RD_takeInside 82 = .ok (.ireturn, 1) := by decide +kernel
theorem xd_RD_takeInside_83 : decode xc_RD_takeInside 83 = .ok (.iload_n 1, 1) := by decide +kernel
theorem xd_RD_takeInside_84 : decode xc_RD_takeInside 84 = .ok (.bipush 93, 2) := by decide +kernel
theorem xd_RD_takeInside_86 : decode xc_RD_takeInside 86 = .ok (.if_icmp .ne 15, 3) := by decide +kernel
theorem xd_RD_takeInside_89 : decode xc_RD_takeInside 89 = .ok (.aload_n 0, 1) := by decide +kernel
theorem xd_RD_takeInside_90 : decode xc_RD_takeInside 90 = .ok (.iconst 0, 1) := by decide +kernel
theorem xd_RD_takeInside_91 : decode xc_RD_takeInside 91 = .ok (.invokevirtual 69, 3) := by decide +kernel
theorem xd_RD_takeInside_94 : decode xc_RD_takeInside 94 = .ok (.ifCond .eq 7, 3) := by decide +kernel
theorem xd_RD_takeInside_97 : decode xc_RD_takeInside 97 = .ok (.iconst 1, 1) := by decide +kernel
theorem xd_RD_takeInside_98 : decode xc_RD_takeInside 98 = .ok (.goto 4, 3) := by decide +kernel
theorem xd_RD_takeInside_101 : decode xc_RD_takeInside 101 = .ok (.iconst 0, 1) := by decide +kernel
theorem xd_RD_takeInside_102 : decode xc_RD_takeInside 102 = .ok (.ireturn, 1) := by decide +kernel
theorem xd_RD_takeInside_103 : decode xc_RD_takeInside 103 = .ok (.aload_n 0, 1) := by decide +kernel
theorem xd_RD_takeInside_104 : decode xc_RD_takeInside 104 = .ok (.iload_n 1, 1) := by decide +kernel
theorem xd_RD_takeInside_105 : decode xc_RD_takeInside 105 = .ok (.invokevirtual 75, 3) := by decide +kernel
theorem xd_RD_takeInside_108 : decode xc_RD_takeInside 108 = .ok (.ireturn, 1) := by decide +kernel
theorem xd_RD_takeInside_109 : decode xc_RD_takeInside 109 = .ok (.iload_n 1, 1) := by decide +kernel
theorem xd_RD_takeInside_110 : decode xc_RD_takeInside 110 = .ok (.bipush 44, 2) := by decide +kernel
theorem xd_RD_takeInside_112 : decode xc_RD_takeInside 112 = .ok (.if_icmp .ne 12, 3) := by decide +kernel
theorem xd_RD_takeInside_115 : decode xc_RD_takeInside 115 = .ok (.aload_n 0, 1) := by decide +kernel
theorem xd_RD_takeInside_116 : decode xc_RD_takeInside 116 = .ok (.bipush 7, 2) := by decide +kernel
theorem xd_RD_takeInside_118 : decode xc_RD_takeInside 118 = .ok (.invokevirtual 69, 3) := by decide +kernel
theorem xd_RD_takeInside_121 : decode xc_RD_takeInside 121 = .ok (.goto 8, 3) := by decide +kernel
theorem xd_RD_takeInside_124 : decode xc_RD_takeInside 124 = .ok (.aload_n 0, 1) := by decide +kernel
theorem xd_RD_takeInside_125 : decode xc_RD_takeInside 125 = .ok (.iload_n 1, 1) := by decide +kernel
theorem xd_RD_takeInside_126 : decode xc_RD_takeInside 126 = .ok (.invokevirtual 78, 3) := by decide +kernel
theorem xd_RD_takeInside_129 : decode xc_RD_takeInside 129 = .ok (.ireturn, 1) := by decide +kernel
theorem xd_RD_takeInside_130 : decode xc_RD_takeInside 130 = .ok (.aload_n 0, 1) := by decide +kernel
theorem xd_RD_takeInside_131 : decode xc_RD_takeInside 131 = .ok (.iload_n 1, 1) := by decide +kernel
theorem xd_RD_takeInside_132 : decode xc_RD_takeInside 132 = .ok (.invokevirtual 81, 3) := by decide +kernel
theorem xd_RD_takeInside_135 : decode xc_RD_takeInside 135 = .ok (.ireturn, 1) := by decide +kernel
theorem xd_RD_takeInside_136 : decode xc_RD_takeInside 136 = .ok (.aload_n 0, 1) := by decide +kernel
theorem xd_RD_takeInside_137 : decode xc_RD_takeInside 137 = .ok (.iload_n 1, 1) := by decide +kernel
theorem xd_RD_takeInside_138 : decode xc_RD_takeInside 138 = .ok (.invokevirtual 78, 3) := by decide +kernel
theorem xd_RD_takeInside_141 : decode xc_RD_takeInside 141 = .ok (.ireturn, 1) := by decide +kernel
theorem xd_RD_takeTag_0 : decode xc_RD_takeTag 0 = .ok (.iload_n 1, 1) := by decide +kernel
theorem xd_RD_takeTag_1 : decode xc_RD_takeTag 1 = .ok (.bipush 48, 2) := by decide +kernel
theorem xd_RD_takeTag_3 : decode xc_RD_takeTag 3 = .ok (.isub, 1) := by decide +kernel
theorem xd_RD_takeTag_4 : decode xc_RD_takeTag 4 = .ok (.istore_n 3, 1) := by decide +kernel
theorem xd_RD_takeTag_5 : decode xc_RD_takeTag 5 = .ok (.iload_n 3, 1) := by decide +kernel
theorem xd_RD_takeTag_6 : decode xc_RD_takeTag 6 = .ok (.ifCond .lt 8, 3) := by decide +kernel
theorem xd_RD_takeTag_9 : decode xc_RD_takeTag 9 = .ok (.iload_n 3, 1) := by decide +kernel
theorem xd_RD_takeTag_10 : decode xc_RD_takeTag 10 = .ok (.iconst 4, 1) := by decide +kernel
theorem xd_RD_takeTag_11 : decode xc_RD_takeTag 11 = .ok (.if_icmp .lt 5, 3) := by decide +kernel
theorem xd_RD_takeTag_14 : decode xc_RD_takeTag 14 = .ok (.iconst 0, 1) := by decide +kernel
theorem xd_RD_takeTag_15 : decode xc_RD_takeTag 15 = .ok (.ireturn, 1) := by decide +kernel
theorem xd_RD_takeTag_16 : decode xc_RD_takeTag 16 = .ok (.aload_n 0, 1) := by decide +kernel
theorem xd_RD_takeTag_17 : decode xc_RD_takeTag 17 = .ok (.iload_n 2, 1) := by decide +kernel
theorem xd_RD_takeTag_18 : decode xc_RD_takeTag 18 = .ok (.iload_n 3, 1) := by decide +kernel
theorem xd_RD_takeTag_19 : decode xc_RD_takeTag 19 = .ok (.invokevirtual 98, 3) := by decide +kernel
theorem xd_RD_takeTag_22 : decode xc_RD_takeTag 22 = .ok (.aload_n 0, 1) := by decide +kernel
theorem xd_RD_takeTag_23 : decode xc_RD_takeTag 23 = .ok (.iconst 4, 1) := by decide +kernel
theorem xd_RD_takeTag_24 : decode xc_RD_takeTag 24 = .ok (.invokevirtual 69, 3) := by decide +kernel
theorem xd_RD_takeTag_27 : decode xc_RD_takeTag 27 = .ok (.ireturn, 1) := by decide +kernel
theorem xd_RD_takeLeast_0 : decode xc_RD_takeLeast 0 = .ok (.iload_n 1, 1) := by decide +kernel
theorem xd_RD_takeLeast_1 : decode xc_RD_takeLeast 1 = .ok (.invokestatic 101, 3) := by decide +kernel
theorem xd_RD_takeLeast_4 : decode xc_RD_takeLeast 4 = .ok (.ifCond .ne 5, 3) := by decide +kernel
theorem xd_RD_takeLeast_7 : decode xc_RD_takeLeast 7 = .ok (.iconst 0, 1) := by decide +kernel
theorem xd_RD_takeLeast_8 : decode xc_RD_takeLeast 8 = .ok (.ireturn, 1) := by decide +kernel
theorem xd_RD_takeLeast_9 : decode xc_RD_takeLeast 9 = .ok (.aload_n 0, 1) := by decide +kernel
theorem xd_RD_takeLeast_10 : decode xc_RD_takeLeast 10 = .ok (.iload_n 1, 1) := by decide +kernel
theorem xd_RD_takeLeast_11 : decode xc_RD_takeLeast 11 = .ok (.bipush 48, 2) := by decide +kernel
theorem xd_RD_takeLeast_13 : decode xc_RD_takeLeast 13 = .ok (.isub, 1) := by decide +kernel
theorem xd_RD_takeLeast_14 : decode xc_RD_takeLeast 14 = .ok (.putfield 36, 3) := by decide +kernel
theorem xd_RD_takeLeast_17 : decode xc_RD_takeLeast 17 = .ok (.aload_n 0, 1) := by decide +kernel
theorem xd_RD_takeLeast_18 : decode xc_RD_takeLeast 18 = .ok (.aload_n 0, 1) := by decide +kernel
theorem xd_RD_takeLeast_19 : decode xc_RD_takeLeast 19 = .ok (.getfield 36, 3) := by decide +kernel
theorem xd_RD_takeLeast_22 : decode xc_RD_takeLeast 22 = .ok (.putfield 39, 3) := by decide +kernel
theorem xd_RD_takeLeast_25 : decode xc_RD_takeLeast 25 = .ok (.aload_n 0, 1) := by decide +kernel
theorem xd_RD_takeLeast_26 : decode xc_RD_takeLeast 26 = .ok (.bipush 6, 2) := by decide +kernel
theorem xd_RD_takeLeast_28 : decode xc_RD_takeLeast 28 = .ok (.invokevirtual 69, 3) := by decide +kernel
theorem xd_RD_takeLeast_31 : decode xc_RD_takeLeast 31 = .ok (.ireturn, 1) := by decide +kernel
theorem xd_RD_isDigit_0 : decode xc_RD_isDigit 0 = .ok (.iload_n 0, 1) := by decide +kernel
theorem xd_RD_isDigit_1 : decode xc_RD_isDigit 1 = .ok (.bipush 48, 2) := by decide +kernel
theorem xd_RD_isDigit_3 : decode xc_RD_isDigit 3 = .ok (.if_icmp .lt 13, 3) := by decide +kernel
theorem xd_RD_isDigit_6 : decode xc_RD_isDigit 6 = .ok (.iload_n 0, 1) := by decide +kernel
theorem xd_RD_isDigit_7 : decode xc_RD_isDigit 7 = .ok (.bipush 57, 2) := by decide +kernel
theorem xd_RD_isDigit_9 : decode xc_RD_isDigit 9 = .ok (.if_icmp .gt 7, 3) := by decide +kernel
theorem xd_RD_isDigit_12 : decode xc_RD_isDigit 12 = .ok (.iconst 1, 1) := by decide +kernel
theorem xd_RD_isDigit_13 : decode xc_RD_isDigit 13 = .ok (.goto 4, 3) := by decide +kernel
theorem xd_RD_isDigit_16 : decode xc_RD_isDigit 16 = .ok (.iconst 0, 1) := by decide +kernel
theorem xd_RD_isDigit_17 : decode xc_RD_isDigit 17 = .ok (.ireturn, 1) := by decide +kernel
theorem xd_RD_takeBraceEnd_0 : decode xc_RD_takeBraceEnd 0 = .ok (.iload_n 1, 1) := by decide +kernel
theorem xd_RD_takeBraceEnd_1 : decode xc_RD_takeBraceEnd 1 = .ok (.bipush 125, 2) := by decide +kernel
theorem xd_RD_takeBraceEnd_3 : decode xc_RD_takeBraceEnd 3 = .ok (.if_icmp .ne 10, 3) := by decide +kernel
theorem xd_RD_takeBraceEnd_6 : decode xc_RD_takeBraceEnd 6 = .ok (.aload_n 0, 1) := by decide +kernel
theorem xd_RD_takeBraceEnd_7 : decode xc_RD_takeBraceEnd 7 = .ok (.getfield 39, 3) := by decide +kernel
theorem xd_RD_takeBraceEnd_10 : decode xc_RD_takeBraceEnd 10 = .ok (.ifCond .ne 5, 3) := by decide +kernel
theorem xd_RD_takeBraceEnd_13 : decode xc_RD_takeBraceEnd 13 = .ok (.iconst 0, 1) := by decide +kernel
theorem xd_RD_takeBraceEnd_14 : decode xc_RD_takeBraceEnd 14 = .ok (.ireturn, 1) := by decide +kernel
theorem xd_RD_takeBraceEnd_15 : decode xc_RD_takeBraceEnd 15 = .ok (.aload_n 0, 1) := by decide +kernel
theorem xd_RD_takeBraceEnd_16 : decode xc_RD_takeBraceEnd 16 = .ok (.getfield 18, 3) := by decide +kernel
theorem xd_RD_takeBraceEnd_19 : decode xc_RD_takeBraceEnd 19 = .ok (.bipush 11, 2) := by decide +kernel
theorem xd_RD_takeBraceEnd_21 : decode xc_RD_takeBraceEnd 21 = .ok (.aload_n 0, 1) := by decide +kernel
theorem xd_RD_takeBraceEnd_22 : decode xc_RD_takeBraceEnd 22 = .ok (.getfield 36, 3) := by decide +kernel
theorem xd_RD_takeBraceEnd_25 : decode xc_RD_takeBraceEnd 25 = .ok (.bipush 10, 2) := by decide +kernel
theorem xd_RD_takeBraceEnd_27 : decode xc_RD_takeBraceEnd 27 = .ok (.imul, 1) := by decide +kernel
theorem xd_RD_takeBraceEnd_28 : decode xc_RD_takeBraceEnd 28 = .ok (.aload_n 0, 1) := by decide +kernel
theorem xd_RD_takeBraceEnd_29 : decode xc_RD_takeBraceEnd 29 = .ok (.getfield 39, 3) := by decide +kernel
theorem xd_RD_takeBraceEnd_32 : decode xc_RD_takeBraceEnd 32 = .ok (.iadd, 1) := by decide +kernel
theorem xd_RD_takeBraceEnd_33 : decode xc_RD_takeBraceEnd 33 = .ok (.invokevirtual 91, 3) := by decide +kernel
theorem xd_RD_takeBraceEnd_36 : decode xc_RD_takeBraceEnd 36 = .ok (.aload_n 0, 1) := by decide +kernel
theorem xd_RD_takeBraceEnd_37 : decode xc_RD_takeBraceEnd 37 = .ok (.aload_n 0, 1) := by decide +kernel
theorem xd_RD_takeBraceEnd_38 : decode xc_RD_takeBraceEnd 38 = .ok (.getfield 33, 3) := by decide +kernel
theorem xd_RD_takeBraceEnd_41 : decode xc_RD_takeBraceEnd 41 = .ok (.aload_n 0, 1) := by decide +kernel
theorem xd_RD_takeBraceEnd_42 : decode xc_RD_takeBraceEnd 42 = .ok (.getfield 39, 3) := by decide +kernel
theorem xd_RD_takeBraceEnd_45 : decode xc_RD_takeBraceEnd 45 = .ok (.imul, 1) := by decide +kernel
theorem xd_RD_takeBraceEnd_46 : decode xc_RD_takeBraceEnd 46 = .ok (.bipush 81, 2) := by decide +kernel
theorem xd_RD_takeBraceEnd_48 : decode xc_RD_takeBraceEnd 48 = .ok (.invokestatic 104, 3) := by decide +kernel
theorem xd_RD_takeBraceEnd_51 : decode xc_RD_takeBraceEnd 51 = .ok (.putfield 33, 3) := by decide +kernel
theorem xd_RD_takeBraceEnd_54 : decode xc_RD_takeBraceEnd 54 = .ok (.aload_n 0, 1) := by decide +kernel
theorem xd_RD_takeBraceEnd_55 : decode xc_RD_takeBraceEnd 55 = .ok (.iconst 0, 1) := by decide +kernel
theorem xd_RD_takeBraceEnd_56 : decode xc_RD_takeBraceEnd 56 = .ok (.invokevirtual 69, 3) := by decide +kernel
theorem xd_RD_takeBraceEnd_59 : decode xc_RD_takeBraceEnd 59 = .ok (.ireturn, 1) := by decide +kernel
theorem xd_RD_takeMost_0 : decode xc_RD_takeMost 0 = .ok (.iload_n 1, 1) := by decide +kernel
theorem xd_RD_takeMost_1 : decode xc_RD_takeMost 1 = .ok (.invokestatic 101, 3) := by decide +kernel
theorem xd_RD_takeMost_4 : decode xc_RD_takeMost 4 = .ok (.ifCond .ne 5, 3) := by decide +kernel
theorem xd_RD_takeMost_7 : decode xc_RD_takeMost 7 = .ok (.iconst 0, 1) := by decide +kernel
theorem xd_RD_takeMost_8 : decode xc_RD_takeMost 8 = .ok (.ireturn, 1) := by decide +kernel
theorem xd_RD_takeMost_9 : decode xc_RD_takeMost 9 = .ok (.aload_n 0, 1) := by decide +kernel
theorem xd_RD_takeMost_10 : decode xc_RD_takeMost 10 = .ok (.iload_n 1, 1) := by decide +kernel
theorem xd_RD_takeMost_11 : decode xc_RD_takeMost 11 = .ok (.bipush 48, 2) := by decide +kernel
theorem xd_RD_takeMost_13 : decode xc_RD_takeMost 13 = .ok (.isub, 1) := by decide +kernel
theorem xd_RD_takeMost_14 : decode xc_RD_takeMost 14 = .ok (.putfield 39, 3) := by decide +kernel
theorem xd_RD_takeMost_17 : decode xc_RD_takeMost 17 = .ok (.aload_n 0, 1) := by decide +kernel
theorem xd_RD_takeMost_18 : decode xc_RD_takeMost 18 = .ok (.getfield 39, 3) := by decide +kernel
theorem xd_RD_takeMost_21 : decode xc_RD_takeMost 21 = .ok (.aload_n 0, 1) := by decide +kernel
theorem xd_RD_takeMost_22 : decode xc_RD_takeMost 22 = .ok (.getfield 36, 3) := by decide +kernel
theorem xd_RD_takeMost_25 : decode xc_RD_takeMost 25 = .ok (.if_icmp .lt 23, 3) := by decide +kernel
theorem xd_RD_takeMost_28 : decode xc_RD_takeMost 28 = .ok (.aload_n 0, 1) := by decide +kernel
theorem xd_RD_takeMost_29 : decode xc_RD_takeMost 29 = .ok (.getfield 39, 3) := by decide +kernel
theorem xd_RD_takeMost_32 : decode xc_RD_takeMost 32 = .ok (.ifCond .le 16, 3) := by decide +kernel
theorem xd_RD_takeMost_35 : decode xc_RD_takeMost 35 = .ok (.aload_n 0, 1) := by decide +kernel
theorem xd_RD_takeMost_36 : decode xc_RD_takeMost 36 = .ok (.bipush 8, 2) := by decide +kernel
theorem xd_RD_takeMost_38 : decode xc_RD_takeMost 38 = .ok (.invokevirtual 69, 3) := by decide +kernel
theorem xd_RD_takeMost_41 : decode xc_RD_takeMost 41 = .ok (.ifCond .eq 7, 3) := by decide +kernel
theorem xd_RD_takeMost_44 : decode xc_RD_takeMost 44 = .ok (.iconst 1, 1) := by decide +kernel
theorem xd_RD_takeMost_45 : decode xc_RD_takeMost 45 = .ok (.goto 4, 3) := by decide +kernel
theorem xd_RD_takeMost_48 : decode xc_RD_takeMost 48 = .ok (.iconst 0, 1) := by decide +kernel
theorem xd_RD_takeMost_49 : decode xc_RD_takeMost 49 = .ok (.ireturn, 1) := by decide +kernel

theorem xd_BE_init_0 : decode xc_BE_init 0 = .ok (.aload_n 0, 1) := by decide +kernel
theorem xd_BE_init_1 : decode xc_BE_init 1 = .ok (.invokespecial 3, 3) := by decide +kernel
theorem xd_BE_init_4 : decode xc_BE_init 4 = .ok (.aload_n 0, 1) := by decide +kernel
theorem xd_BE_init_5 : decode xc_BE_init 5 = .ok (.bipush 24, 2) := by decide +kernel
theorem xd_BE_init_7 : decode xc_BE_init 7 = .ok (.anewarray 11, 3) := by decide +kernel
theorem xd_BE_init_10 : decode xc_BE_init 10 = .ok (.putfield 13, 3) := by decide +kernel
theorem xd_BE_init_13 : decode xc_BE_init 13 = .ok (.aload_n 0, 1) := by decide +kernel
theorem xd_BE_init_14 : decode xc_BE_init 14 = .ok (.iconst 0, 1) := by decide +kernel
theorem xd_BE_init_15 : decode xc_BE_init 15 = .ok (.putfield 17, 3) := by decide +kernel
theorem xd_BE_init_18 : decode xc_BE_init 18 = .ok (.aload_n 0, 1) := by decide +kernel
theorem xd_BE_init_19 : decode xc_BE_init 19 = .ok (.new 11, 3) := by decide +kernel
theorem xd_BE_init_22 : decode xc_BE_init 22 = .ok (.dup, 1) := by decide +kernel
theorem xd_BE_init_23 : decode xc_BE_init 23 = .ok (.invokespecial 21, 3) := by decide +kernel
theorem xd_BE_init_26 : decode xc_BE_init 26 = .ok (.putfield 22, 3) := by decide +kernel
theorem xd_BE_init_29 : decode xc_BE_init 29 = .ok (.return_, 1) := by decide +kernel
theorem xd_BE_clear_0 : decode xc_BE_clear 0 = .ok (.aload_n 0, 1) := by decide +kernel
theorem xd_BE_clear_1 : decode xc_BE_clear 1 = .ok (.iconst 0, 1) := by decide +kernel
theorem xd_BE_clear_2 : decode xc_BE_clear 2 = .ok (.putfield 17, 3) := by decide +kernel
theorem xd_BE_clear_5 : decode xc_BE_clear 5 = .ok (.return_, 1) := by decide +kernel
theorem xd_BE_carryOut_0 : decode xc_BE_carryOut 0 = .ok (.iload_n 1, 1) := by decide +kernel
theorem xd_BE_carryOut_1 : decode xc_BE_carryOut 1 = .ok (.iconst 4, 1) := by decide +kernel
theorem xd_BE_carryOut_2 : decode xc_BE_carryOut 2 = .ok (.iushr, 1) := by decide +kernel
theorem xd_BE_carryOut_3 : decode xc_BE_carryOut 3 = .ok (.istore_n 3, 1) := by decide +kernel
theorem xd_BE_carryOut_4 : decode xc_BE_carryOut 4 = .ok (.iload_n 1, 1) := by decide +kernel
theorem xd_BE_carryOut_5 : decode xc_BE_carryOut 5 = .ok (.bipush 15, 2) := by decide +kernel
theorem xd_BE_carryOut_7 : decode xc_BE_carryOut 7 = .ok (.iand, 1) := by decide +kernel
theorem xd_BE_carryOut_8 : decode xc_BE_carryOut 8 = .ok (.tableswitch 190 0 10 #[60, 68, 79, 92, 105, 120, 137, 144, 151, 169, 179], 60) := by decide +kernel
theorem xd_BE_carryOut_68 : decode xc_BE_carryOut 68 = .ok (.aload_n 0, 1) := by decide +kernel
theorem xd_BE_carryOut_69 : decode xc_BE_carryOut 69 = .ok (.invokevirtual 32, 3) := by decide +kernel
theorem xd_BE_carryOut_72 : decode xc_BE_carryOut 72 = .ok (.pop, 1) := by decide +kernel
theorem xd_BE_carryOut_73 : decode xc_BE_carryOut 73 = .ok (.goto 137, 3) := by decide +kernel
theorem xd_BE_carryOut_76 : decode xc_BE_carryOut 76 = .ok (.aload_n 0, 1) := by decide +kernel
theorem xd_BE_carryOut_77 : decode xc_BE_carryOut 77 = .ok (.invokevirtual 32, 3) := by decide +kernel
theorem xd_BE_carryOut_80 : decode xc_BE_carryOut 80 = .ok (.iconst (-1), 1) := by decide +kernel
theorem xd_BE_carryOut_81 : decode xc_BE_carryOut 81 = .ok (.invokevirtual 36, 3) := by decide +kernel
theorem xd_BE_carryOut_84 : decode xc_BE_carryOut 84 = .ok (.goto 126, 3) := by decide +kernel
theorem xd_BE_carryOut_87 : decode xc_BE_carryOut 87 = .ok (.aload_n 0, 1) := by decide +kernel
theorem xd_BE_carryOut_88 : decode xc_BE_carryOut 88 = .ok (.invokevirtual 32, 3) := by decide +kernel
theorem xd_BE_carryOut_91 : decode xc_BE_carryOut 91 = .ok (.aload_n 2, 1) := by decide +kernel
theorem xd_BE_carryOut_92 : decode xc_BE_carryOut 92 = .ok (.iload_n 3, 1) := by decide +kernel
theorem xd_BE_carryOut_93 : decode xc_BE_carryOut 93 = .ok (.iconst 0, 1) := by decide +kernel
theorem xd_BE_carryOut_94 : decode xc_BE_carryOut 94 = .ok (.invokevirtual 40, 3) := by decide +kernel
theorem xd_BE_carryOut_97 : decode xc_BE_carryOut 97 = .ok (.goto 113, 3) := by decide +kernel
theorem xd_BE_carryOut_100 : decode xc_BE_carryOut 100 = .ok (.aload_n 0, 1) := by decide +kernel
theorem xd_BE_carryOut_101 : decode xc_BE_carryOut 101 = .ok (.invokevirtual 32, 3) := by decide +kernel
theorem xd_BE_carryOut_104 : decode xc_BE_carryOut 104 = .ok (.aload_n 2, 1) := by decide +kernel
theorem xd_BE_carryOut_105 : decode xc_BE_carryOut 105 = .ok (.iload_n 3, 1) := by decide +kernel
theorem xd_BE_carryOut_106 : decode xc_BE_carryOut 106 = .ok (.iconst 1, 1) := by decide +kernel
theorem xd_BE_carryOut_107 : decode xc_BE_carryOut 107 = .ok (.invokevirtual 40, 3) := by decide +kernel
theorem xd_BE_carryOut_110 : decode xc_BE_carryOut 110 = .ok (.goto 100, 3) := by decide +kernel
theorem xd_BE_carryOut_113 : decode xc_BE_carryOut 113 = .ok (.aload_n 0, 1) := by decide +kernel
theorem xd_BE_carryOut_114 : decode xc_BE_carryOut 114 = .ok (.invokevirtual 32, 3) := by decide +kernel
theorem xd_BE_carryOut_117 : decode xc_BE_carryOut 117 = .ok (.aload_n 2, 1) := by decide +kernel
theorem xd_BE_carryOut_118 : decode xc_BE_carryOut 118 = .ok (.iload_n 3, 1) := by decide +kernel
theorem xd_BE_carryOut_119 : decode xc_BE_carryOut 119 = .ok (.invokevirtual 44, 3) := by decide +kernel
theorem xd_BE_carryOut_122 : decode xc_BE_carryOut 122 = .ok (.invokevirtual 36, 3) := by decide +kernel
theorem xd_BE_carryOut_125 : decode xc_BE_carryOut 125 = .ok (.goto 85, 3) := by decide +kernel
theorem xd_BE_carryOut_128 : decode xc_BE_carryOut 128 = .ok (.aload_n 0, 1) := by decide +kernel
theorem xd_BE_carryOut_129 : decode xc_BE_carryOut 129 = .ok (.invokevirtual 32, 3) := by decide +kernel
theorem xd_BE_carryOut_132 : decode xc_BE_carryOut 132 = .ok (.aload_n 2, 1) := by decide +kernel
theorem xd_BE_carryOut_133 : decode xc_BE_carryOut 133 = .ok (.iload_n 3, 1) := by decide +kernel
theorem xd_BE_carryOut_134 : decode xc_BE_carryOut 134 = .ok (.invokevirtual 44, 3) := by decide +kernel
theorem xd_BE_carryOut_137 : decode xc_BE_carryOut 137 = .ok (.iconst (-1), 1) := by decide +kernel
theorem xd_BE_carryOut_138 : decode xc_BE_carryOut 138 = .ok (.ixor, 1) := by decide +kernel
theorem xd_BE_carryOut_139 : decode xc_BE_carryOut 139 = .ok (.invokevirtual 36, 3) := by decide +kernel
theorem xd_BE_carryOut_142 : decode xc_BE_carryOut 142 = .ok (.goto 68, 3) := by decide +kernel
theorem xd_BE_carryOut_145 : decode xc_BE_carryOut 145 = .ok (.aload_n 0, 1) := by decide +kernel
theorem xd_BE_carryOut_146 : decode xc_BE_carryOut 146 = .ok (.invokevirtual 50, 3) := by decide +kernel
theorem xd_BE_carryOut_149 : decode xc_BE_carryOut 149 = .ok (.goto 61, 3) := by decide +kernel
theorem xd_BE_carryOut_152 : decode xc_BE_carryOut 152 = .ok (.aload_n 0, 1) := by decide +kernel
theorem xd_BE_carryOut_153 : decode xc_BE_carryOut 153 = .ok (.invokevirtual 53, 3) := by decide +kernel
theorem xd_BE_carryOut_156 : decode xc_BE_carryOut 156 = .ok (.goto 54, 3) := by decide +kernel
theorem xd_BE_carryOut_159 : decode xc_BE_carryOut 159 = .ok (.aload_n 0, 1) := by decide +kernel
theorem xd_BE_carryOut_160 : decode xc_BE_carryOut 160 = .ok (.invokevirtual 56, 3) := by decide +kernel
theorem xd_BE_carryOut_163 : decode xc_BE_carryOut 163 = .ok (.invokevirtual 59, 3) := by decide +kernel
theorem xd_BE_carryOut_166 : decode xc_BE_carryOut 166 = .ok (.aload_n 0, 1) := by decide +kernel
theorem xd_BE_carryOut_167 : decode xc_BE_carryOut 167 = .ok (.invokevirtual 56, 3) := by decide +kernel
theorem xd_BE_carryOut_170 : decode xc_BE_carryOut 170 = .ok (.iconst (-1), 1) := by decide +kernel
theorem xd_BE_carryOut_171 : decode xc_BE_carryOut 171 = .ok (.invokevirtual 36, 3) := by decide +kernel
theorem xd_BE_carryOut_174 : decode xc_BE_carryOut 174 = .ok (.goto 36, 3) := by decide +kernel
theorem xd_BE_carryOut_177 : decode xc_BE_carryOut 177 = .ok (.aload_n 0, 1) := by decide +kernel
theorem xd_BE_carryOut_178 : decode xc_BE_carryOut 178 = .ok (.invokevirtual 56, 3) := by decide +kernel
theorem xd_BE_carryOut_181 : decode xc_BE_carryOut 181 = .ok (.invokevirtual 59, 3) := by decide +kernel
theorem xd_BE_carryOut_184 : decode xc_BE_carryOut 184 = .ok (.goto 26, 3) := by decide +kernel
theorem xd_BE_carryOut_187 : decode xc_BE_carryOut 187 = .ok (.aload_n 0, 1) := by decide +kernel
theorem xd_BE_carryOut_188 : decode xc_BE_carryOut 188 = .ok (.invokevirtual 56, 3) := by decide +kernel
theorem xd_BE_carryOut_191 : decode xc_BE_carryOut 191 = .ok (.iconst (-1), 1) := by decide +kernel
theorem xd_BE_carryOut_192 : decode xc_BE_carryOut 192 = .ok (.invokevirtual 36, 3) := by decide +kernel
theorem xd_BE_carryOut_195 : decode xc_BE_carryOut 195 = .ok (.goto 15, 3) := by decide +kernel
theorem xd_BE_carryOut_198 : decode xc_BE_carryOut 198 = .ok (.aload_n 0, 1) := by decide +kernel
theorem xd_BE_carryOut_199 : decode xc_BE_carryOut 199 = .ok (.iload_n 3, 1) := by decide +kernel
theorem xd_BE_carryOut_200 : decode xc_BE_carryOut 200 = .ok (.bipush 10, 2) := by decide +kernel
theorem xd_BE_carryOut_202 : decode xc_BE_carryOut 202 = .ok (.idiv, 1) := by decide +kernel
theorem xd_BE_carryOut_203 : decode xc_BE_carryOut 203 = .ok (.iload_n 3, 1) := by decide +kernel
theorem xd_BE_carryOut_204 : decode xc_BE_carryOut 204 = .ok (.bipush 10, 2) := by decide +kernel
theorem xd_BE_carryOut_206 : decode xc_BE_carryOut 206 = .ok (.irem, 1) := by decide +kernel
theorem xd_BE_carryOut_207 : decode xc_BE_carryOut 207 = .ok (.invokevirtual 62, 3) := by decide +kernel
theorem xd_BE_carryOut_210 : decode xc_BE_carryOut 210 = .ok (.return_, 1) := by decide +kernel
theorem xd_BE_layDown_0 : decode xc_BE_layDown 0 = .ok (.aload_n 0, 1) := by decide +kernel
theorem xd_BE_layDown_1 : decode xc_BE_layDown 1 = .ok (.aload_n 0, 1) := by decide +kernel
theorem xd_BE_layDown_2 : decode xc_BE_layDown 2 = .ok (.getfield 17, 3) := by decide +kernel
theorem xd_BE_layDown_5 : decode xc_BE_layDown 5 = .ok (.iconst 1, 1) := by decide +kernel
theorem xd_BE_layDown_6 : decode xc_BE_layDown 6 = .ok (.iadd, 1) := by decide +kernel
theorem xd_BE_layDown_7 : decode xc_BE_layDown 7 = .ok (.bipush 24, 2) := by decide +kernel
theorem xd_BE_layDown_9 : decode xc_BE_layDown 9 = .ok (.invokestatic 66, 3) := by decide +kernel
theorem xd_BE_layDown_12 : decode xc_BE_layDown 12 = .ok (.putfield 17, 3) := by decide +kernel
theorem xd_BE_layDown_15 : decode xc_BE_layDown 15 = .ok (.aload_n 0, 1) := by decide +kernel
theorem xd_BE_layDown_16 : decode xc_BE_layDown 16 = .ok (.aload_n 0, 1) := by decide +kernel
theorem xd_BE_layDown_17 : decode xc_BE_layDown 17 = .ok (.getfield 17, 3) := by decide +kernel
theorem xd_BE_layDown_20 : decode xc_BE_layDown 20 = .ok (.iconst 1, 1) := by decide +kernel
theorem xd_BE_layDown_21 : decode xc_BE_layDown 21 = .ok (.isub, 1) := by decide +kernel
theorem xd_BE_layDown_22 : decode xc_BE_layDown 22 = .ok (.invokevirtual 26, 3) := by decide +kernel
theorem xd_BE_layDown_25 : decode xc_BE_layDown 25 = .ok (.astore_n 1, 1) := by decide +kernel
theorem xd_BE_layDown_26 : decode xc_BE_layDown 26 = .ok (.aload_n 1, 1) := by decide +kernel
theorem xd_BE_layDown_27 : decode xc_BE_layDown 27 = .ok (.invokevirtual 75, 3) := by decide +kernel
theorem xd_BE_layDown_30 : decode xc_BE_layDown 30 = .ok (.aload_n 1, 1) := by decide +kernel
theorem xd_BE_layDown_31 : decode xc_BE_layDown 31 = .ok (.areturn, 1) := by decide +kernel
theorem xd_BE_at_0 : decode xc_BE_at 0 = .ok (.iconst 0, 1) := by decide +kernel
theorem xd_BE_at_1 : decode xc_BE_at 1 = .ok (.iload_n 1, 1) := by decide +kernel
theorem xd_BE_at_2 : decode xc_BE_at 2 = .ok (.bipush 23, 2) := by decide +kernel
theorem xd_BE_at_4 : decode xc_BE_at 4 = .ok (.invokestatic 66, 3) := by decide +kernel
theorem xd_BE_at_7 : decode xc_BE_at 7 = .ok (.invokestatic 72, 3) := by decide +kernel
theorem xd_BE_at_10 : decode xc_BE_at 10 = .ok (.istore_n 2, 1) := by decide +kernel
theorem xd_BE_at_11 : decode xc_BE_at 11 = .ok (.aload_n 0, 1) := by decide +kernel
theorem xd_BE_at_12 : decode xc_BE_at 12 = .ok (.getfield 13, 3) := by decide +kernel
theorem xd_BE_at_15 : decode xc_BE_at 15 = .ok (.iload_n 2, 1) := by decide +kernel
theorem xd_BE_at_16 : decode xc_BE_at 16 = .ok (.aaload, 1) := by decide +kernel
theorem xd_BE_at_17 : decode xc_BE_at 17 = .ok (.ifnonnull 16, 3) := by decide +kernel
theorem xd_BE_at_20 : decode xc_BE_at 20 = .ok (.aload_n 0, 1) := by decide +kernel
theorem xd_BE_at_21 : decode xc_BE_at 21 = .ok (.getfield 13, 3) := by decide +kernel
theorem xd_BE_at_24 : decode xc_BE_at 24 = .ok (.iload_n 2, 1) := by decide +kernel
theorem xd_BE_at_25 : decode xc_BE_at 25 = .ok (.new 11, 3) := by decide +kernel
theorem xd_BE_at_28 : decode xc_BE_at 28 = .ok (.dup, 1) := by decide +kernel
theorem xd_BE_at_29 : decode xc_BE_at 29 = .ok (.invokespecial 21, 3) := by decide +kernel
theorem xd_BE_at_32 : decode xc_BE_at 32 = .ok (.aastore, 1) := by decide +kernel
theorem xd_BE_at_33 : decode xc_BE_at 33 = .ok (.aload_n 0, 1) := by decide +kernel
theorem xd_BE_at_34 : decode xc_BE_at 34 = .ok (.getfield 13, 3) := by decide +kernel
theorem xd_BE_at_37 : decode xc_BE_at 37 = .ok (.iload_n 2, 1) := by decide +kernel
theorem xd_BE_at_38 : decode xc_BE_at 38 = .ok (.aaload, 1) := by decide +kernel
theorem xd_BE_at_39 : decode xc_BE_at 39 = .ok (.areturn, 1) := by decide +kernel
theorem xd_BE_chainTwo_0 : decode xc_BE_chainTwo 0 = .ok (.aload_n 0, 1) := by decide +kernel
theorem xd_BE_chainTwo_1 : decode xc_BE_chainTwo 1 = .ok (.getfield 17, 3) := by decide +kernel
theorem xd_BE_chainTwo_4 : decode xc_BE_chainTwo 4 = .ok (.iconst 2, 1) := by decide +kernel
theorem xd_BE_chainTwo_5 : decode xc_BE_chainTwo 5 = .ok (.if_icmp .lt 54, 3) := by decide +kernel
theorem xd_BE_chainTwo_8 : decode xc_BE_chainTwo 8 = .ok (.aload_n 0, 1) := by decide +kernel
theorem xd_BE_chainTwo_9 : decode xc_BE_chainTwo 9 = .ok (.dup, 1) := by decide +kernel
theorem xd_BE_chainTwo_10 : decode xc_BE_chainTwo 10 = .ok (.getfield 17, 3) := by decide +kernel
theorem xd_BE_chainTwo_13 : decode xc_BE_chainTwo 13 = .ok (.iconst 1, 1) := by decide +kernel
theorem xd_BE_chainTwo_14 : decode xc_BE_chainTwo 14 = .ok (.isub, 1) := by decide +kernel
theorem xd_BE_chainTwo_15 : decode xc_BE_chainTwo 15 = .ok (.putfield 17, 3) := by decide +kernel
theorem xd_BE_chainTwo_18 : decode xc_BE_chainTwo 18 = .ok (.aload_n 0, 1) := by decide +kernel
theorem xd_BE_chainTwo_19 : decode xc_BE_chainTwo 19 = .ok (.invokevirtual 56, 3) := by decide +kernel
theorem xd_BE_chainTwo_22 : decode xc_BE_chainTwo 22 = .ok (.astore_n 1, 1) := by decide +kernel
theorem xd_BE_chainTwo_23 : decode xc_BE_chainTwo 23 = .ok (.aload_n 0, 1) := by decide +kernel
theorem xd_BE_chainTwo_24 : decode xc_BE_chainTwo 24 = .ok (.getfield 22, 3) := by decide +kernel
theorem xd_BE_chainTwo_27 : decode xc_BE_chainTwo 27 = .ok (.aload_n 1, 1) := by decide +kernel
theorem xd_BE_chainTwo_28 : decode xc_BE_chainTwo 28 = .ok (.aload_n 0, 1) := by decide +kernel
theorem xd_BE_chainTwo_29 : decode xc_BE_chainTwo 29 = .ok (.aload_n 0, 1) := by decide +kernel
theorem xd_BE_chainTwo_30 : decode xc_BE_chainTwo 30 = .ok (.getfield 17, 3) := by decide +kernel
theorem xd_BE_chainTwo_33 : decode xc_BE_chainTwo 33 = .ok (.invokevirtual 26, 3) := by decide +kernel
theorem xd_BE_chainTwo_36 : decode xc_BE_chainTwo 36 = .ok (.invokevirtual 82, 3) := by decide +kernel
theorem xd_BE_chainTwo_39 : decode xc_BE_chainTwo 39 = .ok (.aload_n 0, 1) := by decide +kernel
theorem xd_BE_chainTwo_40 : decode xc_BE_chainTwo 40 = .ok (.getfield 13, 3) := by decide +kernel
theorem xd_BE_chainTwo_43 : decode xc_BE_chainTwo 43 = .ok (.aload_n 0, 1) := by decide +kernel
theorem xd_BE_chainTwo_44 : decode xc_BE_chainTwo 44 = .ok (.getfield 17, 3) := by decide +kernel
theorem xd_BE_chainTwo_47 : decode xc_BE_chainTwo 47 = .ok (.iconst 1, 1) := by decide +kernel
theorem xd_BE_chainTwo_48 : decode xc_BE_chainTwo 48 = .ok (.isub, 1) := by decide +kernel
theorem xd_BE_chainTwo_49 : decode xc_BE_chainTwo 49 = .ok (.aload_n 0, 1) := by decide +kernel
theorem xd_BE_chainTwo_50 : decode xc_BE_chainTwo 50 = .ok (.getfield 22, 3) := by decide +kernel
theorem xd_BE_chainTwo_53 : decode xc_BE_chainTwo 53 = .ok (.aastore, 1) := by decide +kernel
theorem xd_BE_chainTwo_54 : decode xc_BE_chainTwo 54 = .ok (.aload_n 0, 1) := by decide +kernel
theorem xd_BE_chainTwo_55 : decode xc_BE_chainTwo 55 = .ok (.aload_n 1, 1) := by decide +kernel
theorem xd_BE_chainTwo_56 : decode xc_BE_chainTwo 56 = .ok (.putfield 22, 3) := by decide +kernel
theorem xd_BE_chainTwo_59 : decode xc_BE_chainTwo 59 = .ok (.return_, 1) := by decide +kernel
theorem xd_BE_top_0 : decode xc_BE_top 0 = .ok (.aload_n 0, 1) := by decide +kernel
theorem xd_BE_top_1 : decode xc_BE_top 1 = .ok (.aload_n 0, 1) := by decide +kernel
theorem xd_BE_top_2 : decode xc_BE_top 2 = .ok (.getfield 17, 3) := by decide +kernel
theorem xd_BE_top_5 : decode xc_BE_top 5 = .ok (.iconst 1, 1) := by decide +kernel
theorem xd_BE_top_6 : decode xc_BE_top 6 = .ok (.isub, 1) := by decide +kernel
theorem xd_BE_top_7 : decode xc_BE_top 7 = .ok (.invokevirtual 26, 3) := by decide +kernel
theorem xd_BE_top_10 : decode xc_BE_top 10 = .ok (.areturn, 1) := by decide +kernel
theorem xd_BE_joinTwo_0 : decode xc_BE_joinTwo 0 = .ok (.aload_n 0, 1) := by decide +kernel
theorem xd_BE_joinTwo_1 : decode xc_BE_joinTwo 1 = .ok (.getfield 17, 3) := by decide +kernel
theorem xd_BE_joinTwo_4 : decode xc_BE_joinTwo 4 = .ok (.iconst 2, 1) := by decide +kernel
theorem xd_BE_joinTwo_5 : decode xc_BE_joinTwo 5 = .ok (.if_icmp .lt 28, 3) := by decide +kernel
theorem xd_BE_joinTwo_8 : decode xc_BE_joinTwo 8 = .ok (.aload_n 0, 1) := by decide +kernel
theorem xd_BE_joinTwo_9 : decode xc_BE_joinTwo 9 = .ok (.dup, 1) := by decide +kernel
theorem xd_BE_joinTwo_10 : decode xc_BE_joinTwo 10 = .ok (.getfield 17, 3) := by decide +kernel
theorem xd_BE_joinTwo_13 : decode xc_BE_joinTwo 13 = .ok (.iconst 1, 1) := by decide +kernel
theorem xd_BE_joinTwo_14 : decode xc_BE_joinTwo 14 = .ok (.isub, 1) := by decide +kernel
theorem xd_BE_joinTwo_15 : decode xc_BE_joinTwo 15 = .ok (.putfield 17, 3) := by decide +kernel
theorem xd_BE_joinTwo_18 : decode xc_BE_joinTwo 18 = .ok (.aload_n 0, 1) := by decide +kernel
theorem xd_BE_joinTwo_19 : decode xc_BE_joinTwo 19 = .ok (.invokevirtual 56, 3) := by decide +kernel
theorem xd_BE_joinTwo_22 : decode xc_BE_joinTwo 22 = .ok (.aload_n 0, 1) := by decide +kernel
theorem xd_BE_joinTwo_23 : decode xc_BE_joinTwo 23 = .ok (.aload_n 0, 1) := by decide +kernel
theorem xd_BE_joinTwo_24 : decode xc_BE_joinTwo 24 = .ok (.getfield 17, 3) := by decide +kernel
theorem xd_BE_joinTwo_27 : decode xc_BE_joinTwo 27 = .ok (.invokevirtual 26, 3) := by decide +kernel
theorem xd_BE_joinTwo_30 : decode xc_BE_joinTwo 30 = .ok (.invokevirtual 78, 3) := by decide +kernel
theorem xd_BE_joinTwo_33 : decode xc_BE_joinTwo 33 = .ok (.return_, 1) := by decide +kernel
theorem xd_BE_copyTop_0 : decode xc_BE_copyTop 0 = .ok (.aload_n 0, 1) := by decide +kernel
theorem xd_BE_copyTop_1 : decode xc_BE_copyTop 1 = .ok (.invokevirtual 56, 3) := by decide +kernel
theorem xd_BE_copyTop_4 : decode xc_BE_copyTop 4 = .ok (.astore_n 3, 1) := by decide +kernel
theorem xd_BE_copyTop_5 : decode xc_BE_copyTop 5 = .ok (.aload_n 0, 1) := by decide +kernel
theorem xd_BE_copyTop_6 : decode xc_BE_copyTop 6 = .ok (.invokevirtual 32, 3) := by decide +kernel
theorem xd_BE_copyTop_9 : decode xc_BE_copyTop 9 = .ok (.astore 4, 2) := by decide +kernel
theorem xd_BE_copyTop_11 : decode xc_BE_copyTop 11 = .ok (.aload 4, 2) := by decide +kernel
theorem xd_BE_copyTop_13 : decode xc_BE_copyTop 13 = .ok (.iconst (-1), 1) := by decide +kernel
theorem xd_BE_copyTop_14 : decode xc_BE_copyTop 14 = .ok (.invokevirtual 36, 3) := by decide +kernel
theorem xd_BE_copyTop_17 : decode xc_BE_copyTop 17 = .ok (.iconst 0, 1) := by decide +kernel
theorem xd_BE_copyTop_18 : decode xc_BE_copyTop 18 = .ok (.istore 5, 2) := by decide +kernel
theorem xd_BE_copyTop_20 : decode xc_BE_copyTop 20 = .ok (.iload 5, 2) := by decide +kernel
theorem xd_BE_copyTop_22 : decode xc_BE_copyTop 22 = .ok (.iload_n 2, 1) := by decide +kernel
theorem xd_BE_copyTop_23 : decode xc_BE_copyTop 23 = .ok (.if_icmp .ge 46, 3) := by decide +kernel
theorem xd_BE_copyTop_26 : decode xc_BE_copyTop 26 = .ok (.aload_n 0, 1) := by decide +kernel
theorem xd_BE_copyTop_27 : decode xc_BE_copyTop 27 = .ok (.getfield 22, 3) := by decide +kernel
theorem xd_BE_copyTop_30 : decode xc_BE_copyTop 30 = .ok (.astore 6, 2) := by decide +kernel
theorem xd_BE_copyTop_32 : decode xc_BE_copyTop 32 = .ok (.aload 6, 2) := by decide +kernel
theorem xd_BE_copyTop_34 : decode xc_BE_copyTop 34 = .ok (.aload_n 3, 1) := by decide +kernel
theorem xd_BE_copyTop_35 : decode xc_BE_copyTop 35 = .ok (.aload 4, 2) := by decide +kernel
theorem xd_BE_copyTop_37 : decode xc_BE_copyTop 37 = .ok (.invokevirtual 82, 3) := by decide +kernel
theorem xd_BE_copyTop_40 : decode xc_BE_copyTop 40 = .ok (.iload 5, 2) := by decide +kernel
theorem xd_BE_copyTop_42 : decode xc_BE_copyTop 42 = .ok (.iload_n 1, 1) := by decide +kernel
theorem xd_BE_copyTop_43 : decode xc_BE_copyTop 43 = .ok (.if_icmp .lt 10, 3) := by decide +kernel
theorem xd_BE_copyTop_46 : decode xc_BE_copyTop 46 = .ok (.aload 6, 2) := by decide +kernel
theorem xd_BE_copyTop_48 : decode xc_BE_copyTop 48 = .ok (.aload 4, 2) := by decide +kernel
theorem xd_BE_copyTop_50 : decode xc_BE_copyTop 50 = .ok (.invokevirtual 78, 3) := by decide +kernel
theorem xd_BE_copyTop_53 : decode xc_BE_copyTop 53 = .ok (.aload_n 0, 1) := by decide +kernel
theorem xd_BE_copyTop_54 : decode xc_BE_copyTop 54 = .ok (.aload 4, 2) := by decide +kernel
theorem xd_BE_copyTop_56 : decode xc_BE_copyTop 56 = .ok (.putfield 22, 3) := by decide +kernel
theorem xd_BE_copyTop_59 : decode xc_BE_copyTop 59 = .ok (.aload 6, 2) := by decide +kernel
theorem xd_BE_copyTop_61 : decode xc_BE_copyTop 61 = .ok (.astore 4, 2) := by decide +kernel
theorem xd_BE_copyTop_63 : decode xc_BE_copyTop 63 = .ok (.iinc 5 1, 3) := by decide +kernel
theorem xd_BE_copyTop_66 : decode xc_BE_copyTop 66 = .ok (.goto (-46), 3) := by decide +kernel
theorem xd_BE_copyTop_69 : decode xc_BE_copyTop 69 = .ok (.aload_n 0, 1) := by decide +kernel
theorem xd_BE_copyTop_70 : decode xc_BE_copyTop 70 = .ok (.getfield 17, 3) := by decide +kernel
theorem xd_BE_copyTop_73 : decode xc_BE_copyTop 73 = .ok (.iconst 2, 1) := by decide +kernel
theorem xd_BE_copyTop_74 : decode xc_BE_copyTop 74 = .ok (.if_icmp .lt 36, 3) := by decide +kernel
theorem xd_BE_copyTop_77 : decode xc_BE_copyTop 77 = .ok (.aload_n 0, 1) := by decide +kernel
theorem xd_BE_copyTop_78 : decode xc_BE_copyTop 78 = .ok (.dup, 1) := by decide +kernel
theorem xd_BE_copyTop_79 : decode xc_BE_copyTop 79 = .ok (.getfield 17, 3) := by decide +kernel
theorem xd_BE_copyTop_82 : decode xc_BE_copyTop 82 = .ok (.iconst 1, 1) := by decide +kernel
theorem xd_BE_copyTop_83 : decode xc_BE_copyTop 83 = .ok (.isub, 1) := by decide +kernel
theorem xd_BE_copyTop_84 : decode xc_BE_copyTop 84 = .ok (.putfield 17, 3) := by decide +kernel
theorem xd_BE_copyTop_87 : decode xc_BE_copyTop 87 = .ok (.aload_n 0, 1) := by decide +kernel
theorem xd_BE_copyTop_88 : decode xc_BE_copyTop 88 = .ok (.getfield 13, 3) := by decide +kernel
theorem xd_BE_copyTop_91 : decode xc_BE_copyTop 91 = .ok (.aload_n 0, 1) := by decide +kernel
theorem xd_BE_copyTop_92 : decode xc_BE_copyTop 92 = .ok (.getfield 17, 3) := by decide +kernel
theorem xd_BE_copyTop_95 : decode xc_BE_copyTop 95 = .ok (.iconst 1, 1) := by decide +kernel
theorem xd_BE_copyTop_96 : decode xc_BE_copyTop 96 = .ok (.isub, 1) := by decide +kernel
theorem xd_BE_copyTop_97 : decode xc_BE_copyTop 97 = .ok (.aload 4, 2) := by decide +kernel
theorem xd_BE_copyTop_99 : decode xc_BE_copyTop 99 = .ok (.aastore, 1) := by decide +kernel
theorem xd_BE_copyTop_100 : decode xc_BE_copyTop 100 = .ok (.aload_n 0, 1) := by decide +kernel
theorem xd_BE_copyTop_101 : decode xc_BE_copyTop 101 = .ok (.getfield 13, 3) := by decide +kernel
theorem xd_BE_copyTop_104 : decode xc_BE_copyTop 104 = .ok (.aload_n 0, 1) := by decide +kernel
theorem xd_BE_copyTop_105 : decode xc_BE_copyTop 105 = .ok (.getfield 17, 3) := by decide +kernel
theorem xd_BE_copyTop_108 : decode xc_BE_copyTop 108 = .ok (.aload_n 3, 1) := by decide +kernel
theorem xd_BE_copyTop_109 : decode xc_BE_copyTop 109 = .ok (.aastore, 1) := by decide +kernel
theorem xd_BE_copyTop_110 : decode xc_BE_copyTop 110 = .ok (.return_, 1) := by decide +kernel

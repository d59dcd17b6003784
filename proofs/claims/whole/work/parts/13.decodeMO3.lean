theorem xd_MO_behind_0 : decode xc_MO_behind 0 = .ok (.aload_n 0, 1) := by decide +kernel
theorem xd_MO_behind_1 : decode xc_MO_behind 1 = .ok (.getfield 92, 3) := by decide +kernel
theorem xd_MO_behind_4 : decode xc_MO_behind 4 = .ok (.ifCond .ne 4, 3) := by decide +kernel
theorem xd_MO_behind_7 : decode xc_MO_behind 7 = .ok (.return_, 1) := by decide +kernel
theorem xd_MO_behind_8 : decode xc_MO_behind 8 = .ok (.aload_n 0, 1) := by decide +kernel
theorem xd_MO_behind_9 : decode xc_MO_behind 9 = .ok (.bipush 39, 2) := by decide +kernel
theorem xd_MO_behind_11 : decode xc_MO_behind 11 = .ok (.iconst 0, 1) := by decide +kernel
theorem xd_MO_behind_12 : decode xc_MO_behind 12 = .ok (.invokevirtual 97, 3) := by decide +kernel
theorem xd_MO_behind_15 : decode xc_MO_behind 15 = .ok (.iconst 0, 1) := by decide +kernel
theorem xd_MO_behind_16 : decode xc_MO_behind 16 = .ok (.istore_n 3, 1) := by decide +kernel
theorem xd_MO_behind_17 : decode xc_MO_behind 17 = .ok (.iload_n 3, 1) := by decide +kernel
theorem xd_MO_behind_18 : decode xc_MO_behind 18 = .ok (.sipush 1024, 3) := by decide +kernel
theorem xd_MO_behind_21 : decode xc_MO_behind 21 = .ok (.if_icmp .ge 56, 3) := by decide +kernel
theorem xd_MO_behind_24 : decode xc_MO_behind 24 = .ok (.aload_n 0, 1) := by decide +kernel
theorem xd_MO_behind_25 : decode xc_MO_behind 25 = .ok (.getfield 33, 3) := by decide +kernel
theorem xd_MO_behind_28 : decode xc_MO_behind 28 = .ok (.sipush 1024, 3) := by decide +kernel
theorem xd_MO_behind_31 : decode xc_MO_behind 31 = .ok (.iload_n 1, 1) := by decide +kernel
theorem xd_MO_behind_32 : decode xc_MO_behind 32 = .ok (.imul, 1) := by decide +kernel
theorem xd_MO_behind_33 : decode xc_MO_behind 33 = .ok (.iload_n 3, 1) := by decide +kernel
theorem xd_MO_behind_34 : decode xc_MO_behind 34 = .ok (.iadd, 1) := by decide +kernel
theorem xd_MO_behind_35 : decode xc_MO_behind 35 = .ok (.iaload, 1) := by decide +kernel
theorem xd_MO_behind_36 : decode xc_MO_behind 36 = .ok (.istore 4, 2) := by decide +kernel
theorem xd_MO_behind_38 : decode xc_MO_behind 38 = .ok (.iload 4, 2) := by decide +kernel
theorem xd_MO_behind_40 : decode xc_MO_behind 40 = .ok (.ldc 96, 2) := by decide +kernel
theorem xd_MO_behind_42 : decode xc_MO_behind 42 = .ok (.if_icmp .ge 29, 3) := by decide +kernel
theorem xd_MO_behind_45 : decode xc_MO_behind 45 = .ok (.aload_n 0, 1) := by decide +kernel
theorem xd_MO_behind_46 : decode xc_MO_behind 46 = .ok (.iload 4, 2) := by decide +kernel
theorem xd_MO_behind_48 : decode xc_MO_behind 48 = .ok (.bipush 32, 2) := by decide +kernel
theorem xd_MO_behind_50 : decode xc_MO_behind 50 = .ok (.iload_n 3, 1) := by decide +kernel
theorem xd_MO_behind_51 : decode xc_MO_behind 51 = .ok (.bipush 32, 2) := by decide +kernel
theorem xd_MO_behind_53 : decode xc_MO_behind 53 = .ok (.idiv, 1) := by decide +kernel
theorem xd_MO_behind_54 : decode xc_MO_behind 54 = .ok (.imul, 1) := by decide +kernel
theorem xd_MO_behind_55 : decode xc_MO_behind 55 = .ok (.sipush 1024, 3) := by decide +kernel
theorem xd_MO_behind_58 : decode xc_MO_behind 58 = .ok (.iload_n 2, 1) := by decide +kernel
theorem xd_MO_behind_59 : decode xc_MO_behind 59 = .ok (.imul, 1) := by decide +kernel
theorem xd_MO_behind_60 : decode xc_MO_behind 60 = .ok (.bipush 32, 2) := by decide +kernel
theorem xd_MO_behind_62 : decode xc_MO_behind 62 = .ok (.iload_n 3, 1) := by decide +kernel
theorem xd_MO_behind_63 : decode xc_MO_behind 63 = .ok (.bipush 32, 2) := by decide +kernel
theorem xd_MO_behind_65 : decode xc_MO_behind 65 = .ok (.irem, 1) := by decide +kernel
theorem xd_MO_behind_66 : decode xc_MO_behind 66 = .ok (.imul, 1) := by decide +kernel
theorem xd_MO_behind_67 : decode xc_MO_behind 67 = .ok (.iadd, 1) := by decide +kernel
theorem xd_MO_behind_68 : decode xc_MO_behind 68 = .ok (.invokevirtual 101, 3) := by decide +kernel
theorem xd_MO_behind_71 : decode xc_MO_behind 71 = .ok (.iinc 3 1, 3) := by decide +kernel
theorem xd_MO_behind_74 : decode xc_MO_behind 74 = .ok (.goto (-57), 3) := by decide +kernel
theorem xd_MO_behind_77 : decode xc_MO_behind 77 = .ok (.aload_n 0, 1) := by decide +kernel
theorem xd_MO_behind_78 : decode xc_MO_behind 78 = .ok (.bipush 39, 2) := by decide +kernel
theorem xd_MO_behind_80 : decode xc_MO_behind 80 = .ok (.iload_n 1, 1) := by decide +kernel
theorem xd_MO_behind_81 : decode xc_MO_behind 81 = .ok (.invokevirtual 105, 3) := by decide +kernel
theorem xd_MO_behind_84 : decode xc_MO_behind 84 = .ok (.return_, 1) := by decide +kernel
theorem xd_MO_spread_0 : decode xc_MO_spread 0 = .ok (.iconst 0, 1) := by decide +kernel
theorem xd_MO_spread_1 : decode xc_MO_spread 1 = .ok (.istore 4, 2) := by decide +kernel
theorem xd_MO_spread_3 : decode xc_MO_spread 3 = .ok (.iload 4, 2) := by decide +kernel
theorem xd_MO_spread_5 : decode xc_MO_spread 5 = .ok (.bipush 32, 2) := by decide +kernel
theorem xd_MO_spread_7 : decode xc_MO_spread 7 = .ok (.if_icmp .ge 72, 3) := by decide +kernel
theorem xd_MO_spread_10 : decode xc_MO_spread 10 = .ok (.aload_n 0, 1) := by decide +kernel
theorem xd_MO_spread_11 : decode xc_MO_spread 11 = .ok (.getfield 33, 3) := by decide +kernel
theorem xd_MO_spread_14 : decode xc_MO_spread 14 = .ok (.iload_n 3, 1) := by decide +kernel
theorem xd_MO_spread_15 : decode xc_MO_spread 15 = .ok (.iload 4, 2) := by decide +kernel
theorem xd_MO_spread_17 : decode xc_MO_spread 17 = .ok (.iadd, 1) := by decide +kernel
theorem xd_MO_spread_18 : decode xc_MO_spread 18 = .ok (.iaload, 1) := by decide +kernel
theorem xd_MO_spread_19 : decode xc_MO_spread 19 = .ok (.ldc 96, 2) := by decide +kernel
theorem xd_MO_spread_21 : decode xc_MO_spread 21 = .ok (.if_icmp .ge 17, 3) := by decide +kernel
theorem xd_MO_spread_24 : decode xc_MO_spread 24 = .ok (.iload_n 1, 1) := by decide +kernel
theorem xd_MO_spread_25 : decode xc_MO_spread 25 = .ok (.aload_n 0, 1) := by decide +kernel
theorem xd_MO_spread_26 : decode xc_MO_spread 26 = .ok (.getfield 33, 3) := by decide +kernel
theorem xd_MO_spread_29 : decode xc_MO_spread 29 = .ok (.iload_n 3, 1) := by decide +kernel
theorem xd_MO_spread_30 : decode xc_MO_spread 30 = .ok (.iload 4, 2) := by decide +kernel
theorem xd_MO_spread_32 : decode xc_MO_spread 32 = .ok (.iadd, 1) := by decide +kernel
theorem xd_MO_spread_33 : decode xc_MO_spread 33 = .ok (.iaload, 1) := by decide +kernel
theorem xd_MO_spread_34 : decode xc_MO_spread 34 = .ok (.iadd, 1) := by decide +kernel
theorem xd_MO_spread_35 : decode xc_MO_spread 35 = .ok (.goto 5, 3) := by decide +kernel
theorem xd_MO_spread_38 : decode xc_MO_spread 38 = .ok (.ldc 96, 2) := by decide +kernel
theorem xd_MO_spread_40 : decode xc_MO_spread 40 = .ok (.istore 5, 2) := by decide +kernel
theorem xd_MO_spread_42 : decode xc_MO_spread 42 = .ok (.iload 5, 2) := by decide +kernel
theorem xd_MO_spread_44 : decode xc_MO_spread 44 = .ok (.aload_n 0, 1) := by decide +kernel
theorem xd_MO_spread_45 : decode xc_MO_spread 45 = .ok (.getfield 33, 3) := by decide +kernel
theorem xd_MO_spread_48 : decode xc_MO_spread 48 = .ok (.ldc 109, 2) := by decide +kernel
theorem xd_MO_spread_50 : decode xc_MO_spread 50 = .ok (.iload_n 2, 1) := by decide +kernel
theorem xd_MO_spread_51 : decode xc_MO_spread 51 = .ok (.iadd, 1) := by decide +kernel
theorem xd_MO_spread_52 : decode xc_MO_spread 52 = .ok (.iload 4, 2) := by decide +kernel
theorem xd_MO_spread_54 : decode xc_MO_spread 54 = .ok (.iadd, 1) := by decide +kernel
theorem xd_MO_spread_55 : decode xc_MO_spread 55 = .ok (.iaload, 1) := by decide +kernel
theorem xd_MO_spread_56 : decode xc_MO_spread 56 = .ok (.if_icmp .ge 17, 3) := by decide +kernel
theorem xd_MO_spread_59 : decode xc_MO_spread 59 = .ok (.aload_n 0, 1) := by decide +kernel
theorem xd_MO_spread_60 : decode xc_MO_spread 60 = .ok (.getfield 33, 3) := by decide +kernel
theorem xd_MO_spread_63 : decode xc_MO_spread 63 = .ok (.ldc 109, 2) := by decide +kernel
theorem xd_MO_spread_65 : decode xc_MO_spread 65 = .ok (.iload_n 2, 1) := by decide +kernel
theorem xd_MO_spread_66 : decode xc_MO_spread 66 = .ok (.iadd, 1) := by decide +kernel
theorem xd_MO_spread_67 : decode xc_MO_spread 67 = .ok (.iload 4, 2) := by decide +kernel
theorem xd_MO_spread_69 : decode xc_MO_spread 69 = .ok (.iadd, 1) := by decide +kernel
theorem xd_MO_spread_70 : decode xc_MO_spread 70 = .ok (.iload 5, 2) := by decide +kernel
theorem xd_MO_spread_72 : decode xc_MO_spread 72 = .ok (.iastore, 1) := by decide +kernel
theorem xd_MO_spread_73 : decode xc_MO_spread 73 = .ok (.iinc 4 1, 3) := by decide +kernel
theorem xd_MO_spread_76 : decode xc_MO_spread 76 = .ok (.goto (-73), 3) := by decide +kernel
theorem xd_MO_spread_79 : decode xc_MO_spread 79 = .ok (.return_, 1) := by decide +kernel
theorem xd_MO_again_0 : decode xc_MO_again 0 = .ok (.aload_n 0, 1) := by decide +kernel
theorem xd_MO_again_1 : decode xc_MO_again 1 = .ok (.bipush 36, 2) := by decide +kernel
theorem xd_MO_again_3 : decode xc_MO_again 3 = .ok (.iconst 1, 1) := by decide +kernel
theorem xd_MO_again_4 : decode xc_MO_again 4 = .ok (.invokevirtual 97, 3) := by decide +kernel
theorem xd_MO_again_7 : decode xc_MO_again 7 = .ok (.aload_n 0, 1) := by decide +kernel
theorem xd_MO_again_8 : decode xc_MO_again 8 = .ok (.bipush 36, 2) := by decide +kernel
theorem xd_MO_again_10 : decode xc_MO_again 10 = .ok (.iload_n 1, 1) := by decide +kernel
theorem xd_MO_again_11 : decode xc_MO_again 11 = .ok (.invokevirtual 110, 3) := by decide +kernel
theorem xd_MO_again_14 : decode xc_MO_again 14 = .ok (.iconst 0, 1) := by decide +kernel
theorem xd_MO_again_15 : decode xc_MO_again 15 = .ok (.istore_n 2, 1) := by decide +kernel
theorem xd_MO_again_16 : decode xc_MO_again 16 = .ok (.aload_n 0, 1) := by decide +kernel
theorem xd_MO_again_17 : decode xc_MO_again 17 = .ok (.getfield 92, 3) := by decide +kernel
theorem xd_MO_again_20 : decode xc_MO_again 20 = .ok (.ifCond .eq 113, 3) := by decide +kernel
theorem xd_MO_again_23 : decode xc_MO_again 23 = .ok (.iload_n 2, 1) := by decide +kernel
theorem xd_MO_again_24 : decode xc_MO_again 24 = .ok (.bipush 32, 2) := by decide +kernel
theorem xd_MO_again_26 : decode xc_MO_again 26 = .ok (.if_icmp .ge 107, 3) := by decide +kernel
theorem xd_MO_again_29 : decode xc_MO_again 29 = .ok (.iconst 0, 1) := by decide +kernel
theorem xd_MO_again_30 : decode xc_MO_again 30 = .ok (.istore_n 3, 1) := by decide +kernel
theorem xd_MO_again_31 : decode xc_MO_again 31 = .ok (.iload_n 3, 1) := by decide +kernel
theorem xd_MO_again_32 : decode xc_MO_again 32 = .ok (.sipush 1024, 3) := by decide +kernel
theorem xd_MO_again_35 : decode xc_MO_again 35 = .ok (.if_icmp .ge 92, 3) := by decide +kernel
theorem xd_MO_again_38 : decode xc_MO_again 38 = .ok (.aload_n 0, 1) := by decide +kernel
theorem xd_MO_again_39 : decode xc_MO_again 39 = .ok (.getfield 33, 3) := by decide +kernel
theorem xd_MO_again_42 : decode xc_MO_again 42 = .ok (.ldc 113, 2) := by decide +kernel
theorem xd_MO_again_44 : decode xc_MO_again 44 = .ok (.iload_n 3, 1) := by decide +kernel
theorem xd_MO_again_45 : decode xc_MO_again 45 = .ok (.bipush 32, 2) := by decide +kernel
theorem xd_MO_again_47 : decode xc_MO_again 47 = .ok (.idiv, 1) := by decide +kernel
theorem xd_MO_again_48 : decode xc_MO_again 48 = .ok (.bipush 32, 2) := by decide +kernel
theorem xd_MO_again_50 : decode xc_MO_again 50 = .ok (.imul, 1) := by decide +kernel
theorem xd_MO_again_51 : decode xc_MO_again 51 = .ok (.iadd, 1) := by decide +kernel
theorem xd_MO_again_52 : decode xc_MO_again 52 = .ok (.iload_n 2, 1) := by decide +kernel
theorem xd_MO_again_53 : decode xc_MO_again 53 = .ok (.iadd, 1) := by decide +kernel
theorem xd_MO_again_54 : decode xc_MO_again 54 = .ok (.iaload, 1) := by decide +kernel
theorem xd_MO_again_55 : decode xc_MO_again 55 = .ok (.istore 4, 2) := by decide +kernel
theorem xd_MO_again_57 : decode xc_MO_again 57 = .ok (.aload_n 0, 1) := by decide +kernel
theorem xd_MO_again_58 : decode xc_MO_again 58 = .ok (.getfield 33, 3) := by decide +kernel
theorem xd_MO_again_61 : decode xc_MO_again 61 = .ok (.ldc 113, 2) := by decide +kernel
theorem xd_MO_again_63 : decode xc_MO_again 63 = .ok (.bipush 32, 2) := by decide +kernel
theorem xd_MO_again_65 : decode xc_MO_again 65 = .ok (.iload_n 2, 1) := by decide +kernel
theorem xd_MO_again_66 : decode xc_MO_again 66 = .ok (.imul, 1) := by decide +kernel
theorem xd_MO_again_67 : decode xc_MO_again 67 = .ok (.iadd, 1) := by decide +kernel
theorem xd_MO_again_68 : decode xc_MO_again 68 = .ok (.iload_n 3, 1) := by decide +kernel
theorem xd_MO_again_69 : decode xc_MO_again 69 = .ok (.bipush 32, 2) := by decide +kernel
theorem xd_MO_again_71 : decode xc_MO_again 71 = .ok (.irem, 1) := by decide +kernel
theorem xd_MO_again_72 : decode xc_MO_again 72 = .ok (.iadd, 1) := by decide +kernel
theorem xd_MO_again_73 : decode xc_MO_again 73 = .ok (.iaload, 1) := by decide +kernel
theorem xd_MO_again_74 : decode xc_MO_again 74 = .ok (.istore 5, 2) := by decide +kernel
theorem xd_MO_again_76 : decode xc_MO_again 76 = .ok (.iload 4, 2) := by decide +kernel
theorem xd_MO_again_78 : decode xc_MO_again 78 = .ok (.ldc 96, 2) := by decide +kernel
theorem xd_MO_again_80 : decode xc_MO_again 80 = .ok (.if_icmp .ge 41, 3) := by decide +kernel
theorem xd_MO_again_83 : decode xc_MO_again 83 = .ok (.iload 5, 2) := by decide +kernel
theorem xd_MO_again_85 : decode xc_MO_again 85 = .ok (.ldc 96, 2) := by decide +kernel
theorem xd_MO_again_87 : decode xc_MO_again 87 = .ok (.if_icmp .ge 34, 3) := by decide +kernel
theorem xd_MO_again_90 : decode xc_MO_again 90 = .ok (.iload 4, 2) := by decide +kernel
theorem xd_MO_again_92 : decode xc_MO_again 92 = .ok (.iload 5, 2) := by decide +kernel
theorem xd_MO_again_94 : decode xc_MO_again 94 = .ok (.iadd, 1) := by decide +kernel
theorem xd_MO_again_95 : decode xc_MO_again 95 = .ok (.aload_n 0, 1) := by decide +kernel
theorem xd_MO_again_96 : decode xc_MO_again 96 = .ok (.getfield 33, 3) := by decide +kernel
theorem xd_MO_again_99 : decode xc_MO_again 99 = .ok (.ldc 113, 2) := by decide +kernel
theorem xd_MO_again_101 : decode xc_MO_again 101 = .ok (.iload_n 3, 1) := by decide +kernel
theorem xd_MO_again_102 : decode xc_MO_again 102 = .ok (.iadd, 1) := by decide +kernel
theorem xd_MO_again_103 : decode xc_MO_again 103 = .ok (.iaload, 1) := by decide +kernel
theorem xd_MO_again_104 : decode xc_MO_again 104 = .ok (.if_icmp .ge 17, 3) := by decide +kernel
theorem xd_MO_again_107 : decode xc_MO_again 107 = .ok (.aload_n 0, 1) := by decide +kernel
theorem xd_MO_again_108 : decode xc_MO_again 108 = .ok (.getfield 33, 3) := by decide +kernel
theorem xd_MO_again_111 : decode xc_MO_again 111 = .ok (.ldc 113, 2) := by decide +kernel
theorem xd_MO_again_113 : decode xc_MO_again 113 = .ok (.iload_n 3, 1) := by decide +kernel
theorem xd_MO_again_114 : decode xc_MO_again 114 = .ok (.iadd, 1) := by decide +kernel
theorem xd_MO_again_115 : decode xc_MO_again 115 = .ok (.iload 4, 2) := by decide +kernel
theorem xd_MO_again_117 : decode xc_MO_again 117 = .ok (.iload 5, 2) := by decide +kernel
theorem xd_MO_again_119 : decode xc_MO_again 119 = .ok (.iadd, 1) := by decide +kernel
theorem xd_MO_again_120 : decode xc_MO_again 120 = .ok (.iastore, 1) := by decide +kernel
theorem xd_MO_again_121 : decode xc_MO_again 121 = .ok (.iinc 3 1, 3) := by decide +kernel
theorem xd_MO_again_124 : decode xc_MO_again 124 = .ok (.goto (-93), 3) := by decide +kernel
theorem xd_MO_again_127 : decode xc_MO_again 127 = .ok (.iinc 2 1, 3) := by decide +kernel
theorem xd_MO_again_130 : decode xc_MO_again 130 = .ok (.goto (-114), 3) := by decide +kernel
theorem xd_MO_again_133 : decode xc_MO_again 133 = .ok (.return_, 1) := by decide +kernel
theorem xd_MO_isLetter_0 : decode xc_MO_isLetter 0 = .ok (.iload_n 0, 1) := by decide +kernel
theorem xd_MO_isLetter_1 : decode xc_MO_isLetter 1 = .ok (.bipush 97, 2) := by decide +kernel
theorem xd_MO_isLetter_3 : decode xc_MO_isLetter 3 = .ok (.if_icmp .lt 13, 3) := by decide +kernel
theorem xd_MO_isLetter_6 : decode xc_MO_isLetter 6 = .ok (.iload_n 0, 1) := by decide +kernel
theorem xd_MO_isLetter_7 : decode xc_MO_isLetter 7 = .ok (.bipush 104, 2) := by decide +kernel
theorem xd_MO_isLetter_9 : decode xc_MO_isLetter 9 = .ok (.if_icmp .gt 7, 3) := by decide +kernel
theorem xd_MO_isLetter_12 : decode xc_MO_isLetter 12 = .ok (.iconst 1, 1) := by decide +kernel
theorem xd_MO_isLetter_13 : decode xc_MO_isLetter 13 = .ok (.goto 4, 3) := by decide +kernel
theorem xd_MO_isLetter_16 : decode xc_MO_isLetter 16 = .ok (.iconst 0, 1) := by decide +kernel
theorem xd_MO_isLetter_17 : decode xc_MO_isLetter 17 = .ok (.ireturn, 1) := by decide +kernel
theorem xd_MO_atom_0 : decode xc_MO_atom 0 = .ok (.iconst 3, 1) := by decide +kernel
theorem xd_MO_atom_1 : decode xc_MO_atom 1 = .ok (.aload_n 0, 1) := by decide +kernel
theorem xd_MO_atom_2 : decode xc_MO_atom 2 = .ok (.getfield 114, 3) := by decide +kernel
theorem xd_MO_atom_5 : decode xc_MO_atom 5 = .ok (.imul, 1) := by decide +kernel
theorem xd_MO_atom_6 : decode xc_MO_atom 6 = .ok (.iconst 2, 1) := by decide +kernel
theorem xd_MO_atom_7 : decode xc_MO_atom 7 = .ok (.iadd, 1) := by decide +kernel
theorem xd_MO_atom_8 : decode xc_MO_atom 8 = .ok (.istore_n 1, 1) := by decide +kernel
theorem xd_MO_atom_9 : decode xc_MO_atom 9 = .ok (.aload_n 0, 1) := by decide +kernel
theorem xd_MO_atom_10 : decode xc_MO_atom 10 = .ok (.getfield 36, 3) := by decide +kernel
theorem xd_MO_atom_13 : decode xc_MO_atom 13 = .ok (.iload_n 1, 1) := by decide +kernel
theorem xd_MO_atom_14 : decode xc_MO_atom 14 = .ok (.iconst 1, 1) := by decide +kernel
theorem xd_MO_atom_15 : decode xc_MO_atom 15 = .ok (.iastore, 1) := by decide +kernel
theorem xd_MO_atom_16 : decode xc_MO_atom 16 = .ok (.aload_n 0, 1) := by decide +kernel
theorem xd_MO_atom_17 : decode xc_MO_atom 17 = .ok (.invokevirtual 85, 3) := by decide +kernel
theorem xd_MO_atom_20 : decode xc_MO_atom 20 = .ok (.bipush 91, 2) := by decide +kernel
theorem xd_MO_atom_22 : decode xc_MO_atom 22 = .ok (.if_icmp .ne 9, 3) := by decide +kernel
theorem xd_MO_atom_25 : decode xc_MO_atom 25 = .ok (.aload_n 0, 1) := by decide +kernel
theorem xd_MO_atom_26 : decode xc_MO_atom 26 = .ok (.iload_n 1, 1) := by decide +kernel
theorem xd_MO_atom_27 : decode xc_MO_atom 27 = .ok (.invokevirtual 139, 3) := by decide +kernel
theorem xd_MO_atom_30 : decode xc_MO_atom 30 = .ok (.return_, 1) := by decide +kernel
theorem xd_MO_atom_31 : decode xc_MO_atom 31 = .ok (.aload_n 0, 1) := by decide +kernel
theorem xd_MO_atom_32 : decode xc_MO_atom 32 = .ok (.invokevirtual 85, 3) := by decide +kernel
theorem xd_MO_atom_35 : decode xc_MO_atom 35 = .ok (.bipush 94, 2) := by decide +kernel
theorem xd_MO_atom_37 : decode xc_MO_atom 37 = .ok (.if_icmp .ne 7, 3) := by decide +kernel
theorem xd_MO_atom_40 : decode xc_MO_atom 40 = .ok (.iconst 1, 1) := by decide +kernel
theorem xd_MO_atom_41 : decode xc_MO_atom 41 = .ok (.goto 4, 3) := by decide +kernel
theorem xd_MO_atom_44 : decode xc_MO_atom 44 = .ok (.iconst 0, 1) := by decide +kernel
theorem xd_MO_atom_45 : decode xc_MO_atom 45 = .ok (.istore_n 2, 1) := by decide +kernel
theorem xd_MO_atom_46 : decode xc_MO_atom 46 = .ok (.iload_n 2, 1) := by decide +kernel
theorem xd_MO_atom_47 : decode xc_MO_atom 47 = .ok (.ifCond .eq 13, 3) := by decide +kernel
theorem xd_MO_atom_50 : decode xc_MO_atom 50 = .ok (.aload_n 0, 1) := by decide +kernel
theorem xd_MO_atom_51 : decode xc_MO_atom 51 = .ok (.dup, 1) := by decide +kernel
theorem xd_MO_atom_52 : decode xc_MO_atom 52 = .ok (.getfield 72, 3) := by decide +kernel
theorem xd_MO_atom_55 : decode xc_MO_atom 55 = .ok (.iconst 1, 1) := by decide +kernel
theorem xd_MO_atom_56 : decode xc_MO_atom 56 = .ok (.iadd, 1) := by decide +kernel
theorem xd_MO_atom_57 : decode xc_MO_atom 57 = .ok (.putfield 72, 3) := by decide +kernel
theorem xd_MO_atom_60 : decode xc_MO_atom 60 = .ok (.aload_n 0, 1) := by decide +kernel
theorem xd_MO_atom_61 : decode xc_MO_atom 61 = .ok (.invokevirtual 85, 3) := by decide +kernel
theorem xd_MO_atom_64 : decode xc_MO_atom 64 = .ok (.istore_n 3, 1) := by decide +kernel
theorem xd_MO_atom_65 : decode xc_MO_atom 65 = .ok (.iload_n 3, 1) := by decide +kernel
theorem xd_MO_atom_66 : decode xc_MO_atom 66 = .ok (.invokestatic 129, 3) := by decide +kernel
theorem xd_MO_atom_69 : decode xc_MO_atom 69 = .ok (.ifCond .ne 13, 3) := by decide +kernel
theorem xd_MO_atom_72 : decode xc_MO_atom 72 = .ok (.iload_n 3, 1) := by decide +kernel
theorem xd_MO_atom_73 : decode xc_MO_atom 73 = .ok (.bipush 46, 2) := by decide +kernel
theorem xd_MO_atom_75 : decode xc_MO_atom 75 = .ok (.if_icmp .eq 7, 3) := by decide +kernel
theorem xd_MO_atom_78 : decode xc_MO_atom 78 = .ok (.aload_n 0, 1) := by decide +kernel
theorem xd_MO_atom_79 : decode xc_MO_atom 79 = .ok (.invokevirtual 89, 3) := by decide +kernel
theorem xd_MO_atom_82 : decode xc_MO_atom 82 = .ok (.aload_n 0, 1) := by decide +kernel
theorem xd_MO_atom_83 : decode xc_MO_atom 83 = .ok (.invokevirtual 81, 3) := by decide +kernel
theorem xd_MO_atom_86 : decode xc_MO_atom 86 = .ok (.ifCond .eq 13, 3) := by decide +kernel
theorem xd_MO_atom_89 : decode xc_MO_atom 89 = .ok (.aload_n 0, 1) := by decide +kernel
theorem xd_MO_atom_90 : decode xc_MO_atom 90 = .ok (.dup, 1) := by decide +kernel
theorem xd_MO_atom_91 : decode xc_MO_atom 91 = .ok (.getfield 72, 3) := by decide +kernel
theorem xd_MO_atom_94 : decode xc_MO_atom 94 = .ok (.iconst 1, 1) := by decide +kernel
theorem xd_MO_atom_95 : decode xc_MO_atom 95 = .ok (.iadd, 1) := by decide +kernel
theorem xd_MO_atom_96 : decode xc_MO_atom 96 = .ok (.putfield 72, 3) := by decide +kernel
theorem xd_MO_atom_99 : decode xc_MO_atom 99 = .ok (.aload_n 0, 1) := by decide +kernel
theorem xd_MO_atom_100 : decode xc_MO_atom 100 = .ok (.iload_n 1, 1) := by decide +kernel
theorem xd_MO_atom_101 : decode xc_MO_atom 101 = .ok (.iconst 0, 1) := by decide +kernel
theorem xd_MO_atom_102 : decode xc_MO_atom 102 = .ok (.invokevirtual 97, 3) := by decide +kernel
theorem xd_MO_atom_105 : decode xc_MO_atom 105 = .ok (.iconst 0, 1) := by decide +kernel
theorem xd_MO_atom_106 : decode xc_MO_atom 106 = .ok (.istore 4, 2) := by decide +kernel
theorem xd_MO_atom_108 : decode xc_MO_atom 108 = .ok (.aload_n 0, 1) := by decide +kernel
theorem xd_MO_atom_109 : decode xc_MO_atom 109 = .ok (.getfield 92, 3) := by decide +kernel
theorem xd_MO_atom_112 : decode xc_MO_atom 112 = .ok (.ifCond .eq 101, 3) := by decide +kernel
theorem xd_MO_atom_115 : decode xc_MO_atom 115 = .ok (.iload 4, 2) := by decide +kernel
theorem xd_MO_atom_117 : decode xc_MO_atom 117 = .ok (.sipush 8192, 3) := by decide +kernel
theorem xd_MO_atom_120 : decode xc_MO_atom 120 = .ok (.if_icmp .ge 93, 3) := by decide +kernel
theorem xd_MO_atom_123 : decode xc_MO_atom 123 = .ok (.aload_n 0, 1) := by decide +kernel
theorem xd_MO_atom_124 : decode xc_MO_atom 124 = .ok (.getfield 7, 3) := by decide +kernel
theorem xd_MO_atom_127 : decode xc_MO_atom 127 = .ok (.iload 4, 2) := by decide +kernel
theorem xd_MO_atom_129 : decode xc_MO_atom 129 = .ok (.baload, 1) := by decide +kernel
theorem xd_MO_atom_130 : decode xc_MO_atom 130 = .ok (.ifCond .eq 77, 3) := by decide +kernel
theorem xd_MO_atom_133 : decode xc_MO_atom 133 = .ok (.iload_n 3, 1) := by decide +kernel
theorem xd_MO_atom_134 : decode xc_MO_atom 134 = .ok (.bipush 46, 2) := by decide +kernel
theorem xd_MO_atom_136 : decode xc_MO_atom 136 = .ok (.if_icmp .eq 19, 3) := by decide +kernel
theorem xd_MO_atom_139 : decode xc_MO_atom 139 = .ok (.iload_n 3, 1) := by decide +kernel
theorem xd_MO_atom_140 : decode xc_MO_atom 140 = .ok (.bipush 97, 2) := by decide +kernel
theorem xd_MO_atom_142 : decode xc_MO_atom 142 = .ok (.isub, 1) := by decide +kernel
theorem xd_MO_atom_143 : decode xc_MO_atom 143 = .ok (.iload 4, 2) := by decide +kernel
theorem xd_MO_atom_145 : decode xc_MO_atom 145 = .ok (.sipush 1024, 3) := by decide +kernel
theorem xd_MO_atom_148 : decode xc_MO_atom 148 = .ok (.idiv, 1) := by decide +kernel
theorem xd_MO_atom_149 : decode xc_MO_atom 149 = .ok (.if_icmp .eq 6, 3) := by decide +kernel
theorem xd_MO_atom_152 : decode xc_MO_atom 152 = .ok (.goto 55, 3) := by decide +kernel
theorem xd_MO_atom_155 : decode xc_MO_atom 155 = .ok (.iload 4, 2) := by decide +kernel
theorem xd_MO_atom_157 : decode xc_MO_atom 157 = .ok (.bipush 32, 2) := by decide +kernel
theorem xd_MO_atom_159 : decode xc_MO_atom 159 = .ok (.idiv, 1) := by decide +kernel
theorem xd_MO_atom_160 : decode xc_MO_atom 160 = .ok (.bipush 32, 2) := by decide +kernel
theorem xd_MO_atom_162 : decode xc_MO_atom 162 = .ok (.irem, 1) := by decide +kernel
theorem xd_MO_atom_163 : decode xc_MO_atom 163 = .ok (.istore 5, 2) := by decide +kernel
theorem xd_MO_atom_165 : decode xc_MO_atom 165 = .ok (.iload 4, 2) := by decide +kernel
theorem xd_MO_atom_167 : decode xc_MO_atom 167 = .ok (.bipush 32, 2) := by decide +kernel
theorem xd_MO_atom_169 : decode xc_MO_atom 169 = .ok (.irem, 1) := by decide +kernel
theorem xd_MO_atom_170 : decode xc_MO_atom 170 = .ok (.istore 6, 2) := by decide +kernel
theorem xd_MO_atom_172 : decode xc_MO_atom 172 = .ok (.aload_n 0, 1) := by decide +kernel
theorem xd_MO_atom_173 : decode xc_MO_atom 173 = .ok (.getfield 33, 3) := by decide +kernel
theorem xd_MO_atom_176 : decode xc_MO_atom 176 = .ok (.sipush 1024, 3) := by decide +kernel
theorem xd_MO_atom_179 : decode xc_MO_atom 179 = .ok (.iload_n 1, 1) := by decide +kernel
theorem xd_MO_atom_180 : decode xc_MO_atom 180 = .ok (.imul, 1) := by decide +kernel
theorem xd_MO_atom_181 : decode xc_MO_atom 181 = .ok (.iload_n 2, 1) := by decide +kernel
theorem xd_MO_atom_182 : decode xc_MO_atom 182 = .ok (.ifCond .eq 14, 3) := by decide +kernel
theorem xd_MO_atom_185 : decode xc_MO_atom 185 = .ok (.bipush 32, 2) := by decide +kernel
theorem xd_MO_atom_187 : decode xc_MO_atom 187 = .ok (.iload 6, 2) := by decide +kernel
theorem xd_MO_atom_189 : decode xc_MO_atom 189 = .ok (.imul, 1) := by decide +kernel
theorem xd_MO_atom_190 : decode xc_MO_atom 190 = .ok (.iload 5, 2) := by decide +kernel
theorem xd_MO_atom_192 : decode xc_MO_atom 192 = .ok (.iadd, 1) := by decide +kernel
theorem xd_MO_atom_193 : decode xc_MO_atom 193 = .ok (.goto 11, 3) := by decide +kernel
theorem xd_MO_atom_196 : decode xc_MO_atom 196 = .ok (.bipush 32, 2) := by decide +kernel
theorem xd_MO_atom_198 : decode xc_MO_atom 198 = .ok (.iload 5, 2) := by decide +kernel
theorem xd_MO_atom_200 : decode xc_MO_atom 200 = .ok (.imul, 1) := by decide +kernel
theorem xd_MO_atom_201 : decode xc_MO_atom 201 = .ok (.iload 6, 2) := by decide +kernel
theorem xd_MO_atom_203 : decode xc_MO_atom 203 = .ok (.iadd, 1) := by decide +kernel
theorem xd_MO_atom_204 : decode xc_MO_atom 204 = .ok (.iadd, 1) := by decide +kernel
theorem xd_MO_atom_205 : decode xc_MO_atom 205 = .ok (.iconst 1, 1) := by decide +kernel
theorem xd_MO_atom_206 : decode xc_MO_atom 206 = .ok (.iastore, 1) := by decide +kernel
theorem xd_MO_atom_207 : decode xc_MO_atom 207 = .ok (.iinc 4 1, 3) := by decide +kernel
theorem xd_MO_atom_210 : decode xc_MO_atom 210 = .ok (.goto (-102), 3) := by decide +kernel
theorem xd_MO_atom_213 : decode xc_MO_atom 213 = .ok (.return_, 1) := by decide +kernel
theorem xd_MO_test_0 : decode xc_MO_test 0 = .ok (.aload_n 0, 1) := by decide +kernel
theorem xd_MO_test_1 : decode xc_MO_test 1 = .ok (.dup, 1) := by decide +kernel
theorem xd_MO_test_2 : decode xc_MO_test 2 = .ok (.getfield 72, 3) := by decide +kernel
theorem xd_MO_test_5 : decode xc_MO_test 5 = .ok (.iconst 1, 1) := by decide +kernel
theorem xd_MO_test_6 : decode xc_MO_test 6 = .ok (.iadd, 1) := by decide +kernel
theorem xd_MO_test_7 : decode xc_MO_test 7 = .ok (.putfield 72, 3) := by decide +kernel
theorem xd_MO_test_10 : decode xc_MO_test 10 = .ok (.aload_n 0, 1) := by decide +kernel
theorem xd_MO_test_11 : decode xc_MO_test 11 = .ok (.invokevirtual 85, 3) := by decide +kernel
theorem xd_MO_test_14 : decode xc_MO_test 14 = .ok (.bipush 33, 2) := by decide +kernel
theorem xd_MO_test_16 : decode xc_MO_test 16 = .ok (.if_icmp .ne 7, 3) := by decide +kernel
theorem xd_MO_test_19 : decode xc_MO_test 19 = .ok (.iconst 1, 1) := by decide +kernel
theorem xd_MO_test_20 : decode xc_MO_test 20 = .ok (.goto 4, 3) := by decide +kernel
theorem xd_MO_test_23 : decode xc_MO_test 23 = .ok (.iconst 0, 1) := by decide +kernel
theorem xd_MO_test_24 : decode xc_MO_test 24 = .ok (.istore_n 2, 1) := by decide +kernel
theorem xd_MO_test_25 : decode xc_MO_test 25 = .ok (.iload_n 2, 1) := by decide +kernel
theorem xd_MO_test_26 : decode xc_MO_test 26 = .ok (.ifCond .eq 13, 3) := by decide +kernel
theorem xd_MO_test_29 : decode xc_MO_test 29 = .ok (.aload_n 0, 1) := by decide +kernel
theorem xd_MO_test_30 : decode xc_MO_test 30 = .ok (.dup, 1) := by decide +kernel
theorem xd_MO_test_31 : decode xc_MO_test 31 = .ok (.getfield 72, 3) := by decide +kernel
theorem xd_MO_test_34 : decode xc_MO_test 34 = .ok (.iconst 1, 1) := by decide +kernel
theorem xd_MO_test_35 : decode xc_MO_test 35 = .ok (.iadd, 1) := by decide +kernel
theorem xd_MO_test_36 : decode xc_MO_test 36 = .ok (.putfield 72, 3) := by decide +kernel
theorem xd_MO_test_39 : decode xc_MO_test 39 = .ok (.aload_n 0, 1) := by decide +kernel
theorem xd_MO_test_40 : decode xc_MO_test 40 = .ok (.invokevirtual 85, 3) := by decide +kernel
theorem xd_MO_test_43 : decode xc_MO_test 43 = .ok (.bipush 48, 2) := by decide +kernel
theorem xd_MO_test_45 : decode xc_MO_test 45 = .ok (.isub, 1) := by decide +kernel
theorem xd_MO_test_46 : decode xc_MO_test 46 = .ok (.istore_n 3, 1) := by decide +kernel
theorem xd_MO_test_47 : decode xc_MO_test 47 = .ok (.iload_n 3, 1) := by decide +kernel
theorem xd_MO_test_48 : decode xc_MO_test 48 = .ok (.iconst 4, 1) := by decide +kernel
theorem xd_MO_test_49 : decode xc_MO_test 49 = .ok (.invokestatic 52, 3) := by decide +kernel
theorem xd_MO_test_52 : decode xc_MO_test 52 = .ok (.ifCond .ne 7, 3) := by decide +kernel
theorem xd_MO_test_55 : decode xc_MO_test 55 = .ok (.aload_n 0, 1) := by decide +kernel
theorem xd_MO_test_56 : decode xc_MO_test 56 = .ok (.invokevirtual 89, 3) := by decide +kernel
theorem xd_MO_test_59 : decode xc_MO_test 59 = .ok (.aload_n 0, 1) := by decide +kernel
theorem xd_MO_test_60 : decode xc_MO_test 60 = .ok (.invokevirtual 81, 3) := by decide +kernel
theorem xd_MO_test_63 : decode xc_MO_test 63 = .ok (.ifCond .eq 13, 3) := by decide +kernel
theorem xd_MO_test_66 : decode xc_MO_test 66 = .ok (.aload_n 0, 1) := by decide +kernel
theorem xd_MO_test_67 : decode xc_MO_test 67 = .ok (.dup, 1) := by decide +kernel
theorem xd_MO_test_68 : decode xc_MO_test 68 = .ok (.getfield 72, 3) := by decide +kernel
theorem xd_MO_test_71 : decode xc_MO_test 71 = .ok (.iconst 1, 1) := by decide +kernel
theorem xd_MO_test_72 : decode xc_MO_test 72 = .ok (.iadd, 1) := by decide +kernel
theorem xd_MO_test_73 : decode xc_MO_test 73 = .ok (.putfield 72, 3) := by decide +kernel
theorem xd_MO_test_76 : decode xc_MO_test 76 = .ok (.aload_n 0, 1) := by decide +kernel
theorem xd_MO_test_77 : decode xc_MO_test 77 = .ok (.bipush 93, 2) := by decide +kernel
theorem xd_MO_test_79 : decode xc_MO_test 79 = .ok (.invokevirtual 143, 3) := by decide +kernel
theorem xd_MO_test_82 : decode xc_MO_test 82 = .ok (.aload_n 0, 1) := by decide +kernel
theorem xd_MO_test_83 : decode xc_MO_test 83 = .ok (.iload_n 1, 1) := by decide +kernel
theorem xd_MO_test_84 : decode xc_MO_test 84 = .ok (.iconst 0, 1) := by decide +kernel
theorem xd_MO_test_85 : decode xc_MO_test 85 = .ok (.invokevirtual 97, 3) := by decide +kernel
theorem xd_MO_test_88 : decode xc_MO_test 88 = .ok (.iconst 0, 1) := by decide +kernel
theorem xd_MO_test_89 : decode xc_MO_test 89 = .ok (.istore 4, 2) := by decide +kernel
theorem xd_MO_test_91 : decode xc_MO_test 91 = .ok (.aload_n 0, 1) := by decide +kernel
theorem xd_MO_test_92 : decode xc_MO_test 92 = .ok (.getfield 92, 3) := by decide +kernel
theorem xd_MO_test_95 : decode xc_MO_test 95 = .ok (.ifCond .eq 53, 3) := by decide +kernel
theorem xd_MO_test_98 : decode xc_MO_test 98 = .ok (.iload 4, 2) := by decide +kernel
theorem xd_MO_test_100 : decode xc_MO_test 100 = .ok (.bipush 32, 2) := by decide +kernel
theorem xd_MO_test_102 : decode xc_MO_test 102 = .ok (.if_icmp .ge 46, 3) := by decide +kernel
theorem xd_MO_test_105 : decode xc_MO_test 105 = .ok (.aload_n 0, 1) := by decide +kernel
theorem xd_MO_test_106 : decode xc_MO_test 106 = .ok (.getfield 33, 3) := by decide +kernel
theorem xd_MO_test_109 : decode xc_MO_test 109 = .ok (.sipush 1024, 3) := by decide +kernel
theorem xd_MO_test_112 : decode xc_MO_test 112 = .ok (.iload_n 1, 1) := by decide +kernel
theorem xd_MO_test_113 : decode xc_MO_test 113 = .ok (.imul, 1) := by decide +kernel
theorem xd_MO_test_114 : decode xc_MO_test 114 = .ok (.iload 4, 2) := by decide +kernel
theorem xd_MO_test_116 : decode xc_MO_test 116 = .ok (.bipush 33, 2) := by decide +kernel
theorem xd_MO_test_118 : decode xc_MO_test 118 = .ok (.imul, 1) := by decide +kernel
theorem xd_MO_test_119 : decode xc_MO_test 119 = .ok (.iadd, 1) := by decide +kernel
theorem xd_MO_test_120 : decode xc_MO_test 120 = .ok (.aload_n 0, 1) := by decide +kernel
theorem xd_MO_test_121 : decode xc_MO_test 121 = .ok (.getfield 13, 3) := by decide +kernel
theorem xd_MO_test_124 : decode xc_MO_test 124 = .ok (.iconst 4, 1) := by decide +kernel
theorem xd_MO_test_125 : decode xc_MO_test 125 = .ok (.iload 4, 2) := by decide +kernel
theorem xd_MO_test_127 : decode xc_MO_test 127 = .ok (.imul, 1) := by decide +kernel
theorem xd_MO_test_128 : decode xc_MO_test 128 = .ok (.iload_n 3, 1) := by decide +kernel
theorem xd_MO_test_129 : decode xc_MO_test 129 = .ok (.iadd, 1) := by decide +kernel
theorem xd_MO_test_130 : decode xc_MO_test 130 = .ok (.baload, 1) := by decide +kernel
theorem xd_MO_test_131 : decode xc_MO_test 131 = .ok (.iload_n 2, 1) := by decide +kernel
theorem xd_MO_test_132 : decode xc_MO_test 132 = .ok (.if_icmp .eq 7, 3) := by decide +kernel
theorem xd_MO_test_135 : decode xc_MO_test 135 = .ok (.iconst 0, 1) := by decide +kernel
theorem xd_MO_test_136 : decode xc_MO_test 136 = .ok (.goto 5, 3) := by decide +kernel
theorem xd_MO_test_139 : decode xc_MO_test 139 = .ok (.ldc 96, 2) := by decide +kernel
theorem xd_MO_test_141 : decode xc_MO_test 141 = .ok (.iastore, 1) := by decide +kernel
theorem xd_MO_test_142 : decode xc_MO_test 142 = .ok (.iinc 4 1, 3) := by decide +kernel
theorem xd_MO_test_145 : decode xc_MO_test 145 = .ok (.goto (-54), 3) := by decide +kernel
theorem xd_MO_test_148 : decode xc_MO_test 148 = .ok (.return_, 1) := by decide +kernel
theorem xd_MO_reach_0 : decode xc_MO_reach 0 = .ok (.iload_n 1, 1) := by decide +kernel
theorem xd_MO_reach_1 : decode xc_MO_reach 1 = .ok (.iconst 4, 1) := by decide +kernel
theorem xd_MO_reach_2 : decode xc_MO_reach 2 = .ok (.invokestatic 52, 3) := by decide +kernel
theorem xd_MO_reach_5 : decode xc_MO_reach 5 = .ok (.istore 4, 2) := by decide +kernel
theorem xd_MO_reach_7 : decode xc_MO_reach 7 = .ok (.aload_n 0, 1) := by decide +kernel
theorem xd_MO_reach_8 : decode xc_MO_reach 8 = .ok (.iload 4, 2) := by decide +kernel
theorem xd_MO_reach_10 : decode xc_MO_reach 10 = .ok (.ifCond .ne 7, 3) := by decide +kernel
theorem xd_MO_reach_13 : decode xc_MO_reach 13 = .ok (.iconst 1, 1) := by decide +kernel
theorem xd_MO_reach_14 : decode xc_MO_reach 14 = .ok (.goto 4, 3) := by decide +kernel
theorem xd_MO_reach_17 : decode xc_MO_reach 17 = .ok (.iconst 0, 1) := by decide +kernel
theorem xd_MO_reach_18 : decode xc_MO_reach 18 = .ok (.iload 4, 2) := by decide +kernel
theorem xd_MO_reach_20 : decode xc_MO_reach 20 = .ok (.ifCond .eq 16, 3) := by decide +kernel
theorem xd_MO_reach_23 : decode xc_MO_reach 23 = .ok (.iload_n 2, 1) := by decide +kernel
theorem xd_MO_reach_24 : decode xc_MO_reach 24 = .ok (.bipush 32, 2) := by decide +kernel
theorem xd_MO_reach_26 : decode xc_MO_reach 26 = .ok (.invokestatic 52, 3) := by decide +kernel
theorem xd_MO_reach_29 : decode xc_MO_reach 29 = .ok (.ifCond .ne 7, 3) := by decide +kernel
theorem xd_MO_reach_32 : decode xc_MO_reach 32 = .ok (.iconst 1, 1) := by decide +kernel
theorem xd_MO_reach_33 : decode xc_MO_reach 33 = .ok (.goto 4, 3) := by decide +kernel
theorem xd_MO_reach_36 : decode xc_MO_reach 36 = .ok (.iconst 0, 1) := by decide +kernel
theorem xd_MO_reach_37 : decode xc_MO_reach 37 = .ok (.invokevirtual 56, 3) := by decide +kernel
theorem xd_MO_reach_40 : decode xc_MO_reach 40 = .ok (.ifCond .eq 5, 3) := by decide +kernel
theorem xd_MO_reach_43 : decode xc_MO_reach 43 = .ok (.iconst 0, 1) := by decide +kernel
theorem xd_MO_reach_44 : decode xc_MO_reach 44 = .ok (.ireturn, 1) := by decide +kernel
theorem xd_MO_reach_45 : decode xc_MO_reach 45 = .ok (.aload_n 0, 1) := by decide +kernel
theorem xd_MO_reach_46 : decode xc_MO_reach 46 = .ok (.iload_n 1, 1) := by decide +kernel
theorem xd_MO_reach_47 : decode xc_MO_reach 47 = .ok (.aload_n 0, 1) := by decide +kernel
theorem xd_MO_reach_48 : decode xc_MO_reach 48 = .ok (.getfield 42, 3) := by decide +kernel
theorem xd_MO_reach_51 : decode xc_MO_reach 51 = .ok (.invokevirtual 166, 3) := by decide +kernel
theorem xd_MO_reach_54 : decode xc_MO_reach 54 = .ok (.iconst 0, 1) := by decide +kernel
theorem xd_MO_reach_55 : decode xc_MO_reach 55 = .ok (.istore 5, 2) := by decide +kernel
theorem xd_MO_reach_57 : decode xc_MO_reach 57 = .ok (.iconst 0, 1) := by decide +kernel
theorem xd_MO_reach_58 : decode xc_MO_reach 58 = .ok (.istore 6, 2) := by decide +kernel
theorem xd_MO_reach_60 : decode xc_MO_reach 60 = .ok (.iload 6, 2) := by decide +kernel
theorem xd_MO_reach_62 : decode xc_MO_reach 62 = .ok (.bipush 32, 2) := by decide +kernel
theorem xd_MO_reach_64 : decode xc_MO_reach 64 = .ok (.if_icmp .ge 53, 3) := by decide +kernel
theorem xd_MO_reach_67 : decode xc_MO_reach 67 = .ok (.iload 5, 2) := by decide +kernel
theorem xd_MO_reach_69 : decode xc_MO_reach 69 = .ok (.aload_n 0, 1) := by decide +kernel
theorem xd_MO_reach_70 : decode xc_MO_reach 70 = .ok (.getfield 42, 3) := by decide +kernel
theorem xd_MO_reach_73 : decode xc_MO_reach 73 = .ok (.iload_n 3, 1) := by decide +kernel
theorem xd_MO_reach_74 : decode xc_MO_reach 74 = .ok (.ifCond .eq 13, 3) := by decide +kernel
theorem xd_MO_reach_77 : decode xc_MO_reach 77 = .ok (.bipush 32, 2) := by decide +kernel
theorem xd_MO_reach_79 : decode xc_MO_reach 79 = .ok (.iload 6, 2) := by decide +kernel
theorem xd_MO_reach_81 : decode xc_MO_reach 81 = .ok (.imul, 1) := by decide +kernel
theorem xd_MO_reach_82 : decode xc_MO_reach 82 = .ok (.iload_n 2, 1) := by decide +kernel
theorem xd_MO_reach_83 : decode xc_MO_reach 83 = .ok (.iadd, 1) := by decide +kernel
theorem xd_MO_reach_84 : decode xc_MO_reach 84 = .ok (.goto 10, 3) := by decide +kernel
theorem xd_MO_reach_87 : decode xc_MO_reach 87 = .ok (.bipush 32, 2) := by decide +kernel
theorem xd_MO_reach_89 : decode xc_MO_reach 89 = .ok (.iload_n 2, 1) := by decide +kernel
theorem xd_MO_reach_90 : decode xc_MO_reach 90 = .ok (.imul, 1) := by decide +kernel
theorem xd_MO_reach_91 : decode xc_MO_reach 91 = .ok (.iload 6, 2) := by decide +kernel
theorem xd_MO_reach_93 : decode xc_MO_reach 93 = .ok (.iadd, 1) := by decide +kernel
theorem xd_MO_reach_94 : decode xc_MO_reach 94 = .ok (.iaload, 1) := by decide +kernel
theorem xd_MO_reach_95 : decode xc_MO_reach 95 = .ok (.ldc 96, 2) := by decide +kernel
theorem xd_MO_reach_97 : decode xc_MO_reach 97 = .ok (.if_icmp .ge 10, 3) := by decide +kernel
theorem xd_MO_reach_100 : decode xc_MO_reach 100 = .ok (.iconst 1, 1) := by decide +kernel
theorem xd_MO_reach_101 : decode xc_MO_reach 101 = .ok (.iload 6, 2) := by decide +kernel
theorem xd_MO_reach_103 : decode xc_MO_reach 103 = .ok (.ishl, 1) := by decide +kernel
theorem xd_MO_reach_104 : decode xc_MO_reach 104 = .ok (.goto 4, 3) := by decide +kernel
theorem xd_MO_reach_107 : decode xc_MO_reach 107 = .ok (.iconst 0, 1) := by decide +kernel
theorem xd_MO_reach_108 : decode xc_MO_reach 108 = .ok (.ior, 1) := by decide +kernel
theorem xd_MO_reach_109 : decode xc_MO_reach 109 = .ok (.istore 5, 2) := by decide +kernel
theorem xd_MO_reach_111 : decode xc_MO_reach 111 = .ok (.iinc 6 1, 3) := by decide +kernel
theorem xd_MO_reach_114 : decode xc_MO_reach 114 = .ok (.goto (-54), 3) := by decide +kernel
theorem xd_MO_reach_117 : decode xc_MO_reach 117 = .ok (.iload 5, 2) := by decide +kernel
theorem xd_MO_reach_119 : decode xc_MO_reach 119 = .ok (.ireturn, 1) := by decide +kernel
theorem xd_MO_lengths_0 : decode xc_MO_lengths 0 = .ok (.iconst 0, 1) := by decide +kernel
theorem xd_MO_lengths_1 : decode xc_MO_lengths 1 = .ok (.istore_n 3, 1) := by decide +kernel
theorem xd_MO_lengths_2 : decode xc_MO_lengths 2 = .ok (.iload_n 3, 1) := by decide +kernel
theorem xd_MO_lengths_3 : decode xc_MO_lengths 3 = .ok (.aload_n 0, 1) := by decide +kernel
theorem xd_MO_lengths_4 : decode xc_MO_lengths 4 = .ok (.getfield 23, 3) := by decide +kernel
theorem xd_MO_lengths_7 : decode xc_MO_lengths 7 = .ok (.iload_n 1, 1) := by decide +kernel
theorem xd_MO_lengths_8 : decode xc_MO_lengths 8 = .ok (.iaload, 1) := by decide +kernel
theorem xd_MO_lengths_9 : decode xc_MO_lengths 9 = .ok (.if_icmp .ge 26, 3) := by decide +kernel
theorem xd_MO_lengths_12 : decode xc_MO_lengths 12 = .ok (.aload_n 0, 1) := by decide +kernel
theorem xd_MO_lengths_13 : decode xc_MO_lengths 13 = .ok (.getfield 29, 3) := by decide +kernel
theorem xd_MO_lengths_16 : decode xc_MO_lengths 16 = .ok (.iload_n 3, 1) := by decide +kernel
theorem xd_MO_lengths_17 : decode xc_MO_lengths 17 = .ok (.aload_n 0, 1) := by decide +kernel
theorem xd_MO_lengths_18 : decode xc_MO_lengths 18 = .ok (.getfield 20, 3) := by decide +kernel
theorem xd_MO_lengths_21 : decode xc_MO_lengths 21 = .ok (.bipush 100, 2) := by decide +kernel
theorem xd_MO_lengths_23 : decode xc_MO_lengths 23 = .ok (.iload_n 1, 1) := by decide +kernel
theorem xd_MO_lengths_24 : decode xc_MO_lengths 24 = .ok (.imul, 1) := by decide +kernel
theorem xd_MO_lengths_25 : decode xc_MO_lengths 25 = .ok (.iload_n 3, 1) := by decide +kernel
theorem xd_MO_lengths_26 : decode xc_MO_lengths 26 = .ok (.iadd, 1) := by decide +kernel
theorem xd_MO_lengths_27 : decode xc_MO_lengths 27 = .ok (.iaload, 1) := by decide +kernel
theorem xd_MO_lengths_28 : decode xc_MO_lengths 28 = .ok (.iastore, 1) := by decide +kernel
theorem xd_MO_lengths_29 : decode xc_MO_lengths 29 = .ok (.iinc 3 1, 3) := by decide +kernel
theorem xd_MO_lengths_32 : decode xc_MO_lengths 32 = .ok (.goto (-30), 3) := by decide +kernel
theorem xd_MO_lengths_35 : decode xc_MO_lengths 35 = .ok (.aload_n 0, 1) := by decide +kernel
theorem xd_MO_lengths_36 : decode xc_MO_lengths 36 = .ok (.aload_n 0, 1) := by decide +kernel
theorem xd_MO_lengths_37 : decode xc_MO_lengths 37 = .ok (.getfield 23, 3) := by decide +kernel
theorem xd_MO_lengths_40 : decode xc_MO_lengths 40 = .ok (.iload_n 1, 1) := by decide +kernel
theorem xd_MO_lengths_41 : decode xc_MO_lengths 41 = .ok (.iaload, 1) := by decide +kernel
theorem xd_MO_lengths_42 : decode xc_MO_lengths 42 = .ok (.putfield 75, 3) := by decide +kernel
theorem xd_MO_lengths_45 : decode xc_MO_lengths 45 = .ok (.aload_n 0, 1) := by decide +kernel
theorem xd_MO_lengths_46 : decode xc_MO_lengths 46 = .ok (.iconst 1, 1) := by decide +kernel
theorem xd_MO_lengths_47 : decode xc_MO_lengths 47 = .ok (.invokevirtual 159, 3) := by decide +kernel
theorem xd_MO_lengths_50 : decode xc_MO_lengths 50 = .ok (.aload_n 0, 1) := by decide +kernel
theorem xd_MO_lengths_51 : decode xc_MO_lengths 51 = .ok (.invokevirtual 163, 3) := by decide +kernel
theorem xd_MO_lengths_54 : decode xc_MO_lengths 54 = .ok (.iconst 0, 1) := by decide +kernel
theorem xd_MO_lengths_55 : decode xc_MO_lengths 55 = .ok (.istore_n 3, 1) := by decide +kernel
theorem xd_MO_lengths_56 : decode xc_MO_lengths 56 = .ok (.iload_n 3, 1) := by decide +kernel
theorem xd_MO_lengths_57 : decode xc_MO_lengths 57 = .ok (.sipush 1024, 3) := by decide +kernel
theorem xd_MO_lengths_60 : decode xc_MO_lengths 60 = .ok (.if_icmp .ge 18, 3) := by decide +kernel
theorem xd_MO_lengths_63 : decode xc_MO_lengths 63 = .ok (.aload_n 2, 1) := by decide +kernel
theorem xd_MO_lengths_64 : decode xc_MO_lengths 64 = .ok (.iload_n 3, 1) := by decide +kernel
theorem xd_MO_lengths_65 : decode xc_MO_lengths 65 = .ok (.aload_n 0, 1) := by decide +kernel
theorem xd_MO_lengths_66 : decode xc_MO_lengths 66 = .ok (.getfield 33, 3) := by decide +kernel
theorem xd_MO_lengths_69 : decode xc_MO_lengths 69 = .ok (.iload_n 3, 1) := by decide +kernel
theorem xd_MO_lengths_70 : decode xc_MO_lengths 70 = .ok (.iaload, 1) := by decide +kernel
theorem xd_MO_lengths_71 : decode xc_MO_lengths 71 = .ok (.iastore, 1) := by decide +kernel
theorem xd_MO_lengths_72 : decode xc_MO_lengths 72 = .ok (.iinc 3 1, 3) := by decide +kernel
theorem xd_MO_lengths_75 : decode xc_MO_lengths 75 = .ok (.goto (-19), 3) := by decide +kernel
theorem xd_MO_lengths_78 : decode xc_MO_lengths 78 = .ok (.return_, 1) := by decide +kernel
theorem xd_MO_distance_0 : decode xc_MO_distance 0 = .ok (.iload_n 1, 1) := by decide +kernel
theorem xd_MO_distance_1 : decode xc_MO_distance 1 = .ok (.iconst 4, 1) := by decide +kernel
theorem xd_MO_distance_2 : decode xc_MO_distance 2 = .ok (.invokestatic 52, 3) := by decide +kernel
theorem xd_MO_distance_5 : decode xc_MO_distance 5 = .ok (.istore 4, 2) := by decide +kernel
theorem xd_MO_distance_7 : decode xc_MO_distance 7 = .ok (.aload_n 0, 1) := by decide +kernel
theorem xd_MO_distance_8 : decode xc_MO_distance 8 = .ok (.iload 4, 2) := by decide +kernel
theorem xd_MO_distance_10 : decode xc_MO_distance 10 = .ok (.ifCond .ne 7, 3) := by decide +kernel
theorem xd_MO_distance_13 : decode xc_MO_distance 13 = .ok (.iconst 1, 1) := by decide +kernel
theorem xd_MO_distance_14 : decode xc_MO_distance 14 = .ok (.goto 4, 3) := by decide +kernel
theorem xd_MO_distance_17 : decode xc_MO_distance 17 = .ok (.iconst 0, 1) := by decide +kernel
theorem xd_MO_distance_18 : decode xc_MO_distance 18 = .ok (.iload 4, 2) := by decide +kernel
theorem xd_MO_distance_20 : decode xc_MO_distance 20 = .ok (.ifCond .eq 25, 3) := by decide +kernel
theorem xd_MO_distance_23 : decode xc_MO_distance 23 = .ok (.iload_n 2, 1) := by decide +kernel
theorem xd_MO_distance_24 : decode xc_MO_distance 24 = .ok (.bipush 32, 2) := by decide +kernel
theorem xd_MO_distance_26 : decode xc_MO_distance 26 = .ok (.invokestatic 52, 3) := by decide +kernel
theorem xd_MO_distance_29 : decode xc_MO_distance 29 = .ok (.ifCond .eq 12, 3) := by decide +kernel
theorem xd_MO_distance_32 : decode xc_MO_distance 32 = .ok (.iload_n 3, 1) := by decide +kernel
theorem xd_MO_distance_33 : decode xc_MO_distance 33 = .ok (.bipush 32, 2) := by decide +kernel
theorem xd_MO_distance_35 : decode xc_MO_distance 35 = .ok (.invokestatic 52, 3) := by decide +kernel
theorem xd_MO_distance_38 : decode xc_MO_distance 38 = .ok (.ifCond .ne 7, 3) := by decide +kernel
theorem xd_MO_distance_41 : decode xc_MO_distance 41 = .ok (.iconst 1, 1) := by decide +kernel
theorem xd_MO_distance_42 : decode xc_MO_distance 42 = .ok (.goto 4, 3) := by decide +kernel
theorem xd_MO_distance_45 : decode xc_MO_distance 45 = .ok (.iconst 0, 1) := by decide +kernel
theorem xd_MO_distance_46 : decode xc_MO_distance 46 = .ok (.invokevirtual 56, 3) := by decide +kernel
theorem xd_MO_distance_49 : decode xc_MO_distance 49 = .ok (.ifCond .eq 5, 3) := by decide +kernel
theorem xd_MO_distance_52 : decode xc_MO_distance 52 = .ok (.iconst 0, 1) := by decide +kernel
theorem xd_MO_distance_53 : decode xc_MO_distance 53 = .ok (.ireturn, 1) := by decide +kernel
theorem xd_MO_distance_54 : decode xc_MO_distance 54 = .ok (.aload_n 0, 1) := by decide +kernel
theorem xd_MO_distance_55 : decode xc_MO_distance 55 = .ok (.iload_n 1, 1) := by decide +kernel
theorem xd_MO_distance_56 : decode xc_MO_distance 56 = .ok (.aload_n 0, 1) := by decide +kernel
theorem xd_MO_distance_57 : decode xc_MO_distance 57 = .ok (.getfield 42, 3) := by decide +kernel
theorem xd_MO_distance_60 : decode xc_MO_distance 60 = .ok (.invokevirtual 166, 3) := by decide +kernel
theorem xd_MO_distance_63 : decode xc_MO_distance 63 = .ok (.aload_n 0, 1) := by decide +kernel
theorem xd_MO_distance_64 : decode xc_MO_distance 64 = .ok (.getfield 42, 3) := by decide +kernel
theorem xd_MO_distance_67 : decode xc_MO_distance 67 = .ok (.bipush 32, 2) := by decide +kernel
theorem xd_MO_distance_69 : decode xc_MO_distance 69 = .ok (.iload_n 2, 1) := by decide +kernel
theorem xd_MO_distance_70 : decode xc_MO_distance 70 = .ok (.imul, 1) := by decide +kernel
theorem xd_MO_distance_71 : decode xc_MO_distance 71 = .ok (.iload_n 3, 1) := by decide +kernel
theorem xd_MO_distance_72 : decode xc_MO_distance 72 = .ok (.iadd, 1) := by decide +kernel
theorem xd_MO_distance_73 : decode xc_MO_distance 73 = .ok (.iaload, 1) := by decide +kernel
theorem xd_MO_distance_74 : decode xc_MO_distance 74 = .ok (.istore 5, 2) := by decide +kernel
theorem xd_MO_distance_76 : decode xc_MO_distance 76 = .ok (.iload 5, 2) := by decide +kernel
theorem xd_MO_distance_78 : decode xc_MO_distance 78 = .ok (.ldc 96, 2) := by decide +kernel
theorem xd_MO_distance_80 : decode xc_MO_distance 80 = .ok (.if_icmp .ne 7, 3) := by decide +kernel
theorem xd_MO_distance_83 : decode xc_MO_distance 83 = .ok (.iconst (-1), 1) := by decide +kernel
theorem xd_MO_distance_84 : decode xc_MO_distance 84 = .ok (.goto 5, 3) := by decide +kernel
theorem xd_MO_distance_87 : decode xc_MO_distance 87 = .ok (.iload 5, 2) := by decide +kernel
theorem xd_MO_distance_89 : decode xc_MO_distance 89 = .ok (.ireturn, 1) := by decide +kernel
theorem xd_MO_span_0 : decode xc_MO_span 0 = .ok (.aload_n 0, 1) := by decide +kernel
theorem xd_MO_span_1 : decode xc_MO_span 1 = .ok (.iload_n 1, 1) := by decide +kernel
theorem xd_MO_span_2 : decode xc_MO_span 2 = .ok (.iconst 4, 1) := by decide +kernel
theorem xd_MO_span_3 : decode xc_MO_span 3 = .ok (.invokestatic 52, 3) := by decide +kernel
theorem xd_MO_span_6 : decode xc_MO_span 6 = .ok (.ifCond .ne 7, 3) := by decide +kernel
theorem xd_MO_span_9 : decode xc_MO_span 9 = .ok (.iconst 1, 1) := by decide +kernel
theorem xd_MO_span_10 : decode xc_MO_span 10 = .ok (.goto 4, 3) := by decide +kernel
theorem xd_MO_span_13 : decode xc_MO_span 13 = .ok (.iconst 0, 1) := by decide +kernel
theorem xd_MO_span_14 : decode xc_MO_span 14 = .ok (.iconst 0, 1) := by decide +kernel
theorem xd_MO_span_15 : decode xc_MO_span 15 = .ok (.invokevirtual 56, 3) := by decide +kernel
theorem xd_MO_span_18 : decode xc_MO_span 18 = .ok (.ifCond .eq 5, 3) := by decide +kernel
theorem xd_MO_span_21 : decode xc_MO_span 21 = .ok (.iconst 0, 1) := by decide +kernel
theorem xd_MO_span_22 : decode xc_MO_span 22 = .ok (.ireturn, 1) := by decide +kernel
theorem xd_MO_span_23 : decode xc_MO_span 23 = .ok (.aload_n 0, 1) := by decide +kernel
theorem xd_MO_span_24 : decode xc_MO_span 24 = .ok (.iload_n 1, 1) := by decide +kernel
theorem xd_MO_span_25 : decode xc_MO_span 25 = .ok (.aload_n 0, 1) := by decide +kernel
theorem xd_MO_span_26 : decode xc_MO_span 26 = .ok (.getfield 42, 3) := by decide +kernel
theorem xd_MO_span_29 : decode xc_MO_span 29 = .ok (.invokevirtual 166, 3) := by decide +kernel
theorem xd_MO_span_32 : decode xc_MO_span 32 = .ok (.iconst (-1), 1) := by decide +kernel
theorem xd_MO_span_33 : decode xc_MO_span 33 = .ok (.istore_n 2, 1) := by decide +kernel
theorem xd_MO_span_34 : decode xc_MO_span 34 = .ok (.iconst 0, 1) := by decide +kernel
theorem xd_MO_span_35 : decode xc_MO_span 35 = .ok (.istore_n 3, 1) := by decide +kernel
theorem xd_MO_span_36 : decode xc_MO_span 36 = .ok (.iload_n 3, 1) := by decide +kernel
theorem xd_MO_span_37 : decode xc_MO_span 37 = .ok (.sipush 1024, 3) := by decide +kernel
theorem xd_MO_span_40 : decode xc_MO_span 40 = .ok (.if_icmp .ge 41, 3) := by decide +kernel
theorem xd_MO_span_43 : decode xc_MO_span 43 = .ok (.aload_n 0, 1) := by decide +kernel
theorem xd_MO_span_44 : decode xc_MO_span 44 = .ok (.getfield 42, 3) := by decide +kernel
theorem xd_MO_span_47 : decode xc_MO_span 47 = .ok (.iload_n 3, 1) := by decide +kernel
theorem xd_MO_span_48 : decode xc_MO_span 48 = .ok (.iaload, 1) := by decide +kernel
theorem xd_MO_span_49 : decode xc_MO_span 49 = .ok (.ldc 96, 2) := by decide +kernel
theorem xd_MO_span_51 : decode xc_MO_span 51 = .ok (.if_icmp .ge 22, 3) := by decide +kernel
theorem xd_MO_span_54 : decode xc_MO_span 54 = .ok (.aload_n 0, 1) := by decide +kernel
theorem xd_MO_span_55 : decode xc_MO_span 55 = .ok (.getfield 42, 3) := by decide +kernel
theorem xd_MO_span_58 : decode xc_MO_span 58 = .ok (.iload_n 3, 1) := by decide +kernel
theorem xd_MO_span_59 : decode xc_MO_span 59 = .ok (.iaload, 1) := by decide +kernel
theorem xd_MO_span_60 : decode xc_MO_span 60 = .ok (.iload_n 2, 1) := by decide +kernel
theorem xd_MO_span_61 : decode xc_MO_span 61 = .ok (.if_icmp .le 12, 3) := by decide +kernel
theorem xd_MO_span_64 : decode xc_MO_span 64 = .ok (.aload_n 0, 1) := by decide +kernel
theorem xd_MO_span_65 : decode xc_MO_span 65 = .ok (.getfield 42, 3) := by decide +kernel
theorem xd_MO_span_68 : decode xc_MO_span 68 = .ok (.iload_n 3, 1) := by decide +kernel
theorem xd_MO_span_69 : decode xc_MO_span 69 = .ok (.iaload, 1) := by decide +kernel
theorem xd_MO_span_70 : decode xc_MO_span 70 = .ok (.goto 4, 3) := by decide +kernel
theorem xd_MO_span_73 : decode xc_MO_span 73 = .ok (.iload_n 2, 1) := by decide +kernel
theorem xd_MO_span_74 : decode xc_MO_span 74 = .ok (.istore_n 2, 1) := by decide +kernel
theorem xd_MO_span_75 : decode xc_MO_span 75 = .ok (.iinc 3 1, 3) := by decide +kernel
theorem xd_MO_span_78 : decode xc_MO_span 78 = .ok (.goto (-42), 3) := by decide +kernel
theorem xd_MO_span_81 : decode xc_MO_span 81 = .ok (.iload_n 2, 1) := by decide +kernel
theorem xd_MO_span_82 : decode xc_MO_span 82 = .ok (.ireturn, 1) := by decide +kernel
theorem xd_MO_pairs_0 : decode xc_MO_pairs 0 = .ok (.iload_n 1, 1) := by decide +kernel
theorem xd_MO_pairs_1 : decode xc_MO_pairs 1 = .ok (.iconst 4, 1) := by decide +kernel
theorem xd_MO_pairs_2 : decode xc_MO_pairs 2 = .ok (.invokestatic 52, 3) := by decide +kernel
theorem xd_MO_pairs_5 : decode xc_MO_pairs 5 = .ok (.ifCond .eq 15, 3) := by decide +kernel
theorem xd_MO_pairs_8 : decode xc_MO_pairs 8 = .ok (.iload_n 2, 1) := by decide +kernel
theorem xd_MO_pairs_9 : decode xc_MO_pairs 9 = .ok (.iconst 4, 1) := by decide +kernel
theorem xd_MO_pairs_10 : decode xc_MO_pairs 10 = .ok (.invokestatic 52, 3) := by decide +kernel
theorem xd_MO_pairs_13 : decode xc_MO_pairs 13 = .ok (.ifCond .eq 7, 3) := by decide +kernel
theorem xd_MO_pairs_16 : decode xc_MO_pairs 16 = .ok (.iconst 1, 1) := by decide +kernel
theorem xd_MO_pairs_17 : decode xc_MO_pairs 17 = .ok (.goto 4, 3) := by decide +kernel
theorem xd_MO_pairs_20 : decode xc_MO_pairs 20 = .ok (.iconst 0, 1) := by decide +kernel
theorem xd_MO_pairs_21 : decode xc_MO_pairs 21 = .ok (.istore 4, 2) := by decide +kernel
theorem xd_MO_pairs_23 : decode xc_MO_pairs 23 = .ok (.aload_n 0, 1) := by decide +kernel
theorem xd_MO_pairs_24 : decode xc_MO_pairs 24 = .ok (.iload 4, 2) := by decide +kernel
theorem xd_MO_pairs_26 : decode xc_MO_pairs 26 = .ok (.ifCond .ne 7, 3) := by decide +kernel
theorem xd_MO_pairs_29 : decode xc_MO_pairs 29 = .ok (.iconst 1, 1) := by decide +kernel
theorem xd_MO_pairs_30 : decode xc_MO_pairs 30 = .ok (.goto 4, 3) := by decide +kernel
theorem xd_MO_pairs_33 : decode xc_MO_pairs 33 = .ok (.iconst 0, 1) := by decide +kernel
theorem xd_MO_pairs_34 : decode xc_MO_pairs 34 = .ok (.iload 4, 2) := by decide +kernel
theorem xd_MO_pairs_36 : decode xc_MO_pairs 36 = .ok (.ifCond .eq 15, 3) := by decide +kernel
theorem xd_MO_pairs_39 : decode xc_MO_pairs 39 = .ok (.iload_n 3, 1) := by decide +kernel
theorem xd_MO_pairs_40 : decode xc_MO_pairs 40 = .ok (.iconst 5, 1) := by decide +kernel
theorem xd_MO_pairs_41 : decode xc_MO_pairs 41 = .ok (.invokestatic 52, 3) := by decide +kernel
theorem xd_MO_pairs_44 : decode xc_MO_pairs 44 = .ok (.ifCond .ne 7, 3) := by decide +kernel
theorem xd_MO_pairs_47 : decode xc_MO_pairs 47 = .ok (.iconst 1, 1) := by decide +kernel
theorem xd_MO_pairs_48 : decode xc_MO_pairs 48 = .ok (.goto 4, 3) := by decide +kernel
theorem xd_MO_pairs_51 : decode xc_MO_pairs 51 = .ok (.iconst 0, 1) := by decide +kernel
theorem xd_MO_pairs_52 : decode xc_MO_pairs 52 = .ok (.invokevirtual 56, 3) := by decide +kernel
theorem xd_MO_pairs_55 : decode xc_MO_pairs 55 = .ok (.ifCond .eq 5, 3) := by decide +kernel
theorem xd_MO_pairs_58 : decode xc_MO_pairs 58 = .ok (.iconst 0, 1) := by decide +kernel
theorem xd_MO_pairs_59 : decode xc_MO_pairs 59 = .ok (.ireturn, 1) := by decide +kernel
theorem xd_MO_pairs_60 : decode xc_MO_pairs 60 = .ok (.aload_n 0, 1) := by decide +kernel
theorem xd_MO_pairs_61 : decode xc_MO_pairs 61 = .ok (.iload_n 1, 1) := by decide +kernel
theorem xd_MO_pairs_62 : decode xc_MO_pairs 62 = .ok (.aload_n 0, 1) := by decide +kernel
theorem xd_MO_pairs_63 : decode xc_MO_pairs 63 = .ok (.getfield 42, 3) := by decide +kernel
theorem xd_MO_pairs_66 : decode xc_MO_pairs 66 = .ok (.invokevirtual 166, 3) := by decide +kernel
theorem xd_MO_pairs_69 : decode xc_MO_pairs 69 = .ok (.aload_n 0, 1) := by decide +kernel
theorem xd_MO_pairs_70 : decode xc_MO_pairs 70 = .ok (.iload_n 2, 1) := by decide +kernel
theorem xd_MO_pairs_71 : decode xc_MO_pairs 71 = .ok (.aload_n 0, 1) := by decide +kernel
theorem xd_MO_pairs_72 : decode xc_MO_pairs 72 = .ok (.getfield 45, 3) := by decide +kernel
theorem xd_MO_pairs_75 : decode xc_MO_pairs 75 = .ok (.invokevirtual 166, 3) := by decide +kernel
theorem xd_MO_pairs_78 : decode xc_MO_pairs 78 = .ok (.aload_n 0, 1) := by decide +kernel
theorem xd_MO_pairs_79 : decode xc_MO_pairs 79 = .ok (.iconst 1, 1) := by decide +kernel
theorem xd_MO_pairs_80 : decode xc_MO_pairs 80 = .ok (.putfield 92, 3) := by decide +kernel
theorem xd_MO_pairs_83 : decode xc_MO_pairs 83 = .ok (.iconst 0, 1) := by decide +kernel
theorem xd_MO_pairs_84 : decode xc_MO_pairs 84 = .ok (.istore 5, 2) := by decide +kernel
theorem xd_MO_pairs_86 : decode xc_MO_pairs 86 = .ok (.iload 5, 2) := by decide +kernel
theorem xd_MO_pairs_88 : decode xc_MO_pairs 88 = .ok (.sipush 1024, 3) := by decide +kernel
theorem xd_MO_pairs_91 : decode xc_MO_pairs 91 = .ok (.if_icmp .ge 41, 3) := by decide +kernel
theorem xd_MO_pairs_94 : decode xc_MO_pairs 94 = .ok (.aload_n 0, 1) := by decide +kernel
theorem xd_MO_pairs_95 : decode xc_MO_pairs 95 = .ok (.getfield 33, 3) := by decide +kernel
theorem xd_MO_pairs_98 : decode xc_MO_pairs 98 = .ok (.iload 5, 2) := by decide +kernel
theorem xd_MO_pairs_100 : decode xc_MO_pairs 100 = .ok (.aload_n 0, 1) := by decide +kernel
theorem xd_MO_pairs_101 : decode xc_MO_pairs 101 = .ok (.getfield 42, 3) := by decide +kernel
theorem xd_MO_pairs_104 : decode xc_MO_pairs 104 = .ok (.iload 5, 2) := by decide +kernel
theorem xd_MO_pairs_106 : decode xc_MO_pairs 106 = .ok (.iaload, 1) := by decide +kernel
theorem xd_MO_pairs_107 : decode xc_MO_pairs 107 = .ok (.iastore, 1) := by decide +kernel
theorem xd_MO_pairs_108 : decode xc_MO_pairs 108 = .ok (.aload_n 0, 1) := by decide +kernel
theorem xd_MO_pairs_109 : decode xc_MO_pairs 109 = .ok (.getfield 33, 3) := by decide +kernel
theorem xd_MO_pairs_112 : decode xc_MO_pairs 112 = .ok (.sipush 1024, 3) := by decide +kernel
theorem xd_MO_pairs_115 : decode xc_MO_pairs 115 = .ok (.iload 5, 2) := by decide +kernel
theorem xd_MO_pairs_117 : decode xc_MO_pairs 117 = .ok (.iadd, 1) := by decide +kernel
theorem xd_MO_pairs_118 : decode xc_MO_pairs 118 = .ok (.aload_n 0, 1) := by decide +kernel
theorem xd_MO_pairs_119 : decode xc_MO_pairs 119 = .ok (.getfield 45, 3) := by decide +kernel
theorem xd_MO_pairs_122 : decode xc_MO_pairs 122 = .ok (.iload 5, 2) := by decide +kernel
theorem xd_MO_pairs_124 : decode xc_MO_pairs 124 = .ok (.iaload, 1) := by decide +kernel
theorem xd_MO_pairs_125 : decode xc_MO_pairs 125 = .ok (.iastore, 1) := by decide +kernel
theorem xd_MO_pairs_126 : decode xc_MO_pairs 126 = .ok (.iinc 5 1, 3) := by decide +kernel
theorem xd_MO_pairs_129 : decode xc_MO_pairs 129 = .ok (.goto (-43), 3) := by decide +kernel
theorem xd_MO_pairs_132 : decode xc_MO_pairs 132 = .ok (.aload_n 0, 1) := by decide +kernel
theorem xd_MO_pairs_133 : decode xc_MO_pairs 133 = .ok (.iconst 0, 1) := by decide +kernel
theorem xd_MO_pairs_134 : decode xc_MO_pairs 134 = .ok (.iconst 1, 1) := by decide +kernel
theorem xd_MO_pairs_135 : decode xc_MO_pairs 135 = .ok (.invokevirtual 152, 3) := by decide +kernel
theorem xd_MO_pairs_138 : decode xc_MO_pairs 138 = .ok (.iconst 0, 1) := by decide +kernel
theorem xd_MO_pairs_139 : decode xc_MO_pairs 139 = .ok (.istore 5, 2) := by decide +kernel
theorem xd_MO_pairs_141 : decode xc_MO_pairs 141 = .ok (.iconst 0, 1) := by decide +kernel
theorem xd_MO_pairs_142 : decode xc_MO_pairs 142 = .ok (.istore 6, 2) := by decide +kernel
theorem xd_MO_pairs_144 : decode xc_MO_pairs 144 = .ok (.iload 6, 2) := by decide +kernel
theorem xd_MO_pairs_146 : decode xc_MO_pairs 146 = .ok (.sipush 1024, 3) := by decide +kernel
theorem xd_MO_pairs_149 : decode xc_MO_pairs 149 = .ok (.if_icmp .ge 123, 3) := by decide +kernel
theorem xd_MO_pairs_152 : decode xc_MO_pairs 152 = .ok (.aload_n 0, 1) := by decide +kernel
theorem xd_MO_pairs_153 : decode xc_MO_pairs 153 = .ok (.getfield 42, 3) := by decide +kernel
theorem xd_MO_pairs_156 : decode xc_MO_pairs 156 = .ok (.iload 6, 2) := by decide +kernel
theorem xd_MO_pairs_158 : decode xc_MO_pairs 158 = .ok (.iaload, 1) := by decide +kernel
theorem xd_MO_pairs_159 : decode xc_MO_pairs 159 = .ok (.ldc 96, 2) := by decide +kernel
theorem xd_MO_pairs_161 : decode xc_MO_pairs 161 = .ok (.if_icmp .ge 7, 3) := by decide +kernel
theorem xd_MO_pairs_164 : decode xc_MO_pairs 164 = .ok (.iconst 1, 1) := by decide +kernel
theorem xd_MO_pairs_165 : decode xc_MO_pairs 165 = .ok (.goto 4, 3) := by decide +kernel
theorem xd_MO_pairs_168 : decode xc_MO_pairs 168 = .ok (.iconst 0, 1) := by decide +kernel
theorem xd_MO_pairs_169 : decode xc_MO_pairs 169 = .ok (.istore 7, 2) := by decide +kernel
theorem xd_MO_pairs_171 : decode xc_MO_pairs 171 = .ok (.aload_n 0, 1) := by decide +kernel
theorem xd_MO_pairs_172 : decode xc_MO_pairs 172 = .ok (.getfield 45, 3) := by decide +kernel
theorem xd_MO_pairs_175 : decode xc_MO_pairs 175 = .ok (.iload_n 3, 1) := by decide +kernel
theorem xd_MO_pairs_176 : decode xc_MO_pairs 176 = .ok (.iconst 3, 1) := by decide +kernel
theorem xd_MO_pairs_177 : decode xc_MO_pairs 177 = .ok (.if_icmp .ne 20, 3) := by decide +kernel
theorem xd_MO_pairs_180 : decode xc_MO_pairs 180 = .ok (.bipush 32, 2) := by decide +kernel
theorem xd_MO_pairs_182 : decode xc_MO_pairs 182 = .ok (.iload 6, 2) := by decide +kernel
theorem xd_MO_pairs_184 : decode xc_MO_pairs 184 = .ok (.bipush 32, 2) := by decide +kernel
theorem xd_MO_pairs_186 : decode xc_MO_pairs 186 = .ok (.irem, 1) := by decide +kernel
theorem xd_MO_pairs_187 : decode xc_MO_pairs 187 = .ok (.imul, 1) := by decide +kernel
theorem xd_MO_pairs_188 : decode xc_MO_pairs 188 = .ok (.iload 6, 2) := by decide +kernel
theorem xd_MO_pairs_190 : decode xc_MO_pairs 190 = .ok (.bipush 32, 2) := by decide +kernel
theorem xd_MO_pairs_192 : decode xc_MO_pairs 192 = .ok (.idiv, 1) := by decide +kernel
theorem xd_MO_pairs_193 : decode xc_MO_pairs 193 = .ok (.iadd, 1) := by decide +kernel
theorem xd_MO_pairs_194 : decode xc_MO_pairs 194 = .ok (.goto 5, 3) := by decide +kernel
theorem xd_MO_pairs_197 : decode xc_MO_pairs 197 = .ok (.iload 6, 2) := by decide +kernel
theorem xd_MO_pairs_199 : decode xc_MO_pairs 199 = .ok (.iaload, 1) := by decide +kernel
theorem xd_MO_pairs_200 : decode xc_MO_pairs 200 = .ok (.ldc 96, 2) := by decide +kernel
theorem xd_MO_pairs_202 : decode xc_MO_pairs 202 = .ok (.if_icmp .ge 7, 3) := by decide +kernel
theorem xd_MO_pairs_205 : decode xc_MO_pairs 205 = .ok (.iconst 1, 1) := by decide +kernel
theorem xd_MO_pairs_206 : decode xc_MO_pairs 206 = .ok (.goto 4, 3) := by decide +kernel
theorem xd_MO_pairs_209 : decode xc_MO_pairs 209 = .ok (.iconst 0, 1) := by decide +kernel
theorem xd_MO_pairs_210 : decode xc_MO_pairs 210 = .ok (.istore 8, 2) := by decide +kernel
theorem xd_MO_pairs_212 : decode xc_MO_pairs 212 = .ok (.iload 5, 2) := by decide +kernel
theorem xd_MO_pairs_214 : decode xc_MO_pairs 214 = .ok (.iload_n 3, 1) := by decide +kernel
theorem xd_MO_pairs_215 : decode xc_MO_pairs 215 = .ok (.iconst 4, 1) := by decide +kernel
theorem xd_MO_pairs_216 : decode xc_MO_pairs 216 = .ok (.if_icmp .ne 18, 3) := by decide +kernel
theorem xd_MO_pairs_219 : decode xc_MO_pairs 219 = .ok (.aload_n 0, 1) := by decide +kernel
theorem xd_MO_pairs_220 : decode xc_MO_pairs 220 = .ok (.getfield 33, 3) := by decide +kernel
theorem xd_MO_pairs_223 : decode xc_MO_pairs 223 = .ok (.iload 6, 2) := by decide +kernel
theorem xd_MO_pairs_225 : decode xc_MO_pairs 225 = .ok (.iaload, 1) := by decide +kernel
theorem xd_MO_pairs_226 : decode xc_MO_pairs 226 = .ok (.ldc 96, 2) := by decide +kernel
theorem xd_MO_pairs_228 : decode xc_MO_pairs 228 = .ok (.if_icmp .ge 34, 3) := by decide +kernel
theorem xd_MO_pairs_231 : decode xc_MO_pairs 231 = .ok (.goto 27, 3) := by decide +kernel
theorem xd_MO_pairs_234 : decode xc_MO_pairs 234 = .ok (.iload 7, 2) := by decide +kernel
theorem xd_MO_pairs_236 : decode xc_MO_pairs 236 = .ok (.ifCond .eq 26, 3) := by decide +kernel
theorem xd_MO_pairs_239 : decode xc_MO_pairs 239 = .ok (.iload_n 3, 1) := by decide +kernel
theorem xd_MO_pairs_240 : decode xc_MO_pairs 240 = .ok (.ifCond .eq 18, 3) := by decide +kernel
theorem xd_MO_pairs_243 : decode xc_MO_pairs 243 = .ok (.iload 8, 2) := by decide +kernel
theorem xd_MO_pairs_245 : decode xc_MO_pairs 245 = .ok (.iload_n 3, 1) := by decide +kernel
theorem xd_MO_pairs_246 : decode xc_MO_pairs 246 = .ok (.iconst 2, 1) := by decide +kernel
theorem xd_MO_pairs_247 : decode xc_MO_pairs 247 = .ok (.if_icmp .eq 7, 3) := by decide +kernel
theorem xd_MO_pairs_250 : decode xc_MO_pairs 250 = .ok (.iconst 1, 1) := by decide +kernel
theorem xd_MO_pairs_251 : decode xc_MO_pairs 251 = .ok (.goto 4, 3) := by decide +kernel
theorem xd_MO_pairs_254 : decode xc_MO_pairs 254 = .ok (.iconst 0, 1) := by decide +kernel
theorem xd_MO_pairs_255 : decode xc_MO_pairs 255 = .ok (.if_icmp .ne 7, 3) := by decide +kernel
theorem xd_MO_pairs_258 : decode xc_MO_pairs 258 = .ok (.iconst 1, 1) := by decide +kernel
theorem xd_MO_pairs_259 : decode xc_MO_pairs 259 = .ok (.goto 4, 3) := by decide +kernel
theorem xd_MO_pairs_262 : decode xc_MO_pairs 262 = .ok (.iconst 0, 1) := by decide +kernel
theorem xd_MO_pairs_263 : decode xc_MO_pairs 263 = .ok (.iadd, 1) := by decide +kernel
theorem xd_MO_pairs_264 : decode xc_MO_pairs 264 = .ok (.istore 5, 2) := by decide +kernel
theorem xd_MO_pairs_266 : decode xc_MO_pairs 266 = .ok (.iinc 6 1, 3) := by decide +kernel
theorem xd_MO_pairs_269 : decode xc_MO_pairs 269 = .ok (.goto (-125), 3) := by decide +kernel
theorem xd_MO_pairs_272 : decode xc_MO_pairs 272 = .ok (.iload 5, 2) := by decide +kernel
theorem xd_MO_pairs_274 : decode xc_MO_pairs 274 = .ok (.ireturn, 1) := by decide +kernel
theorem xd_MO_circle_0 : decode xc_MO_circle 0 = .ok (.aload_n 0, 1) := by decide +kernel
theorem xd_MO_circle_1 : decode xc_MO_circle 1 = .ok (.iload_n 1, 1) := by decide +kernel
theorem xd_MO_circle_2 : decode xc_MO_circle 2 = .ok (.iconst 4, 1) := by decide +kernel
theorem xd_MO_circle_3 : decode xc_MO_circle 3 = .ok (.invokestatic 52, 3) := by decide +kernel
theorem xd_MO_circle_6 : decode xc_MO_circle 6 = .ok (.ifCond .ne 7, 3) := by decide +kernel
theorem xd_MO_circle_9 : decode xc_MO_circle 9 = .ok (.iconst 1, 1) := by decide +kernel
theorem xd_MO_circle_10 : decode xc_MO_circle 10 = .ok (.goto 4, 3) := by decide +kernel
theorem xd_MO_circle_13 : decode xc_MO_circle 13 = .ok (.iconst 0, 1) := by decide +kernel
theorem xd_MO_circle_14 : decode xc_MO_circle 14 = .ok (.iconst 0, 1) := by decide +kernel
theorem xd_MO_circle_15 : decode xc_MO_circle 15 = .ok (.invokevirtual 56, 3) := by decide +kernel
theorem xd_MO_circle_18 : decode xc_MO_circle 18 = .ok (.ifCond .eq 5, 3) := by decide +kernel
theorem xd_MO_circle_21 : decode xc_MO_circle 21 = .ok (.iconst 0, 1) := by decide +kernel
theorem xd_MO_circle_22 : decode xc_MO_circle 22 = .ok (.ireturn, 1) := by decide +kernel
theorem xd_MO_circle_23 : decode xc_MO_circle 23 = .ok (.aload_n 0, 1) := by decide +kernel
theorem xd_MO_circle_24 : decode xc_MO_circle 24 = .ok (.iload_n 1, 1) := by decide +kernel
theorem xd_MO_circle_25 : decode xc_MO_circle 25 = .ok (.aload_n 0, 1) := by decide +kernel
theorem xd_MO_circle_26 : decode xc_MO_circle 26 = .ok (.getfield 42, 3) := by decide +kernel
theorem xd_MO_circle_29 : decode xc_MO_circle 29 = .ok (.invokevirtual 166, 3) := by decide +kernel
theorem xd_MO_circle_32 : decode xc_MO_circle 32 = .ok (.iconst 0, 1) := by decide +kernel
theorem xd_MO_circle_33 : decode xc_MO_circle 33 = .ok (.istore_n 2, 1) := by decide +kernel
theorem xd_MO_circle_34 : decode xc_MO_circle 34 = .ok (.iload_n 2, 1) := by decide +kernel
theorem xd_MO_circle_35 : decode xc_MO_circle 35 = .ok (.bipush 32, 2) := by decide +kernel
theorem xd_MO_circle_37 : decode xc_MO_circle 37 = .ok (.if_icmp .ge 25, 3) := by decide +kernel
theorem xd_MO_circle_40 : decode xc_MO_circle 40 = .ok (.aload_n 0, 1) := by decide +kernel
theorem xd_MO_circle_41 : decode xc_MO_circle 41 = .ok (.getfield 42, 3) := by decide +kernel
theorem xd_MO_circle_44 : decode xc_MO_circle 44 = .ok (.iload_n 2, 1) := by decide +kernel
theorem xd_MO_circle_45 : decode xc_MO_circle 45 = .ok (.bipush 33, 2) := by decide +kernel
theorem xd_MO_circle_47 : decode xc_MO_circle 47 = .ok (.imul, 1) := by decide +kernel
theorem xd_MO_circle_48 : decode xc_MO_circle 48 = .ok (.iaload, 1) := by decide +kernel
theorem xd_MO_circle_49 : decode xc_MO_circle 49 = .ok (.ldc 96, 2) := by decide +kernel
theorem xd_MO_circle_51 : decode xc_MO_circle 51 = .ok (.if_icmp .ge 5, 3) := by decide +kernel
theorem xd_MO_circle_54 : decode xc_MO_circle 54 = .ok (.iload_n 2, 1) := by decide +kernel
theorem xd_MO_circle_55 : decode xc_MO_circle 55 = .ok (.ireturn, 1) := by decide +kernel
theorem xd_MO_circle_56 : decode xc_MO_circle 56 = .ok (.iinc 2 1, 3) := by decide +kernel
theorem xd_MO_circle_59 : decode xc_MO_circle 59 = .ok (.goto (-25), 3) := by decide +kernel
theorem xd_MO_circle_62 : decode xc_MO_circle 62 = .ok (.iconst (-1), 1) := by decide +kernel
theorem xd_MO_circle_63 : decode xc_MO_circle 63 = .ok (.ireturn, 1) := by decide +kernel
theorem xd_MO_best_0 : decode xc_MO_best 0 = .ok (.aload_n 0, 1) := by decide +kernel
theorem xd_MO_best_1 : decode xc_MO_best 1 = .ok (.iload_n 1, 1) := by decide +kernel
theorem xd_MO_best_2 : decode xc_MO_best 2 = .ok (.iconst 4, 1) := by decide +kernel
theorem xd_MO_best_3 : decode xc_MO_best 3 = .ok (.invokestatic 52, 3) := by decide +kernel
theorem xd_MO_best_6 : decode xc_MO_best 6 = .ok (.ifCond .ne 7, 3) := by decide +kernel
theorem xd_MO_best_9 : decode xc_MO_best 9 = .ok (.iconst 1, 1) := by decide +kernel
theorem xd_MO_best_10 : decode xc_MO_best 10 = .ok (.goto 4, 3) := by decide +kernel
theorem xd_MO_best_13 : decode xc_MO_best 13 = .ok (.iconst 0, 1) := by decide +kernel
theorem xd_MO_best_14 : decode xc_MO_best 14 = .ok (.iconst 0, 1) := by decide +kernel
theorem xd_MO_best_15 : decode xc_MO_best 15 = .ok (.invokevirtual 56, 3) := by decide +kernel
theorem xd_MO_best_18 : decode xc_MO_best 18 = .ok (.ifCond .eq 5, 3) := by decide +kernel
theorem xd_MO_best_21 : decode xc_MO_best 21 = .ok (.iconst 0, 1) := by decide +kernel
theorem xd_MO_best_22 : decode xc_MO_best 22 = .ok (.ireturn, 1) := by decide +kernel
theorem xd_MO_best_23 : decode xc_MO_best 23 = .ok (.aload_n 0, 1) := by decide +kernel
theorem xd_MO_best_24 : decode xc_MO_best 24 = .ok (.iload_n 1, 1) := by decide +kernel
theorem xd_MO_best_25 : decode xc_MO_best 25 = .ok (.aload_n 0, 1) := by decide +kernel
theorem xd_MO_best_26 : decode xc_MO_best 26 = .ok (.getfield 42, 3) := by decide +kernel
theorem xd_MO_best_29 : decode xc_MO_best 29 = .ok (.invokevirtual 166, 3) := by decide +kernel
theorem xd_MO_best_32 : decode xc_MO_best 32 = .ok (.iconst (-1), 1) := by decide +kernel
theorem xd_MO_best_33 : decode xc_MO_best 33 = .ok (.istore_n 2, 1) := by decide +kernel
theorem xd_MO_best_34 : decode xc_MO_best 34 = .ok (.iconst 0, 1) := by decide +kernel
theorem xd_MO_best_35 : decode xc_MO_best 35 = .ok (.istore_n 3, 1) := by decide +kernel
theorem xd_MO_best_36 : decode xc_MO_best 36 = .ok (.iconst 0, 1) := by decide +kernel
theorem xd_MO_best_37 : decode xc_MO_best 37 = .ok (.istore 4, 2) := by decide +kernel
theorem xd_MO_best_39 : decode xc_MO_best 39 = .ok (.iload 4, 2) := by decide +kernel
theorem xd_MO_best_41 : decode xc_MO_best 41 = .ok (.bipush 32, 2) := by decide +kernel
theorem xd_MO_best_43 : decode xc_MO_best 43 = .ok (.if_icmp .ge 71, 3) := by decide +kernel
theorem xd_MO_best_46 : decode xc_MO_best 46 = .ok (.iconst 0, 1) := by decide +kernel
theorem xd_MO_best_47 : decode xc_MO_best 47 = .ok (.istore 5, 2) := by decide +kernel
theorem xd_MO_best_49 : decode xc_MO_best 49 = .ok (.iconst 0, 1) := by decide +kernel
theorem xd_MO_best_50 : decode xc_MO_best 50 = .ok (.istore 6, 2) := by decide +kernel
theorem xd_MO_best_52 : decode xc_MO_best 52 = .ok (.iload 6, 2) := by decide +kernel
theorem xd_MO_best_54 : decode xc_MO_best 54 = .ok (.bipush 32, 2) := by decide +kernel
theorem xd_MO_best_56 : decode xc_MO_best 56 = .ok (.if_icmp .ge 37, 3) := by decide +kernel
theorem xd_MO_best_59 : decode xc_MO_best 59 = .ok (.iload 5, 2) := by decide +kernel
theorem xd_MO_best_61 : decode xc_MO_best 61 = .ok (.aload_n 0, 1) := by decide +kernel
theorem xd_MO_best_62 : decode xc_MO_best 62 = .ok (.getfield 42, 3) := by decide +kernel
theorem xd_MO_best_65 : decode xc_MO_best 65 = .ok (.bipush 32, 2) := by decide +kernel
theorem xd_MO_best_67 : decode xc_MO_best 67 = .ok (.iload 4, 2) := by decide +kernel
theorem xd_MO_best_69 : decode xc_MO_best 69 = .ok (.imul, 1) := by decide +kernel
theorem xd_MO_best_70 : decode xc_MO_best 70 = .ok (.iload 6, 2) := by decide +kernel
theorem xd_MO_best_72 : decode xc_MO_best 72 = .ok (.iadd, 1) := by decide +kernel
theorem xd_MO_best_73 : decode xc_MO_best 73 = .ok (.iaload, 1) := by decide +kernel
theorem xd_MO_best_74 : decode xc_MO_best 74 = .ok (.ldc 96, 2) := by decide +kernel
theorem xd_MO_best_76 : decode xc_MO_best 76 = .ok (.if_icmp .ge 7, 3) := by decide +kernel
theorem xd_MO_best_79 : decode xc_MO_best 79 = .ok (.iconst 1, 1) := by decide +kernel
theorem xd_MO_best_80 : decode xc_MO_best 80 = .ok (.goto 4, 3) := by decide +kernel
theorem xd_MO_best_83 : decode xc_MO_best 83 = .ok (.iconst 0, 1) := by decide +kernel
theorem xd_MO_best_84 : decode xc_MO_best 84 = .ok (.iadd, 1) := by decide +kernel
theorem xd_MO_best_85 : decode xc_MO_best 85 = .ok (.istore 5, 2) := by decide +kernel
theorem xd_MO_best_87 : decode xc_MO_best 87 = .ok (.iinc 6 1, 3) := by decide +kernel
theorem xd_MO_best_90 : decode xc_MO_best 90 = .ok (.goto (-38), 3) := by decide +kernel
theorem xd_MO_best_93 : decode xc_MO_best 93 = .ok (.iload 5, 2) := by decide +kernel
theorem xd_MO_best_95 : decode xc_MO_best 95 = .ok (.iload_n 3, 1) := by decide +kernel
theorem xd_MO_best_96 : decode xc_MO_best 96 = .ok (.if_icmp .gt 6, 3) := by decide +kernel
theorem xd_MO_best_99 : decode xc_MO_best 99 = .ok (.goto 9, 3) := by decide +kernel
theorem xd_MO_best_102 : decode xc_MO_best 102 = .ok (.iload 5, 2) := by decide +kernel
theorem xd_MO_best_104 : decode xc_MO_best 104 = .ok (.istore_n 3, 1) := by decide +kernel
theorem xd_MO_best_105 : decode xc_MO_best 105 = .ok (.iload 4, 2) := by decide +kernel
theorem xd_MO_best_107 : decode xc_MO_best 107 = .ok (.istore_n 2, 1) := by decide +kernel
theorem xd_MO_best_108 : decode xc_MO_best 108 = .ok (.iinc 4 1, 3) := by decide +kernel
theorem xd_MO_best_111 : decode xc_MO_best 111 = .ok (.goto (-72), 3) := by decide +kernel
theorem xd_MO_best_114 : decode xc_MO_best 114 = .ok (.iload_n 2, 1) := by decide +kernel
theorem xd_MO_best_115 : decode xc_MO_best 115 = .ok (.ireturn, 1) := by decide +kernel
theorem xd_MO_count_0 : decode xc_MO_count 0 = .ok (.aload_n 0, 1) := by decide +kernel
theorem xd_MO_count_1 : decode xc_MO_count 1 = .ok (.iconst 0, 1) := by decide +kernel
theorem xd_MO_count_2 : decode xc_MO_count 2 = .ok (.putfield 48, 3) := by decide +kernel
theorem xd_MO_count_5 : decode xc_MO_count 5 = .ok (.iconst 0, 1) := by decide +kernel
theorem xd_MO_count_6 : decode xc_MO_count 6 = .ok (.istore_n 2, 1) := by decide +kernel
theorem xd_MO_count_7 : decode xc_MO_count 7 = .ok (.iload_n 1, 1) := by decide +kernel
theorem xd_MO_count_8 : decode xc_MO_count 8 = .ok (.ifCond .ne 8, 3) := by decide +kernel
theorem xd_MO_count_11 : decode xc_MO_count 11 = .ok (.aload_n 0, 1) := by decide +kernel
theorem xd_MO_count_12 : decode xc_MO_count 12 = .ok (.getfield 64, 3) := by decide +kernel
theorem xd_MO_count_15 : decode xc_MO_count 15 = .ok (.ireturn, 1) := by decide +kernel
theorem xd_MO_count_16 : decode xc_MO_count 16 = .ok (.iload_n 1, 1) := by decide +kernel
theorem xd_MO_count_17 : decode xc_MO_count 17 = .ok (.iconst 1, 1) := by decide +kernel
theorem xd_MO_count_18 : decode xc_MO_count 18 = .ok (.if_icmp .ne 8, 3) := by decide +kernel
theorem xd_MO_count_21 : decode xc_MO_count 21 = .ok (.aload_n 0, 1) := by decide +kernel
theorem xd_MO_count_22 : decode xc_MO_count 22 = .ok (.getfield 67, 3) := by decide +kernel
theorem xd_MO_count_25 : decode xc_MO_count 25 = .ok (.ireturn, 1) := by decide +kernel
theorem xd_MO_count_26 : decode xc_MO_count 26 = .ok (.iload_n 1, 1) := by decide +kernel
theorem xd_MO_count_27 : decode xc_MO_count 27 = .ok (.iconst 2, 1) := by decide +kernel
theorem xd_MO_count_28 : decode xc_MO_count 28 = .ok (.isub, 1) := by decide +kernel
theorem xd_MO_count_29 : decode xc_MO_count 29 = .ok (.iconst 4, 1) := by decide +kernel
theorem xd_MO_count_30 : decode xc_MO_count 30 = .ok (.invokestatic 52, 3) := by decide +kernel
theorem xd_MO_count_33 : decode xc_MO_count 33 = .ok (.ifCond .eq 12, 3) := by decide +kernel
theorem xd_MO_count_36 : decode xc_MO_count 36 = .ok (.aload_n 0, 1) := by decide +kernel
theorem xd_MO_count_37 : decode xc_MO_count 37 = .ok (.getfield 26, 3) := by decide +kernel
theorem xd_MO_count_40 : decode xc_MO_count 40 = .ok (.iload_n 1, 1) := by decide +kernel
theorem xd_MO_count_41 : decode xc_MO_count 41 = .ok (.iconst 2, 1) := by decide +kernel
theorem xd_MO_count_42 : decode xc_MO_count 42 = .ok (.isub, 1) := by decide +kernel
theorem xd_MO_count_43 : decode xc_MO_count 43 = .ok (.iaload, 1) := by decide +kernel
theorem xd_MO_count_44 : decode xc_MO_count 44 = .ok (.ireturn, 1) := by decide +kernel
theorem xd_MO_count_45 : decode xc_MO_count 45 = .ok (.iconst 0, 1) := by decide +kernel
theorem xd_MO_count_46 : decode xc_MO_count 46 = .ok (.istore_n 3, 1) := by decide +kernel
theorem xd_MO_count_47 : decode xc_MO_count 47 = .ok (.iload_n 3, 1) := by decide +kernel
theorem xd_MO_count_48 : decode xc_MO_count 48 = .ok (.sipush 1024, 3) := by decide +kernel
theorem xd_MO_count_51 : decode xc_MO_count 51 = .ok (.if_icmp .ge 47, 3) := by decide +kernel
theorem xd_MO_count_54 : decode xc_MO_count 54 = .ok (.iload_n 1, 1) := by decide +kernel
theorem xd_MO_count_55 : decode xc_MO_count 55 = .ok (.bipush 6, 2) := by decide +kernel
theorem xd_MO_count_57 : decode xc_MO_count 57 = .ok (.isub, 1) := by decide +kernel
theorem xd_MO_count_58 : decode xc_MO_count 58 = .ok (.bipush 8, 2) := by decide +kernel
theorem xd_MO_count_60 : decode xc_MO_count 60 = .ok (.invokestatic 52, 3) := by decide +kernel
theorem xd_MO_count_63 : decode xc_MO_count 63 = .ok (.ifCond .eq 35, 3) := by decide +kernel
theorem xd_MO_count_66 : decode xc_MO_count 66 = .ok (.iload_n 2, 1) := by decide +kernel
theorem xd_MO_count_67 : decode xc_MO_count 67 = .ok (.aload_n 0, 1) := by decide +kernel
theorem xd_MO_count_68 : decode xc_MO_count 68 = .ok (.getfield 7, 3) := by decide +kernel
theorem xd_MO_count_71 : decode xc_MO_count 71 = .ok (.sipush 1024, 3) := by decide +kernel
theorem xd_MO_count_74 : decode xc_MO_count 74 = .ok (.iload_n 1, 1) := by decide +kernel
theorem xd_MO_count_75 : decode xc_MO_count 75 = .ok (.bipush 6, 2) := by decide +kernel
theorem xd_MO_count_77 : decode xc_MO_count 77 = .ok (.isub, 1) := by decide +kernel
theorem xd_MO_count_78 : decode xc_MO_count 78 = .ok (.imul, 1) := by decide +kernel
theorem xd_MO_count_79 : decode xc_MO_count 79 = .ok (.iload_n 3, 1) := by decide +kernel
theorem xd_MO_count_80 : decode xc_MO_count 80 = .ok (.iadd, 1) := by decide +kernel
theorem xd_MO_count_81 : decode xc_MO_count 81 = .ok (.baload, 1) := by decide +kernel
theorem xd_MO_count_82 : decode xc_MO_count 82 = .ok (.ifCond .eq 7, 3) := by decide +kernel
theorem xd_MO_count_85 : decode xc_MO_count 85 = .ok (.iconst 1, 1) := by decide +kernel
theorem xd_MO_count_86 : decode xc_MO_count 86 = .ok (.goto 4, 3) := by decide +kernel
theorem xd_MO_count_89 : decode xc_MO_count 89 = .ok (.iconst 0, 1) := by decide +kernel
theorem xd_MO_count_90 : decode xc_MO_count 90 = .ok (.iadd, 1) := by decide +kernel
theorem xd_MO_count_91 : decode xc_MO_count 91 = .ok (.istore_n 2, 1) := by decide +kernel
theorem xd_MO_count_92 : decode xc_MO_count 92 = .ok (.iinc 3 1, 3) := by decide +kernel
theorem xd_MO_count_95 : decode xc_MO_count 95 = .ok (.goto (-48), 3) := by decide +kernel
theorem xd_MO_count_98 : decode xc_MO_count 98 = .ok (.iconst 0, 1) := by decide +kernel
theorem xd_MO_count_99 : decode xc_MO_count 99 = .ok (.istore_n 3, 1) := by decide +kernel
theorem xd_MO_count_100 : decode xc_MO_count 100 = .ok (.iload_n 3, 1) := by decide +kernel
theorem xd_MO_count_101 : decode xc_MO_count 101 = .ok (.bipush 32, 2) := by decide +kernel
theorem xd_MO_count_103 : decode xc_MO_count 103 = .ok (.if_icmp .ge 44, 3) := by decide +kernel
theorem xd_MO_count_106 : decode xc_MO_count 106 = .ok (.iload_n 1, 1) := by decide +kernel
theorem xd_MO_count_107 : decode xc_MO_count 107 = .ok (.bipush 14, 2) := by decide +kernel
theorem xd_MO_count_109 : decode xc_MO_count 109 = .ok (.isub, 1) := by decide +kernel
theorem xd_MO_count_110 : decode xc_MO_count 110 = .ok (.iconst 4, 1) := by decide +kernel
theorem xd_MO_count_111 : decode xc_MO_count 111 = .ok (.invokestatic 52, 3) := by decide +kernel
theorem xd_MO_count_114 : decode xc_MO_count 114 = .ok (.ifCond .eq 33, 3) := by decide +kernel
theorem xd_MO_count_117 : decode xc_MO_count 117 = .ok (.iload_n 2, 1) := by decide +kernel
theorem xd_MO_count_118 : decode xc_MO_count 118 = .ok (.aload_n 0, 1) := by decide +kernel
theorem xd_MO_count_119 : decode xc_MO_count 119 = .ok (.getfield 13, 3) := by decide +kernel
theorem xd_MO_count_122 : decode xc_MO_count 122 = .ok (.iconst 4, 1) := by decide +kernel
theorem xd_MO_count_123 : decode xc_MO_count 123 = .ok (.iload_n 3, 1) := by decide +kernel
theorem xd_MO_count_124 : decode xc_MO_count 124 = .ok (.imul, 1) := by decide +kernel
theorem xd_MO_count_125 : decode xc_MO_count 125 = .ok (.iload_n 1, 1) := by decide +kernel
theorem xd_MO_count_126 : decode xc_MO_count 126 = .ok (.iadd, 1) := by decide +kernel
theorem xd_MO_count_127 : decode xc_MO_count 127 = .ok (.bipush 14, 2) := by decide +kernel
theorem xd_MO_count_129 : decode xc_MO_count 129 = .ok (.isub, 1) := by decide +kernel
theorem xd_MO_count_130 : decode xc_MO_count 130 = .ok (.baload, 1) := by decide +kernel
theorem xd_MO_count_131 : decode xc_MO_count 131 = .ok (.ifCond .eq 7, 3) := by decide +kernel
theorem xd_MO_count_134 : decode xc_MO_count 134 = .ok (.iconst 1, 1) := by decide +kernel
theorem xd_MO_count_135 : decode xc_MO_count 135 = .ok (.goto 4, 3) := by decide +kernel
theorem xd_MO_count_138 : decode xc_MO_count 138 = .ok (.iconst 0, 1) := by decide +kernel
theorem xd_MO_count_139 : decode xc_MO_count 139 = .ok (.iadd, 1) := by decide +kernel
theorem xd_MO_count_140 : decode xc_MO_count 140 = .ok (.istore_n 2, 1) := by decide +kernel
theorem xd_MO_count_141 : decode xc_MO_count 141 = .ok (.iinc 3 1, 3) := by decide +kernel
theorem xd_MO_count_144 : decode xc_MO_count 144 = .ok (.goto (-44), 3) := by decide +kernel
theorem xd_MO_count_147 : decode xc_MO_count 147 = .ok (.iload_n 1, 1) := by decide +kernel
theorem xd_MO_count_148 : decode xc_MO_count 148 = .ok (.bipush 6, 2) := by decide +kernel
theorem xd_MO_count_150 : decode xc_MO_count 150 = .ok (.isub, 1) := by decide +kernel
theorem xd_MO_count_151 : decode xc_MO_count 151 = .ok (.bipush 12, 2) := by decide +kernel
theorem xd_MO_count_153 : decode xc_MO_count 153 = .ok (.invokestatic 52, 3) := by decide +kernel
theorem xd_MO_count_156 : decode xc_MO_count 156 = .ok (.ifCond .eq 7, 3) := by decide +kernel
theorem xd_MO_count_159 : decode xc_MO_count 159 = .ok (.iload_n 2, 1) := by decide +kernel
theorem xd_MO_count_160 : decode xc_MO_count 160 = .ok (.goto 4, 3) := by decide +kernel
theorem xd_MO_count_163 : decode xc_MO_count 163 = .ok (.iconst (-1), 1) := by decide +kernel
theorem xd_MO_count_164 : decode xc_MO_count 164 = .ok (.ireturn, 1) := by decide +kernel

theorem xd_PD_init_0 : decode xc_PD_init 0 = .ok (.aload_n 0, 1) := by decide +kernel
theorem xd_PD_init_1 : decode xc_PD_init 1 = .ok (.invokespecial 3, 3) := by decide +kernel
theorem xd_PD_init_4 : decode xc_PD_init 4 = .ok (.aload_n 0, 1) := by decide +kernel
theorem xd_PD_init_5 : decode xc_PD_init 5 = .ok (.new 9, 3) := by decide +kernel
theorem xd_PD_init_8 : decode xc_PD_init 8 = .ok (.dup, 1) := by decide +kernel
theorem xd_PD_init_9 : decode xc_PD_init 9 = .ok (.invokespecial 11, 3) := by decide +kernel
theorem xd_PD_init_12 : decode xc_PD_init 12 = .ok (.putfield 12, 3) := by decide +kernel
theorem xd_PD_init_15 : decode xc_PD_init 15 = .ok (.aload_n 0, 1) := by decide +kernel
theorem xd_PD_init_16 : decode xc_PD_init 16 = .ok (.new 16, 3) := by decide +kernel
theorem xd_PD_init_19 : decode xc_PD_init 19 = .ok (.dup, 1) := by decide +kernel
theorem xd_PD_init_20 : decode xc_PD_init 20 = .ok (.invokespecial 18, 3) := by decide +kernel
theorem xd_PD_init_23 : decode xc_PD_init 23 = .ok (.putfield 19, 3) := by decide +kernel
theorem xd_PD_init_26 : decode xc_PD_init 26 = .ok (.aload_n 0, 1) := by decide +kernel
theorem xd_PD_init_27 : decode xc_PD_init 27 = .ok (.new 23, 3) := by decide +kernel
theorem xd_PD_init_30 : decode xc_PD_init 30 = .ok (.dup, 1) := by decide +kernel
theorem xd_PD_init_31 : decode xc_PD_init 31 = .ok (.invokespecial 25, 3) := by decide +kernel
theorem xd_PD_init_34 : decode xc_PD_init 34 = .ok (.putfield 26, 3) := by decide +kernel
theorem xd_PD_init_37 : decode xc_PD_init 37 = .ok (.aload_n 0, 1) := by decide +kernel
theorem xd_PD_init_38 : decode xc_PD_init 38 = .ok (.bipush 100, 2) := by decide +kernel
theorem xd_PD_init_40 : decode xc_PD_init 40 = .ok (.newarray .int, 2) := by decide +kernel
theorem xd_PD_init_42 : decode xc_PD_init 42 = .ok (.putfield 30, 3) := by decide +kernel
theorem xd_PD_init_45 : decode xc_PD_init 45 = .ok (.aload_n 0, 1) := by decide +kernel
theorem xd_PD_init_46 : decode xc_PD_init 46 = .ok (.iconst 0, 1) := by decide +kernel
theorem xd_PD_init_47 : decode xc_PD_init 47 = .ok (.putfield 34, 3) := by decide +kernel
theorem xd_PD_init_50 : decode xc_PD_init 50 = .ok (.aload_n 0, 1) := by decide +kernel
theorem xd_PD_init_51 : decode xc_PD_init 51 = .ok (.iconst 4, 1) := by decide +kernel
theorem xd_PD_init_52 : decode xc_PD_init 52 = .ok (.anewarray 38, 3) := by decide +kernel
theorem xd_PD_init_55 : decode xc_PD_init 55 = .ok (.putfield 40, 3) := by decide +kernel
theorem xd_PD_init_58 : decode xc_PD_init 58 = .ok (.aload_n 0, 1) := by decide +kernel
theorem xd_PD_init_59 : decode xc_PD_init 59 = .ok (.iconst 4, 1) := by decide +kernel
theorem xd_PD_init_60 : decode xc_PD_init 60 = .ok (.anewarray 44, 3) := by decide +kernel
theorem xd_PD_init_63 : decode xc_PD_init 63 = .ok (.putfield 46, 3) := by decide +kernel
theorem xd_PD_init_66 : decode xc_PD_init 66 = .ok (.aload_n 0, 1) := by decide +kernel
theorem xd_PD_init_67 : decode xc_PD_init 67 = .ok (.iconst 4, 1) := by decide +kernel
theorem xd_PD_init_68 : decode xc_PD_init 68 = .ok (.newarray .boolean, 2) := by decide +kernel
theorem xd_PD_init_70 : decode xc_PD_init 70 = .ok (.putfield 50, 3) := by decide +kernel
theorem xd_PD_init_73 : decode xc_PD_init 73 = .ok (.iconst 0, 1) := by decide +kernel
theorem xd_PD_init_74 : decode xc_PD_init 74 = .ok (.istore_n 1, 1) := by decide +kernel
theorem xd_PD_init_75 : decode xc_PD_init 75 = .ok (.iload_n 1, 1) := by decide +kernel
theorem xd_PD_init_76 : decode xc_PD_init 76 = .ok (.iconst 4, 1) := by decide +kernel
theorem xd_PD_init_77 : decode xc_PD_init 77 = .ok (.if_icmp .ge 35, 3) := by decide +kernel
theorem xd_PD_init_80 : decode xc_PD_init 80 = .ok (.aload_n 0, 1) := by decide +kernel
theorem xd_PD_init_81 : decode xc_PD_init 81 = .ok (.getfield 40, 3) := by decide +kernel
theorem xd_PD_init_84 : decode xc_PD_init 84 = .ok (.iload_n 1, 1) := by decide +kernel
theorem xd_PD_init_85 : decode xc_PD_init 85 = .ok (.new 38, 3) := by decide +kernel
theorem xd_PD_init_88 : decode xc_PD_init 88 = .ok (.dup, 1) := by decide +kernel
theorem xd_PD_init_89 : decode xc_PD_init 89 = .ok (.invokespecial 54, 3) := by decide +kernel
theorem xd_PD_init_92 : decode xc_PD_init 92 = .ok (.aastore, 1) := by decide +kernel
theorem xd_PD_init_93 : decode xc_PD_init 93 = .ok (.aload_n 0, 1) := by decide +kernel
theorem xd_PD_init_94 : decode xc_PD_init 94 = .ok (.getfield 46, 3) := by decide +kernel
theorem xd_PD_init_97 : decode xc_PD_init 97 = .ok (.iload_n 1, 1) := by decide +kernel
theorem xd_PD_init_98 : decode xc_PD_init 98 = .ok (.new 44, 3) := by decide +kernel
theorem xd_PD_init_101 : decode xc_PD_init 101 = .ok (.dup, 1) := by decide +kernel
theorem xd_PD_init_102 : decode xc_PD_init 102 = .ok (.invokespecial 55, 3) := by decide +kernel
theorem xd_PD_init_105 : decode xc_PD_init 105 = .ok (.aastore, 1) := by decide +kernel
theorem xd_PD_init_106 : decode xc_PD_init 106 = .ok (.iinc 1 1, 3) := by decide +kernel
theorem xd_PD_init_109 : decode xc_PD_init 109 = .ok (.goto (-34), 3) := by decide +kernel
theorem xd_PD_init_112 : decode xc_PD_init 112 = .ok (.return_, 1) := by decide +kernel
theorem xd_PD_count_0 : decode xc_PD_count 0 = .ok (.iload_n 1, 1) := by decide +kernel
theorem xd_PD_count_1 : decode xc_PD_count 1 = .ok (.ifCond .lt 9, 3) := by decide +kernel
theorem xd_PD_count_4 : decode xc_PD_count 4 = .ok (.iload_n 1, 1) := by decide +kernel
theorem xd_PD_count_5 : decode xc_PD_count 5 = .ok (.bipush 18, 2) := by decide +kernel
theorem xd_PD_count_7 : decode xc_PD_count 7 = .ok (.if_icmp .lt 5, 3) := by decide +kernel
theorem xd_PD_count_10 : decode xc_PD_count 10 = .ok (.iconst (-1), 1) := by decide +kernel
theorem xd_PD_count_11 : decode xc_PD_count 11 = .ok (.ireturn, 1) := by decide +kernel
theorem xd_PD_count_12 : decode xc_PD_count 12 = .ok (.iload_n 1, 1) := by decide +kernel
theorem xd_PD_count_13 : decode xc_PD_count 13 = .ok (.ifCond .ne 11, 3) := by decide +kernel
theorem xd_PD_count_16 : decode xc_PD_count 16 = .ok (.aload_n 0, 1) := by decide +kernel
theorem xd_PD_count_17 : decode xc_PD_count 17 = .ok (.getfield 12, 3) := by decide +kernel
theorem xd_PD_count_20 : decode xc_PD_count 20 = .ok (.getfield 67, 3) := by decide +kernel
theorem xd_PD_count_23 : decode xc_PD_count 23 = .ok (.ireturn, 1) := by decide +kernel
theorem xd_PD_count_24 : decode xc_PD_count 24 = .ok (.iload_n 1, 1) := by decide +kernel
theorem xd_PD_count_25 : decode xc_PD_count 25 = .ok (.iconst 1, 1) := by decide +kernel
theorem xd_PD_count_26 : decode xc_PD_count 26 = .ok (.if_icmp .ne 8, 3) := by decide +kernel
theorem xd_PD_count_29 : decode xc_PD_count 29 = .ok (.aload_n 0, 1) := by decide +kernel
theorem xd_PD_count_30 : decode xc_PD_count 30 = .ok (.getfield 34, 3) := by decide +kernel
theorem xd_PD_count_33 : decode xc_PD_count 33 = .ok (.ireturn, 1) := by decide +kernel
theorem xd_PD_count_34 : decode xc_PD_count 34 = .ok (.iload_n 1, 1) := by decide +kernel
theorem xd_PD_count_35 : decode xc_PD_count 35 = .ok (.bipush 6, 2) := by decide +kernel
theorem xd_PD_count_37 : decode xc_PD_count 37 = .ok (.if_icmp .ge 15, 3) := by decide +kernel
theorem xd_PD_count_40 : decode xc_PD_count 40 = .ok (.aload_n 0, 1) := by decide +kernel
theorem xd_PD_count_41 : decode xc_PD_count 41 = .ok (.getfield 40, 3) := by decide +kernel
theorem xd_PD_count_44 : decode xc_PD_count 44 = .ok (.iload_n 1, 1) := by decide +kernel
theorem xd_PD_count_45 : decode xc_PD_count 45 = .ok (.iconst 2, 1) := by decide +kernel
theorem xd_PD_count_46 : decode xc_PD_count 46 = .ok (.isub, 1) := by decide +kernel
theorem xd_PD_count_47 : decode xc_PD_count 47 = .ok (.aaload, 1) := by decide +kernel
theorem xd_PD_count_48 : decode xc_PD_count 48 = .ok (.getfield 103, 3) := by decide +kernel
theorem xd_PD_count_51 : decode xc_PD_count 51 = .ok (.ireturn, 1) := by decide +kernel
theorem xd_PD_count_52 : decode xc_PD_count 52 = .ok (.iload_n 1, 1) := by decide +kernel
theorem xd_PD_count_53 : decode xc_PD_count 53 = .ok (.bipush 14, 2) := by decide +kernel
theorem xd_PD_count_55 : decode xc_PD_count 55 = .ok (.if_icmp .ge 15, 3) := by decide +kernel
theorem xd_PD_count_58 : decode xc_PD_count 58 = .ok (.aload_n 0, 1) := by decide +kernel
theorem xd_PD_count_59 : decode xc_PD_count 59 = .ok (.getfield 12, 3) := by decide +kernel
theorem xd_PD_count_62 : decode xc_PD_count 62 = .ok (.iload_n 1, 1) := by decide +kernel
theorem xd_PD_count_63 : decode xc_PD_count 63 = .ok (.bipush 6, 2) := by decide +kernel
theorem xd_PD_count_65 : decode xc_PD_count 65 = .ok (.isub, 1) := by decide +kernel
theorem xd_PD_count_66 : decode xc_PD_count 66 = .ok (.invokevirtual 146, 3) := by decide +kernel
theorem xd_PD_count_69 : decode xc_PD_count 69 = .ok (.ireturn, 1) := by decide +kernel
theorem xd_PD_count_70 : decode xc_PD_count 70 = .ok (.aload_n 0, 1) := by decide +kernel
theorem xd_PD_count_71 : decode xc_PD_count 71 = .ok (.getfield 12, 3) := by decide +kernel
theorem xd_PD_count_74 : decode xc_PD_count 74 = .ok (.iload_n 1, 1) := by decide +kernel
theorem xd_PD_count_75 : decode xc_PD_count 75 = .ok (.bipush 14, 2) := by decide +kernel
theorem xd_PD_count_77 : decode xc_PD_count 77 = .ok (.isub, 1) := by decide +kernel
theorem xd_PD_count_78 : decode xc_PD_count 78 = .ok (.invokevirtual 149, 3) := by decide +kernel
theorem xd_PD_count_81 : decode xc_PD_count 81 = .ok (.invokestatic 152, 3) := by decide +kernel
theorem xd_PD_count_84 : decode xc_PD_count 84 = .ok (.ireturn, 1) := by decide +kernel
theorem xd_PD_edge_0 : decode xc_PD_edge 0 = .ok (.iload_n 1, 1) := by decide +kernel
theorem xd_PD_edge_1 : decode xc_PD_edge 1 = .ok (.invokestatic 56, 3) := by decide +kernel
theorem xd_PD_edge_4 : decode xc_PD_edge 4 = .ok (.iload_n 2, 1) := by decide +kernel
theorem xd_PD_edge_5 : decode xc_PD_edge 5 = .ok (.invokestatic 60, 3) := by decide +kernel
theorem xd_PD_edge_8 : decode xc_PD_edge 8 = .ok (.iload_n 3, 1) := by decide +kernel
theorem xd_PD_edge_9 : decode xc_PD_edge 9 = .ok (.invokestatic 56, 3) := by decide +kernel
theorem xd_PD_edge_12 : decode xc_PD_edge 12 = .ok (.aload_n 0, 1) := by decide +kernel
theorem xd_PD_edge_13 : decode xc_PD_edge 13 = .ok (.getfield 12, 3) := by decide +kernel
theorem xd_PD_edge_16 : decode xc_PD_edge 16 = .ok (.iload_n 1, 1) := by decide +kernel
theorem xd_PD_edge_17 : decode xc_PD_edge 17 = .ok (.iload_n 2, 1) := by decide +kernel
theorem xd_PD_edge_18 : decode xc_PD_edge 18 = .ok (.iload_n 3, 1) := by decide +kernel
theorem xd_PD_edge_19 : decode xc_PD_edge 19 = .ok (.invokevirtual 63, 3) := by decide +kernel
theorem xd_PD_edge_22 : decode xc_PD_edge 22 = .ok (.ifCond .ne 16, 3) := by decide +kernel
theorem xd_PD_edge_25 : decode xc_PD_edge 25 = .ok (.aload_n 0, 1) := by decide +kernel
theorem xd_PD_edge_26 : decode xc_PD_edge 26 = .ok (.getfield 12, 3) := by decide +kernel
theorem xd_PD_edge_29 : decode xc_PD_edge 29 = .ok (.getfield 67, 3) := by decide +kernel
theorem xd_PD_edge_32 : decode xc_PD_edge 32 = .ok (.sipush 300, 3) := by decide +kernel
theorem xd_PD_edge_35 : decode xc_PD_edge 35 = .ok (.if_icmp .ne 5, 3) := by decide +kernel
theorem xd_PD_edge_38 : decode xc_PD_edge 38 = .ok (.iconst 0, 1) := by decide +kernel
theorem xd_PD_edge_39 : decode xc_PD_edge 39 = .ok (.ireturn, 1) := by decide +kernel
theorem xd_PD_edge_40 : decode xc_PD_edge 40 = .ok (.aload_n 0, 1) := by decide +kernel
theorem xd_PD_edge_41 : decode xc_PD_edge 41 = .ok (.getfield 12, 3) := by decide +kernel
theorem xd_PD_edge_44 : decode xc_PD_edge 44 = .ok (.iload_n 1, 1) := by decide +kernel
theorem xd_PD_edge_45 : decode xc_PD_edge 45 = .ok (.iload_n 2, 1) := by decide +kernel
theorem xd_PD_edge_46 : decode xc_PD_edge 46 = .ok (.iload_n 3, 1) := by decide +kernel
theorem xd_PD_edge_47 : decode xc_PD_edge 47 = .ok (.invokevirtual 70, 3) := by decide +kernel
theorem xd_PD_edge_50 : decode xc_PD_edge 50 = .ok (.aload_n 0, 1) := by decide +kernel
theorem xd_PD_edge_51 : decode xc_PD_edge 51 = .ok (.invokevirtual 74, 3) := by decide +kernel
theorem xd_PD_edge_54 : decode xc_PD_edge 54 = .ok (.iconst 1, 1) := by decide +kernel
theorem xd_PD_edge_55 : decode xc_PD_edge 55 = .ok (.ireturn, 1) := by decide +kernel
theorem xd_PD_needNode_0 : decode xc_PD_needNode 0 = .ok (.iload_n 0, 1) := by decide +kernel
theorem xd_PD_needNode_1 : decode xc_PD_needNode 1 = .ok (.ifCond .lt 9, 3) := by decide +kernel
theorem xd_PD_needNode_4 : decode xc_PD_needNode 4 = .ok (.iload_n 0, 1) := by decide +kernel
theorem xd_PD_needNode_5 : decode xc_PD_needNode 5 = .ok (.bipush 32, 2) := by decide +kernel
theorem xd_PD_needNode_7 : decode xc_PD_needNode 7 = .ok (.if_icmp .lt 13, 3) := by decide +kernel
theorem xd_PD_needNode_10 : decode xc_PD_needNode 10 = .ok (.new 80, 3) := by decide +kernel
theorem xd_PD_needNode_13 : decode xc_PD_needNode 13 = .ok (.dup, 1) := by decide +kernel
theorem xd_PD_needNode_14 : decode xc_PD_needNode 14 = .ok (.ldc 184, 2) := by decide +kernel
theorem xd_PD_needNode_16 : decode xc_PD_needNode 16 = .ok (.invokespecial 84, 3) := by decide +kernel
theorem xd_PD_needNode_19 : decode xc_PD_needNode 19 = .ok (.athrow, 1) := by decide +kernel
theorem xd_PD_needNode_20 : decode xc_PD_needNode 20 = .ok (.return_, 1) := by decide +kernel
theorem xd_PD_needLabel_0 : decode xc_PD_needLabel 0 = .ok (.iload_n 0, 1) := by decide +kernel
theorem xd_PD_needLabel_1 : decode xc_PD_needLabel 1 = .ok (.ifCond .lt 9, 3) := by decide +kernel
theorem xd_PD_needLabel_4 : decode xc_PD_needLabel 4 = .ok (.iload_n 0, 1) := by decide +kernel
theorem xd_PD_needLabel_5 : decode xc_PD_needLabel 5 = .ok (.bipush 8, 2) := by decide +kernel
theorem xd_PD_needLabel_7 : decode xc_PD_needLabel 7 = .ok (.if_icmp .lt 13, 3) := by decide +kernel
theorem xd_PD_needLabel_10 : decode xc_PD_needLabel 10 = .ok (.new 80, 3) := by decide +kernel
theorem xd_PD_needLabel_13 : decode xc_PD_needLabel 13 = .ok (.dup, 1) := by decide +kernel
theorem xd_PD_needLabel_14 : decode xc_PD_needLabel 14 = .ok (.ldc 186, 2) := by decide +kernel
theorem xd_PD_needLabel_16 : decode xc_PD_needLabel 16 = .ok (.invokespecial 84, 3) := by decide +kernel
theorem xd_PD_needLabel_19 : decode xc_PD_needLabel 19 = .ok (.athrow, 1) := by decide +kernel
theorem xd_PD_needLabel_20 : decode xc_PD_needLabel 20 = .ok (.return_, 1) := by decide +kernel
theorem xd_PD_isIn_0 : decode xc_PD_isIn 0 = .ok (.iload_n 0, 1) := by decide +kernel
theorem xd_PD_isIn_1 : decode xc_PD_isIn 1 = .ok (.iload_n 1, 1) := by decide +kernel
theorem xd_PD_isIn_2 : decode xc_PD_isIn 2 = .ok (.iushr, 1) := by decide +kernel
theorem xd_PD_isIn_3 : decode xc_PD_isIn 3 = .ok (.iconst 1, 1) := by decide +kernel
theorem xd_PD_isIn_4 : decode xc_PD_isIn 4 = .ok (.iand, 1) := by decide +kernel
theorem xd_PD_isIn_5 : decode xc_PD_isIn 5 = .ok (.ifCond .eq 7, 3) := by decide +kernel
theorem xd_PD_isIn_8 : decode xc_PD_isIn 8 = .ok (.iconst 1, 1) := by decide +kernel
theorem xd_PD_isIn_9 : decode xc_PD_isIn 9 = .ok (.goto 4, 3) := by decide +kernel
theorem xd_PD_isIn_12 : decode xc_PD_isIn 12 = .ok (.iconst 0, 1) := by decide +kernel
theorem xd_PD_isIn_13 : decode xc_PD_isIn 13 = .ok (.ireturn, 1) := by decide +kernel
theorem xd_PD_forgetRelations_0 : decode xc_PD_forgetRelations 0 = .ok (.iconst 0, 1) := by decide +kernel
theorem xd_PD_forgetRelations_1 : decode xc_PD_forgetRelations 1 = .ok (.istore_n 1, 1) := by decide +kernel
theorem xd_PD_forgetRelations_2 : decode xc_PD_forgetRelations 2 = .ok (.iload_n 1, 1) := by decide +kernel
theorem xd_PD_forgetRelations_3 : decode xc_PD_forgetRelations 3 = .ok (.iconst 4, 1) := by decide +kernel
theorem xd_PD_forgetRelations_4 : decode xc_PD_forgetRelations 4 = .ok (.if_icmp .ge 16, 3) := by decide +kernel
theorem xd_PD_forgetRelations_7 : decode xc_PD_forgetRelations 7 = .ok (.aload_n 0, 1) := by decide +kernel
theorem xd_PD_forgetRelations_8 : decode xc_PD_forgetRelations 8 = .ok (.getfield 50, 3) := by decide +kernel
theorem xd_PD_forgetRelations_11 : decode xc_PD_forgetRelations 11 = .ok (.iload_n 1, 1) := by decide +kernel
theorem xd_PD_forgetRelations_12 : decode xc_PD_forgetRelations 12 = .ok (.iconst 0, 1) := by decide +kernel
theorem xd_PD_forgetRelations_13 : decode xc_PD_forgetRelations 13 = .ok (.bastore, 1) := by decide +kernel
theorem xd_PD_forgetRelations_14 : decode xc_PD_forgetRelations 14 = .ok (.iinc 1 1, 3) := by decide +kernel
theorem xd_PD_forgetRelations_17 : decode xc_PD_forgetRelations 17 = .ok (.goto (-15), 3) := by decide +kernel
theorem xd_PD_forgetRelations_20 : decode xc_PD_forgetRelations 20 = .ok (.return_, 1) := by decide +kernel
theorem xd_PD_cut_0 : decode xc_PD_cut 0 = .ok (.iload_n 1, 1) := by decide +kernel
theorem xd_PD_cut_1 : decode xc_PD_cut 1 = .ok (.invokestatic 56, 3) := by decide +kernel
theorem xd_PD_cut_4 : decode xc_PD_cut 4 = .ok (.iload_n 2, 1) := by decide +kernel
theorem xd_PD_cut_5 : decode xc_PD_cut 5 = .ok (.invokestatic 60, 3) := by decide +kernel
theorem xd_PD_cut_8 : decode xc_PD_cut 8 = .ok (.iload_n 3, 1) := by decide +kernel
theorem xd_PD_cut_9 : decode xc_PD_cut 9 = .ok (.invokestatic 56, 3) := by decide +kernel
theorem xd_PD_cut_12 : decode xc_PD_cut 12 = .ok (.aload_n 0, 1) := by decide +kernel
theorem xd_PD_cut_13 : decode xc_PD_cut 13 = .ok (.getfield 12, 3) := by decide +kernel
theorem xd_PD_cut_16 : decode xc_PD_cut 16 = .ok (.iload_n 1, 1) := by decide +kernel
theorem xd_PD_cut_17 : decode xc_PD_cut 17 = .ok (.iload_n 2, 1) := by decide +kernel
theorem xd_PD_cut_18 : decode xc_PD_cut 18 = .ok (.iload_n 3, 1) := by decide +kernel
theorem xd_PD_cut_19 : decode xc_PD_cut 19 = .ok (.invokevirtual 63, 3) := by decide +kernel
theorem xd_PD_cut_22 : decode xc_PD_cut 22 = .ok (.ifCond .ne 5, 3) := by decide +kernel
theorem xd_PD_cut_25 : decode xc_PD_cut 25 = .ok (.iconst 0, 1) := by decide +kernel
theorem xd_PD_cut_26 : decode xc_PD_cut 26 = .ok (.ireturn, 1) := by decide +kernel
theorem xd_PD_cut_27 : decode xc_PD_cut 27 = .ok (.aload_n 0, 1) := by decide +kernel
theorem xd_PD_cut_28 : decode xc_PD_cut 28 = .ok (.getfield 12, 3) := by decide +kernel
theorem xd_PD_cut_31 : decode xc_PD_cut 31 = .ok (.iload_n 1, 1) := by decide +kernel
theorem xd_PD_cut_32 : decode xc_PD_cut 32 = .ok (.iload_n 2, 1) := by decide +kernel
theorem xd_PD_cut_33 : decode xc_PD_cut 33 = .ok (.iload_n 3, 1) := by decide +kernel
theorem xd_PD_cut_34 : decode xc_PD_cut 34 = .ok (.invokevirtual 77, 3) := by decide +kernel
theorem xd_PD_cut_37 : decode xc_PD_cut 37 = .ok (.aload_n 0, 1) := by decide +kernel
theorem xd_PD_cut_38 : decode xc_PD_cut 38 = .ok (.invokevirtual 74, 3) := by decide +kernel
theorem xd_PD_cut_41 : decode xc_PD_cut 41 = .ok (.iconst 1, 1) := by decide +kernel
theorem xd_PD_cut_42 : decode xc_PD_cut 42 = .ok (.ireturn, 1) := by decide +kernel
theorem xd_PD_tag_0 : decode xc_PD_tag 0 = .ok (.iload_n 1, 1) := by decide +kernel
theorem xd_PD_tag_1 : decode xc_PD_tag 1 = .ok (.invokestatic 56, 3) := by decide +kernel
theorem xd_PD_tag_4 : decode xc_PD_tag 4 = .ok (.iload_n 2, 1) := by decide +kernel
theorem xd_PD_tag_5 : decode xc_PD_tag 5 = .ok (.ifCond .lt 8, 3) := by decide +kernel
theorem xd_PD_tag_8 : decode xc_PD_tag 8 = .ok (.iload_n 2, 1) := by decide +kernel
theorem xd_PD_tag_9 : decode xc_PD_tag 9 = .ok (.iconst 4, 1) := by decide +kernel
theorem xd_PD_tag_10 : decode xc_PD_tag 10 = .ok (.if_icmp .lt 13, 3) := by decide +kernel
theorem xd_PD_tag_13 : decode xc_PD_tag 13 = .ok (.new 80, 3) := by decide +kernel
theorem xd_PD_tag_16 : decode xc_PD_tag 16 = .ok (.dup, 1) := by decide +kernel
theorem xd_PD_tag_17 : decode xc_PD_tag 17 = .ok (.ldc 82, 2) := by decide +kernel
theorem xd_PD_tag_19 : decode xc_PD_tag 19 = .ok (.invokespecial 84, 3) := by decide +kernel
theorem xd_PD_tag_22 : decode xc_PD_tag 22 = .ok (.athrow, 1) := by decide +kernel
theorem xd_PD_tag_23 : decode xc_PD_tag 23 = .ok (.aload_n 0, 1) := by decide +kernel
theorem xd_PD_tag_24 : decode xc_PD_tag 24 = .ok (.getfield 12, 3) := by decide +kernel
theorem xd_PD_tag_27 : decode xc_PD_tag 27 = .ok (.iload_n 1, 1) := by decide +kernel
theorem xd_PD_tag_28 : decode xc_PD_tag 28 = .ok (.iload_n 2, 1) := by decide +kernel
theorem xd_PD_tag_29 : decode xc_PD_tag 29 = .ok (.iload_n 3, 1) := by decide +kernel
theorem xd_PD_tag_30 : decode xc_PD_tag 30 = .ok (.invokevirtual 87, 3) := by decide +kernel
theorem xd_PD_tag_33 : decode xc_PD_tag 33 = .ok (.aload_n 0, 1) := by decide +kernel
theorem xd_PD_tag_34 : decode xc_PD_tag 34 = .ok (.invokevirtual 74, 3) := by decide +kernel
theorem xd_PD_tag_37 : decode xc_PD_tag 37 = .ok (.return_, 1) := by decide +kernel
theorem xd_PD_feed_0 : decode xc_PD_feed 0 = .ok (.iload_n 3, 1) := by decide +kernel
theorem xd_PD_feed_1 : decode xc_PD_feed 1 = .ok (.iconst 1, 1) := by decide +kernel
theorem xd_PD_feed_2 : decode xc_PD_feed 2 = .ok (.if_icmp .lt 9, 3) := by decide +kernel
theorem xd_PD_feed_5 : decode xc_PD_feed 5 = .ok (.iload_n 3, 1) := by decide +kernel
theorem xd_PD_feed_6 : decode xc_PD_feed 6 = .ok (.bipush 8, 2) := by decide +kernel
theorem xd_PD_feed_8 : decode xc_PD_feed 8 = .ok (.if_icmp .le 13, 3) := by decide +kernel
theorem xd_PD_feed_11 : decode xc_PD_feed 11 = .ok (.new 80, 3) := by decide +kernel
theorem xd_PD_feed_14 : decode xc_PD_feed 14 = .ok (.dup, 1) := by decide +kernel
theorem xd_PD_feed_15 : decode xc_PD_feed 15 = .ok (.ldc 91, 2) := by decide +kernel
theorem xd_PD_feed_17 : decode xc_PD_feed 17 = .ok (.invokespecial 84, 3) := by decide +kernel
theorem xd_PD_feed_20 : decode xc_PD_feed 20 = .ok (.athrow, 1) := by decide +kernel
theorem xd_PD_feed_21 : decode xc_PD_feed 21 = .ok (.aload_n 0, 1) := by decide +kernel
theorem xd_PD_feed_22 : decode xc_PD_feed 22 = .ok (.getfield 34, 3) := by decide +kernel
theorem xd_PD_feed_25 : decode xc_PD_feed 25 = .ok (.iload_n 3, 1) := by decide +kernel
theorem xd_PD_feed_26 : decode xc_PD_feed 26 = .ok (.iadd, 1) := by decide +kernel
theorem xd_PD_feed_27 : decode xc_PD_feed 27 = .ok (.bipush 100, 2) := by decide +kernel
theorem xd_PD_feed_29 : decode xc_PD_feed 29 = .ok (.if_icmp .le 5, 3) := by decide +kernel
theorem xd_PD_feed_32 : decode xc_PD_feed 32 = .ok (.iconst (-1), 1) := by decide +kernel
theorem xd_PD_feed_33 : decode xc_PD_feed 33 = .ok (.ireturn, 1) := by decide +kernel
theorem xd_PD_feed_34 : decode xc_PD_feed 34 = .ok (.iload_n 3, 1) := by decide +kernel
theorem xd_PD_feed_35 : decode xc_PD_feed 35 = .ok (.iconst 1, 1) := by decide +kernel
theorem xd_PD_feed_36 : decode xc_PD_feed 36 = .ok (.isub, 1) := by decide +kernel
theorem xd_PD_feed_37 : decode xc_PD_feed 37 = .ok (.istore 4, 2) := by decide +kernel
theorem xd_PD_feed_39 : decode xc_PD_feed 39 = .ok (.iload 4, 2) := by decide +kernel
theorem xd_PD_feed_41 : decode xc_PD_feed 41 = .ok (.ifCond .lt 40, 3) := by decide +kernel
theorem xd_PD_feed_44 : decode xc_PD_feed 44 = .ok (.aload_n 0, 1) := by decide +kernel
theorem xd_PD_feed_45 : decode xc_PD_feed 45 = .ok (.getfield 30, 3) := by decide +kernel
theorem xd_PD_feed_48 : decode xc_PD_feed 48 = .ok (.aload_n 0, 1) := by decide +kernel
theorem xd_PD_feed_49 : decode xc_PD_feed 49 = .ok (.getfield 34, 3) := by decide +kernel
theorem xd_PD_feed_52 : decode xc_PD_feed 52 = .ok (.lload_n 1, 1) := by decide +kernel
theorem xd_PD_feed_53 : decode xc_PD_feed 53 = .ok (.bipush 8, 2) := by decide +kernel
theorem xd_PD_feed_55 : decode xc_PD_feed 55 = .ok (.iload 4, 2) := by decide +kernel
theorem xd_PD_feed_57 : decode xc_PD_feed 57 = .ok (.imul, 1) := by decide +kernel
theorem xd_PD_feed_58 : decode xc_PD_feed 58 = .ok (.lushr, 1) := by decide +kernel
theorem xd_PD_feed_59 : decode xc_PD_feed 59 = .ok (.l2i, 1) := by decide +kernel
theorem xd_PD_feed_60 : decode xc_PD_feed 60 = .ok (.sipush 255, 3) := by decide +kernel
theorem xd_PD_feed_63 : decode xc_PD_feed 63 = .ok (.iand, 1) := by decide +kernel
theorem xd_PD_feed_64 : decode xc_PD_feed 64 = .ok (.iastore, 1) := by decide +kernel
theorem xd_PD_feed_65 : decode xc_PD_feed 65 = .ok (.aload_n 0, 1) := by decide +kernel
theorem xd_PD_feed_66 : decode xc_PD_feed 66 = .ok (.dup, 1) := by decide +kernel
theorem xd_PD_feed_67 : decode xc_PD_feed 67 = .ok (.getfield 34, 3) := by decide +kernel
theorem xd_PD_feed_70 : decode xc_PD_feed 70 = .ok (.iconst 1, 1) := by decide +kernel
theorem xd_PD_feed_71 : decode xc_PD_feed 71 = .ok (.iadd, 1) := by decide +kernel
theorem xd_PD_feed_72 : decode xc_PD_feed 72 = .ok (.putfield 34, 3) := by decide +kernel
theorem xd_PD_feed_75 : decode xc_PD_feed 75 = .ok (.iinc 4 (-1), 3) := by decide +kernel
theorem xd_PD_feed_78 : decode xc_PD_feed 78 = .ok (.goto (-39), 3) := by decide +kernel
theorem xd_PD_feed_81 : decode xc_PD_feed 81 = .ok (.aload_n 0, 1) := by decide +kernel
theorem xd_PD_feed_82 : decode xc_PD_feed 82 = .ok (.getfield 34, 3) := by decide +kernel
theorem xd_PD_feed_85 : decode xc_PD_feed 85 = .ok (.ireturn, 1) := by decide +kernel
theorem xd_PD_load_0 : decode xc_PD_load 0 = .ok (.iload_n 1, 1) := by decide +kernel
theorem xd_PD_load_1 : decode xc_PD_load 1 = .ok (.invokestatic 93, 3) := by decide +kernel
theorem xd_PD_load_4 : decode xc_PD_load 4 = .ok (.aload_n 0, 1) := by decide +kernel
theorem xd_PD_load_5 : decode xc_PD_load 5 = .ok (.getfield 40, 3) := by decide +kernel
theorem xd_PD_load_8 : decode xc_PD_load 8 = .ok (.iload_n 1, 1) := by decide +kernel
theorem xd_PD_load_9 : decode xc_PD_load 9 = .ok (.aaload, 1) := by decide +kernel
theorem xd_PD_load_10 : decode xc_PD_load 10 = .ok (.astore_n 2, 1) := by decide +kernel
theorem xd_PD_load_11 : decode xc_PD_load 11 = .ok (.aload_n 0, 1) := by decide +kernel
theorem xd_PD_load_12 : decode xc_PD_load 12 = .ok (.getfield 19, 3) := by decide +kernel
theorem xd_PD_load_15 : decode xc_PD_load 15 = .ok (.aload_n 0, 1) := by decide +kernel
theorem xd_PD_load_16 : decode xc_PD_load 16 = .ok (.getfield 30, 3) := by decide +kernel
theorem xd_PD_load_19 : decode xc_PD_load 19 = .ok (.aload_n 0, 1) := by decide +kernel
theorem xd_PD_load_20 : decode xc_PD_load 20 = .ok (.getfield 34, 3) := by decide +kernel
theorem xd_PD_load_23 : decode xc_PD_load 23 = .ok (.aload_n 2, 1) := by decide +kernel
theorem xd_PD_load_24 : decode xc_PD_load 24 = .ok (.invokevirtual 96, 3) := by decide +kernel
theorem xd_PD_load_27 : decode xc_PD_load 27 = .ok (.istore_n 3, 1) := by decide +kernel
theorem xd_PD_load_28 : decode xc_PD_load 28 = .ok (.aload_n 0, 1) := by decide +kernel
theorem xd_PD_load_29 : decode xc_PD_load 29 = .ok (.iconst 0, 1) := by decide +kernel
theorem xd_PD_load_30 : decode xc_PD_load 30 = .ok (.putfield 34, 3) := by decide +kernel
theorem xd_PD_load_33 : decode xc_PD_load 33 = .ok (.aload_n 0, 1) := by decide +kernel
theorem xd_PD_load_34 : decode xc_PD_load 34 = .ok (.getfield 50, 3) := by decide +kernel
theorem xd_PD_load_37 : decode xc_PD_load 37 = .ok (.iload_n 1, 1) := by decide +kernel
theorem xd_PD_load_38 : decode xc_PD_load 38 = .ok (.iconst 0, 1) := by decide +kernel
theorem xd_PD_load_39 : decode xc_PD_load 39 = .ok (.bastore, 1) := by decide +kernel
theorem xd_PD_load_40 : decode xc_PD_load 40 = .ok (.iload_n 3, 1) := by decide +kernel
theorem xd_PD_load_41 : decode xc_PD_load 41 = .ok (.iconst (-1), 1) := by decide +kernel
theorem xd_PD_load_42 : decode xc_PD_load 42 = .ok (.if_icmp .eq 11, 3) := by decide +kernel
theorem xd_PD_load_45 : decode xc_PD_load 45 = .ok (.aload_n 2, 1) := by decide +kernel
theorem xd_PD_load_46 : decode xc_PD_load 46 = .ok (.invokevirtual 100, 3) := by decide +kernel
theorem xd_PD_load_49 : decode xc_PD_load 49 = .ok (.iconst 1, 1) := by decide +kernel
theorem xd_PD_load_50 : decode xc_PD_load 50 = .ok (.iload_n 3, 1) := by decide +kernel
theorem xd_PD_load_51 : decode xc_PD_load 51 = .ok (.iadd, 1) := by decide +kernel
theorem xd_PD_load_52 : decode xc_PD_load 52 = .ok (.ireturn, 1) := by decide +kernel
theorem xd_PD_load_53 : decode xc_PD_load 53 = .ok (.aload_n 2, 1) := by decide +kernel
theorem xd_PD_load_54 : decode xc_PD_load 54 = .ok (.getfield 103, 3) := by decide +kernel
theorem xd_PD_load_57 : decode xc_PD_load 57 = .ok (.bipush 80, 2) := by decide +kernel
theorem xd_PD_load_59 : decode xc_PD_load 59 = .ok (.if_icmp .le 10, 3) := by decide +kernel
theorem xd_PD_load_62 : decode xc_PD_load 62 = .ok (.aload_n 2, 1) := by decide +kernel
theorem xd_PD_load_63 : decode xc_PD_load 63 = .ok (.invokevirtual 100, 3) := by decide +kernel
theorem xd_PD_load_66 : decode xc_PD_load 66 = .ok (.bipush (-2), 2) := by decide +kernel
theorem xd_PD_load_68 : decode xc_PD_load 68 = .ok (.ireturn, 1) := by decide +kernel
theorem xd_PD_load_69 : decode xc_PD_load 69 = .ok (.iconst 0, 1) := by decide +kernel
theorem xd_PD_load_70 : decode xc_PD_load 70 = .ok (.ireturn, 1) := by decide +kernel
theorem xd_PD_needSlot_0 : decode xc_PD_needSlot 0 = .ok (.iload_n 0, 1) := by decide +kernel
theorem xd_PD_needSlot_1 : decode xc_PD_needSlot 1 = .ok (.ifCond .lt 8, 3) := by decide +kernel
theorem xd_PD_needSlot_4 : decode xc_PD_needSlot 4 = .ok (.iload_n 0, 1) := by decide +kernel
theorem xd_PD_needSlot_5 : decode xc_PD_needSlot 5 = .ok (.iconst 4, 1) := by decide +kernel
theorem xd_PD_needSlot_6 : decode xc_PD_needSlot 6 = .ok (.if_icmp .lt 13, 3) := by decide +kernel
theorem xd_PD_needSlot_9 : decode xc_PD_needSlot 9 = .ok (.new 179, 3) := by decide +kernel
theorem xd_PD_needSlot_12 : decode xc_PD_needSlot 12 = .ok (.dup, 1) := by decide +kernel
theorem xd_PD_needSlot_13 : decode xc_PD_needSlot 13 = .ok (.ldc 181, 2) := by decide +kernel
theorem xd_PD_needSlot_15 : decode xc_PD_needSlot 15 = .ok (.invokespecial 183, 3) := by decide +kernel
theorem xd_PD_needSlot_18 : decode xc_PD_needSlot 18 = .ok (.athrow, 1) := by decide +kernel
theorem xd_PD_needSlot_19 : decode xc_PD_needSlot 19 = .ok (.return_, 1) := by decide +kernel
theorem xd_PD_reach_0 : decode xc_PD_reach 0 = .ok (.iload_n 1, 1) := by decide +kernel
theorem xd_PD_reach_1 : decode xc_PD_reach 1 = .ok (.invokestatic 93, 3) := by decide +kernel
theorem xd_PD_reach_4 : decode xc_PD_reach 4 = .ok (.iload_n 2, 1) := by decide +kernel
theorem xd_PD_reach_5 : decode xc_PD_reach 5 = .ok (.invokestatic 56, 3) := by decide +kernel
theorem xd_PD_reach_8 : decode xc_PD_reach 8 = .ok (.aload_n 0, 1) := by decide +kernel
theorem xd_PD_reach_9 : decode xc_PD_reach 9 = .ok (.iload_n 1, 1) := by decide +kernel
theorem xd_PD_reach_10 : decode xc_PD_reach 10 = .ok (.invokevirtual 106, 3) := by decide +kernel
theorem xd_PD_reach_13 : decode xc_PD_reach 13 = .ok (.astore 4, 2) := by decide +kernel
theorem xd_PD_reach_15 : decode xc_PD_reach 15 = .ok (.iload_n 3, 1) := by decide +kernel
theorem xd_PD_reach_16 : decode xc_PD_reach 16 = .ok (.ifCond .eq 12, 3) := by decide +kernel
theorem xd_PD_reach_19 : decode xc_PD_reach 19 = .ok (.aload 4, 2) := by decide +kernel
theorem xd_PD_reach_21 : decode xc_PD_reach 21 = .ok (.iload_n 2, 1) := by decide +kernel
theorem xd_PD_reach_22 : decode xc_PD_reach 22 = .ok (.invokevirtual 110, 3) := by decide +kernel
theorem xd_PD_reach_25 : decode xc_PD_reach 25 = .ok (.goto 10, 3) := by decide +kernel
theorem xd_PD_reach_28 : decode xc_PD_reach 28 = .ok (.aload 4, 2) := by decide +kernel
theorem xd_PD_reach_30 : decode xc_PD_reach 30 = .ok (.getfield 114, 3) := by decide +kernel
theorem xd_PD_reach_33 : decode xc_PD_reach 33 = .ok (.iload_n 2, 1) := by decide +kernel
theorem xd_PD_reach_34 : decode xc_PD_reach 34 = .ok (.iaload, 1) := by decide +kernel
theorem xd_PD_reach_35 : decode xc_PD_reach 35 = .ok (.ireturn, 1) := by decide +kernel
theorem xd_PD_relationOf_0 : decode xc_PD_relationOf 0 = .ok (.aload_n 0, 1) := by decide +kernel
theorem xd_PD_relationOf_1 : decode xc_PD_relationOf 1 = .ok (.getfield 46, 3) := by decide +kernel
theorem xd_PD_relationOf_4 : decode xc_PD_relationOf 4 = .ok (.iload_n 1, 1) := by decide +kernel
theorem xd_PD_relationOf_5 : decode xc_PD_relationOf 5 = .ok (.aaload, 1) := by decide +kernel
theorem xd_PD_relationOf_6 : decode xc_PD_relationOf 6 = .ok (.astore_n 2, 1) := by decide +kernel
theorem xd_PD_relationOf_7 : decode xc_PD_relationOf 7 = .ok (.aload_n 0, 1) := by decide +kernel
theorem xd_PD_relationOf_8 : decode xc_PD_relationOf 8 = .ok (.getfield 50, 3) := by decide +kernel
theorem xd_PD_relationOf_11 : decode xc_PD_relationOf 11 = .ok (.iload_n 1, 1) := by decide +kernel
theorem xd_PD_relationOf_12 : decode xc_PD_relationOf 12 = .ok (.baload, 1) := by decide +kernel
theorem xd_PD_relationOf_13 : decode xc_PD_relationOf 13 = .ok (.ifCond .ne 75, 3) := by decide +kernel
theorem xd_PD_relationOf_16 : decode xc_PD_relationOf 16 = .ok (.aload_n 0, 1) := by decide +kernel
theorem xd_PD_relationOf_17 : decode xc_PD_relationOf 17 = .ok (.getfield 40, 3) := by decide +kernel
theorem xd_PD_relationOf_20 : decode xc_PD_relationOf 20 = .ok (.iload_n 1, 1) := by decide +kernel
theorem xd_PD_relationOf_21 : decode xc_PD_relationOf 21 = .ok (.aaload, 1) := by decide +kernel
theorem xd_PD_relationOf_22 : decode xc_PD_relationOf 22 = .ok (.astore_n 3, 1) := by decide +kernel
theorem xd_PD_relationOf_23 : decode xc_PD_relationOf 23 = .ok (.aload_n 0, 1) := by decide +kernel
theorem xd_PD_relationOf_24 : decode xc_PD_relationOf 24 = .ok (.getfield 26, 3) := by decide +kernel
theorem xd_PD_relationOf_27 : decode xc_PD_relationOf 27 = .ok (.invokevirtual 157, 3) := by decide +kernel
theorem xd_PD_relationOf_30 : decode xc_PD_relationOf 30 = .ok (.iconst 0, 1) := by decide +kernel
theorem xd_PD_relationOf_31 : decode xc_PD_relationOf 31 = .ok (.istore 4, 2) := by decide +kernel
theorem xd_PD_relationOf_33 : decode xc_PD_relationOf 33 = .ok (.iload 4, 2) := by decide +kernel
theorem xd_PD_relationOf_35 : decode xc_PD_relationOf 35 = .ok (.aload_n 3, 1) := by decide +kernel
theorem xd_PD_relationOf_36 : decode xc_PD_relationOf 36 = .ok (.getfield 160, 3) := by decide +kernel
theorem xd_PD_relationOf_39 : decode xc_PD_relationOf 39 = .ok (.if_icmp .ge 27, 3) := by decide +kernel
theorem xd_PD_relationOf_42 : decode xc_PD_relationOf 42 = .ok (.aload_n 0, 1) := by decide +kernel
theorem xd_PD_relationOf_43 : decode xc_PD_relationOf 43 = .ok (.getfield 26, 3) := by decide +kernel
theorem xd_PD_relationOf_46 : decode xc_PD_relationOf 46 = .ok (.aload_n 3, 1) := by decide +kernel
theorem xd_PD_relationOf_47 : decode xc_PD_relationOf 47 = .ok (.getfield 163, 3) := by decide +kernel
theorem xd_PD_relationOf_50 : decode xc_PD_relationOf 50 = .ok (.iload 4, 2) := by decide +kernel
theorem xd_PD_relationOf_52 : decode xc_PD_relationOf 52 = .ok (.iaload, 1) := by decide +kernel
theorem xd_PD_relationOf_53 : decode xc_PD_relationOf 53 = .ok (.aload_n 0, 1) := by decide +kernel
theorem xd_PD_relationOf_54 : decode xc_PD_relationOf 54 = .ok (.getfield 12, 3) := by decide +kernel
theorem xd_PD_relationOf_57 : decode xc_PD_relationOf 57 = .ok (.invokevirtual 166, 3) := by decide +kernel
theorem xd_PD_relationOf_60 : decode xc_PD_relationOf 60 = .ok (.iinc 4 1, 3) := by decide +kernel
theorem xd_PD_relationOf_63 : decode xc_PD_relationOf 63 = .ok (.goto (-30), 3) := by decide +kernel
theorem xd_PD_relationOf_66 : decode xc_PD_relationOf 66 = .ok (.aload_n 2, 1) := by decide +kernel
theorem xd_PD_relationOf_67 : decode xc_PD_relationOf 67 = .ok (.invokevirtual 170, 3) := by decide +kernel
theorem xd_PD_relationOf_70 : decode xc_PD_relationOf 70 = .ok (.aload_n 2, 1) := by decide +kernel
theorem xd_PD_relationOf_71 : decode xc_PD_relationOf 71 = .ok (.aload_n 0, 1) := by decide +kernel
theorem xd_PD_relationOf_72 : decode xc_PD_relationOf 72 = .ok (.getfield 26, 3) := by decide +kernel
theorem xd_PD_relationOf_75 : decode xc_PD_relationOf 75 = .ok (.invokevirtual 171, 3) := by decide +kernel
theorem xd_PD_relationOf_78 : decode xc_PD_relationOf 78 = .ok (.invokevirtual 175, 3) := by decide +kernel
theorem xd_PD_relationOf_81 : decode xc_PD_relationOf 81 = .ok (.aload_n 0, 1) := by decide +kernel
theorem xd_PD_relationOf_82 : decode xc_PD_relationOf 82 = .ok (.getfield 50, 3) := by decide +kernel
theorem xd_PD_relationOf_85 : decode xc_PD_relationOf 85 = .ok (.iload_n 1, 1) := by decide +kernel
theorem xd_PD_relationOf_86 : decode xc_PD_relationOf 86 = .ok (.iconst 1, 1) := by decide +kernel
theorem xd_PD_relationOf_87 : decode xc_PD_relationOf 87 = .ok (.bastore, 1) := by decide +kernel
theorem xd_PD_relationOf_88 : decode xc_PD_relationOf 88 = .ok (.aload_n 2, 1) := by decide +kernel
theorem xd_PD_relationOf_89 : decode xc_PD_relationOf 89 = .ok (.areturn, 1) := by decide +kernel
theorem xd_PD_distance_0 : decode xc_PD_distance 0 = .ok (.iload_n 1, 1) := by decide +kernel
theorem xd_PD_distance_1 : decode xc_PD_distance 1 = .ok (.invokestatic 93, 3) := by decide +kernel
theorem xd_PD_distance_4 : decode xc_PD_distance 4 = .ok (.iload_n 2, 1) := by decide +kernel
theorem xd_PD_distance_5 : decode xc_PD_distance 5 = .ok (.invokestatic 56, 3) := by decide +kernel
theorem xd_PD_distance_8 : decode xc_PD_distance 8 = .ok (.iload_n 3, 1) := by decide +kernel
theorem xd_PD_distance_9 : decode xc_PD_distance 9 = .ok (.invokestatic 56, 3) := by decide +kernel
theorem xd_PD_distance_12 : decode xc_PD_distance 12 = .ok (.aload_n 0, 1) := by decide +kernel
theorem xd_PD_distance_13 : decode xc_PD_distance 13 = .ok (.iload_n 1, 1) := by decide +kernel
theorem xd_PD_distance_14 : decode xc_PD_distance 14 = .ok (.invokevirtual 106, 3) := by decide +kernel
theorem xd_PD_distance_17 : decode xc_PD_distance 17 = .ok (.iload_n 2, 1) := by decide +kernel
theorem xd_PD_distance_18 : decode xc_PD_distance 18 = .ok (.iload_n 3, 1) := by decide +kernel
theorem xd_PD_distance_19 : decode xc_PD_distance 19 = .ok (.invokevirtual 117, 3) := by decide +kernel
theorem xd_PD_distance_22 : decode xc_PD_distance 22 = .ok (.ireturn, 1) := by decide +kernel
theorem xd_PD_span_0 : decode xc_PD_span 0 = .ok (.iload_n 1, 1) := by decide +kernel
theorem xd_PD_span_1 : decode xc_PD_span 1 = .ok (.invokestatic 93, 3) := by decide +kernel
theorem xd_PD_span_4 : decode xc_PD_span 4 = .ok (.aload_n 0, 1) := by decide +kernel
theorem xd_PD_span_5 : decode xc_PD_span 5 = .ok (.iload_n 1, 1) := by decide +kernel
theorem xd_PD_span_6 : decode xc_PD_span 6 = .ok (.invokevirtual 106, 3) := by decide +kernel
theorem xd_PD_span_9 : decode xc_PD_span 9 = .ok (.invokevirtual 121, 3) := by decide +kernel
theorem xd_PD_span_12 : decode xc_PD_span 12 = .ok (.ireturn, 1) := by decide +kernel
theorem xd_PD_pairs_0 : decode xc_PD_pairs 0 = .ok (.iload_n 1, 1) := by decide +kernel
theorem xd_PD_pairs_1 : decode xc_PD_pairs 1 = .ok (.invokestatic 93, 3) := by decide +kernel
theorem xd_PD_pairs_4 : decode xc_PD_pairs 4 = .ok (.iload_n 2, 1) := by decide +kernel
theorem xd_PD_pairs_5 : decode xc_PD_pairs 5 = .ok (.invokestatic 93, 3) := by decide +kernel
theorem xd_PD_pairs_8 : decode xc_PD_pairs 8 = .ok (.iload_n 3, 1) := by decide +kernel
theorem xd_PD_pairs_9 : decode xc_PD_pairs 9 = .ok (.ifCond .lt 8, 3) := by decide +kernel
theorem xd_PD_pairs_12 : decode xc_PD_pairs 12 = .ok (.iload_n 3, 1) := by decide +kernel
theorem xd_PD_pairs_13 : decode xc_PD_pairs 13 = .ok (.iconst 4, 1) := by decide +kernel
theorem xd_PD_pairs_14 : decode xc_PD_pairs 14 = .ok (.if_icmp .le 13, 3) := by decide +kernel
theorem xd_PD_pairs_17 : decode xc_PD_pairs 17 = .ok (.new 80, 3) := by decide +kernel
theorem xd_PD_pairs_20 : decode xc_PD_pairs 20 = .ok (.dup, 1) := by decide +kernel
theorem xd_PD_pairs_21 : decode xc_PD_pairs 21 = .ok (.ldc 125, 2) := by decide +kernel
theorem xd_PD_pairs_23 : decode xc_PD_pairs 23 = .ok (.invokespecial 84, 3) := by decide +kernel
theorem xd_PD_pairs_26 : decode xc_PD_pairs 26 = .ok (.athrow, 1) := by decide +kernel
theorem xd_PD_pairs_27 : decode xc_PD_pairs 27 = .ok (.aload_n 0, 1) := by decide +kernel
theorem xd_PD_pairs_28 : decode xc_PD_pairs 28 = .ok (.iload_n 1, 1) := by decide +kernel
theorem xd_PD_pairs_29 : decode xc_PD_pairs 29 = .ok (.invokevirtual 106, 3) := by decide +kernel
theorem xd_PD_pairs_32 : decode xc_PD_pairs 32 = .ok (.astore 4, 2) := by decide +kernel
theorem xd_PD_pairs_34 : decode xc_PD_pairs 34 = .ok (.iload_n 3, 1) := by decide +kernel
theorem xd_PD_pairs_35 : decode xc_PD_pairs 35 = .ok (.ifCond .ne 9, 3) := by decide +kernel
theorem xd_PD_pairs_38 : decode xc_PD_pairs 38 = .ok (.aload 4, 2) := by decide +kernel
theorem xd_PD_pairs_40 : decode xc_PD_pairs 40 = .ok (.invokevirtual 127, 3) := by decide +kernel
theorem xd_PD_pairs_43 : decode xc_PD_pairs 43 = .ok (.ireturn, 1) := by decide +kernel
theorem xd_PD_pairs_44 : decode xc_PD_pairs 44 = .ok (.aload_n 0, 1) := by decide +kernel
theorem xd_PD_pairs_45 : decode xc_PD_pairs 45 = .ok (.iload_n 2, 1) := by decide +kernel
theorem xd_PD_pairs_46 : decode xc_PD_pairs 46 = .ok (.invokevirtual 106, 3) := by decide +kernel
theorem xd_PD_pairs_49 : decode xc_PD_pairs 49 = .ok (.astore 5, 2) := by decide +kernel
theorem xd_PD_pairs_51 : decode xc_PD_pairs 51 = .ok (.iload_n 3, 1) := by decide +kernel
theorem xd_PD_pairs_52 : decode xc_PD_pairs 52 = .ok (.tableswitch 58 1 3 #[28, 36, 50], 28) := by decide +kernel
theorem xd_PD_pairs_80 : decode xc_PD_pairs 80 = .ok (.aload 4, 2) := by decide +kernel
theorem xd_PD_pairs_82 : decode xc_PD_pairs 82 = .ok (.aload 5, 2) := by decide +kernel
theorem xd_PD_pairs_84 : decode xc_PD_pairs 84 = .ok (.invokevirtual 130, 3) := by decide +kernel
theorem xd_PD_pairs_87 : decode xc_PD_pairs 87 = .ok (.ireturn, 1) := by decide +kernel
theorem xd_PD_pairs_88 : decode xc_PD_pairs 88 = .ok (.aload 4, 2) := by decide +kernel
theorem xd_PD_pairs_90 : decode xc_PD_pairs 90 = .ok (.invokevirtual 127, 3) := by decide +kernel
theorem xd_PD_pairs_93 : decode xc_PD_pairs 93 = .ok (.aload 4, 2) := by decide +kernel
theorem xd_PD_pairs_95 : decode xc_PD_pairs 95 = .ok (.aload 5, 2) := by decide +kernel
theorem xd_PD_pairs_97 : decode xc_PD_pairs 97 = .ok (.invokevirtual 130, 3) := by decide +kernel
theorem xd_PD_pairs_100 : decode xc_PD_pairs 100 = .ok (.isub, 1) := by decide +kernel
theorem xd_PD_pairs_101 : decode xc_PD_pairs 101 = .ok (.ireturn, 1) := by decide +kernel
theorem xd_PD_pairs_102 : decode xc_PD_pairs 102 = .ok (.aload 4, 2) := by decide +kernel
theorem xd_PD_pairs_104 : decode xc_PD_pairs 104 = .ok (.aload 5, 2) := by decide +kernel
theorem xd_PD_pairs_106 : decode xc_PD_pairs 106 = .ok (.invokevirtual 134, 3) := by decide +kernel
theorem xd_PD_pairs_109 : decode xc_PD_pairs 109 = .ok (.ireturn, 1) := by decide +kernel
theorem xd_PD_pairs_110 : decode xc_PD_pairs 110 = .ok (.aload 4, 2) := by decide +kernel
theorem xd_PD_pairs_112 : decode xc_PD_pairs 112 = .ok (.aload 5, 2) := by decide +kernel
theorem xd_PD_pairs_114 : decode xc_PD_pairs 114 = .ok (.invokevirtual 137, 3) := by decide +kernel
theorem xd_PD_pairs_117 : decode xc_PD_pairs 117 = .ok (.ireturn, 1) := by decide +kernel
theorem xd_PD_circle_0 : decode xc_PD_circle 0 = .ok (.iload_n 1, 1) := by decide +kernel
theorem xd_PD_circle_1 : decode xc_PD_circle 1 = .ok (.invokestatic 93, 3) := by decide +kernel
theorem xd_PD_circle_4 : decode xc_PD_circle 4 = .ok (.aload_n 0, 1) := by decide +kernel
theorem xd_PD_circle_5 : decode xc_PD_circle 5 = .ok (.iload_n 1, 1) := by decide +kernel
theorem xd_PD_circle_6 : decode xc_PD_circle 6 = .ok (.invokevirtual 106, 3) := by decide +kernel
theorem xd_PD_circle_9 : decode xc_PD_circle 9 = .ok (.invokevirtual 140, 3) := by decide +kernel
theorem xd_PD_circle_12 : decode xc_PD_circle 12 = .ok (.ireturn, 1) := by decide +kernel
theorem xd_PD_best_0 : decode xc_PD_best 0 = .ok (.iload_n 1, 1) := by decide +kernel
theorem xd_PD_best_1 : decode xc_PD_best 1 = .ok (.invokestatic 93, 3) := by decide +kernel
theorem xd_PD_best_4 : decode xc_PD_best 4 = .ok (.aload_n 0, 1) := by decide +kernel
theorem xd_PD_best_5 : decode xc_PD_best 5 = .ok (.iload_n 1, 1) := by decide +kernel
theorem xd_PD_best_6 : decode xc_PD_best 6 = .ok (.invokevirtual 106, 3) := by decide +kernel
theorem xd_PD_best_9 : decode xc_PD_best 9 = .ok (.invokevirtual 143, 3) := by decide +kernel
theorem xd_PD_best_12 : decode xc_PD_best 12 = .ok (.ireturn, 1) := by decide +kernel

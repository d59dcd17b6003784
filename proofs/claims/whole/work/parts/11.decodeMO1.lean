theorem xd_MO_init_0 : decode xc_MO_init 0 = .ok (.aload_n 0, 1) := by decide +kernel
theorem xd_MO_init_1 : decode xc_MO_init 1 = .ok (.invokespecial 1, 3) := by decide +kernel
theorem xd_MO_init_4 : decode xc_MO_init 4 = .ok (.aload_n 0, 1) := by decide +kernel
theorem xd_MO_init_5 : decode xc_MO_init 5 = .ok (.sipush 8192, 3) := by decide +kernel
theorem xd_MO_init_8 : decode xc_MO_init 8 = .ok (.newarray .boolean, 2) := by decide +kernel
theorem xd_MO_init_10 : decode xc_MO_init 10 = .ok (.putfield 7, 3) := by decide +kernel
theorem xd_MO_init_13 : decode xc_MO_init 13 = .ok (.aload_n 0, 1) := by decide +kernel
theorem xd_MO_init_14 : decode xc_MO_init 14 = .ok (.sipush 128, 3) := by decide +kernel
theorem xd_MO_init_17 : decode xc_MO_init 17 = .ok (.newarray .boolean, 2) := by decide +kernel
theorem xd_MO_init_19 : decode xc_MO_init 19 = .ok (.putfield 13, 3) := by decide +kernel
theorem xd_MO_init_22 : decode xc_MO_init 22 = .ok (.aload_n 0, 1) := by decide +kernel
theorem xd_MO_init_23 : decode xc_MO_init 23 = .ok (.bipush 100, 2) := by decide +kernel
theorem xd_MO_init_25 : decode xc_MO_init 25 = .ok (.newarray .int, 2) := by decide +kernel
theorem xd_MO_init_27 : decode xc_MO_init 27 = .ok (.putfield 16, 3) := by decide +kernel
theorem xd_MO_init_30 : decode xc_MO_init 30 = .ok (.aload_n 0, 1) := by decide +kernel
theorem xd_MO_init_31 : decode xc_MO_init 31 = .ok (.sipush 400, 3) := by decide +kernel
theorem xd_MO_init_34 : decode xc_MO_init 34 = .ok (.newarray .int, 2) := by decide +kernel
theorem xd_MO_init_36 : decode xc_MO_init 36 = .ok (.putfield 20, 3) := by decide +kernel
theorem xd_MO_init_39 : decode xc_MO_init 39 = .ok (.aload_n 0, 1) := by decide +kernel
theorem xd_MO_init_40 : decode xc_MO_init 40 = .ok (.iconst 4, 1) := by decide +kernel
theorem xd_MO_init_41 : decode xc_MO_init 41 = .ok (.newarray .int, 2) := by decide +kernel
theorem xd_MO_init_43 : decode xc_MO_init 43 = .ok (.putfield 23, 3) := by decide +kernel
theorem xd_MO_init_46 : decode xc_MO_init 46 = .ok (.aload_n 0, 1) := by decide +kernel
theorem xd_MO_init_47 : decode xc_MO_init 47 = .ok (.iconst 4, 1) := by decide +kernel
theorem xd_MO_init_48 : decode xc_MO_init 48 = .ok (.newarray .int, 2) := by decide +kernel
theorem xd_MO_init_50 : decode xc_MO_init 50 = .ok (.putfield 26, 3) := by decide +kernel
theorem xd_MO_init_53 : decode xc_MO_init 53 = .ok (.aload_n 0, 1) := by decide +kernel
theorem xd_MO_init_54 : decode xc_MO_init 54 = .ok (.bipush 101, 2) := by decide +kernel
theorem xd_MO_init_56 : decode xc_MO_init 56 = .ok (.newarray .int, 2) := by decide +kernel
theorem xd_MO_init_58 : decode xc_MO_init 58 = .ok (.putfield 29, 3) := by decide +kernel
theorem xd_MO_init_61 : decode xc_MO_init 61 = .ok (.aload_n 0, 1) := by decide +kernel
theorem xd_MO_init_62 : decode xc_MO_init 62 = .ok (.ldc 32, 2) := by decide +kernel
theorem xd_MO_init_64 : decode xc_MO_init 64 = .ok (.newarray .int, 2) := by decide +kernel
theorem xd_MO_init_66 : decode xc_MO_init 66 = .ok (.putfield 33, 3) := by decide +kernel
theorem xd_MO_init_69 : decode xc_MO_init 69 = .ok (.aload_n 0, 1) := by decide +kernel
theorem xd_MO_init_70 : decode xc_MO_init 70 = .ok (.bipush 40, 2) := by decide +kernel
theorem xd_MO_init_72 : decode xc_MO_init 72 = .ok (.newarray .int, 2) := by decide +kernel
theorem xd_MO_init_74 : decode xc_MO_init 74 = .ok (.putfield 36, 3) := by decide +kernel
theorem xd_MO_init_77 : decode xc_MO_init 77 = .ok (.aload_n 0, 1) := by decide +kernel
theorem xd_MO_init_78 : decode xc_MO_init 78 = .ok (.bipush 12, 2) := by decide +kernel
theorem xd_MO_init_80 : decode xc_MO_init 80 = .ok (.newarray .boolean, 2) := by decide +kernel
theorem xd_MO_init_82 : decode xc_MO_init 82 = .ok (.putfield 39, 3) := by decide +kernel
theorem xd_MO_init_85 : decode xc_MO_init 85 = .ok (.aload_n 0, 1) := by decide +kernel
theorem xd_MO_init_86 : decode xc_MO_init 86 = .ok (.sipush 1024, 3) := by decide +kernel
theorem xd_MO_init_89 : decode xc_MO_init 89 = .ok (.newarray .int, 2) := by decide +kernel
theorem xd_MO_init_91 : decode xc_MO_init 91 = .ok (.putfield 42, 3) := by decide +kernel
theorem xd_MO_init_94 : decode xc_MO_init 94 = .ok (.aload_n 0, 1) := by decide +kernel
theorem xd_MO_init_95 : decode xc_MO_init 95 = .ok (.sipush 1024, 3) := by decide +kernel
theorem xd_MO_init_98 : decode xc_MO_init 98 = .ok (.newarray .int, 2) := by decide +kernel
theorem xd_MO_init_100 : decode xc_MO_init 100 = .ok (.putfield 45, 3) := by decide +kernel
theorem xd_MO_init_103 : decode xc_MO_init 103 = .ok (.return_, 1) := by decide +kernel
theorem xd_MO_thrown_0 : decode xc_MO_thrown 0 = .ok (.aload_n 0, 1) := by decide +kernel
theorem xd_MO_thrown_1 : decode xc_MO_thrown 1 = .ok (.getfield 48, 3) := by decide +kernel
theorem xd_MO_thrown_4 : decode xc_MO_thrown 4 = .ok (.ireturn, 1) := by decide +kernel
theorem xd_MO_edge_0 : decode xc_MO_edge 0 = .ok (.aload_n 0, 1) := by decide +kernel
theorem xd_MO_edge_1 : decode xc_MO_edge 1 = .ok (.iload_n 1, 1) := by decide +kernel
theorem xd_MO_edge_2 : decode xc_MO_edge 2 = .ok (.bipush 32, 2) := by decide +kernel
theorem xd_MO_edge_4 : decode xc_MO_edge 4 = .ok (.invokestatic 52, 3) := by decide +kernel
theorem xd_MO_edge_7 : decode xc_MO_edge 7 = .ok (.ifCond .eq 21, 3) := by decide +kernel
theorem xd_MO_edge_10 : decode xc_MO_edge 10 = .ok (.iload_n 2, 1) := by decide +kernel
theorem xd_MO_edge_11 : decode xc_MO_edge 11 = .ok (.bipush 8, 2) := by decide +kernel
theorem xd_MO_edge_13 : decode xc_MO_edge 13 = .ok (.invokestatic 52, 3) := by decide +kernel
theorem xd_MO_edge_16 : decode xc_MO_edge 16 = .ok (.ifCond .eq 12, 3) := by decide +kernel
theorem xd_MO_edge_19 : decode xc_MO_edge 19 = .ok (.iload_n 3, 1) := by decide +kernel
theorem xd_MO_edge_20 : decode xc_MO_edge 20 = .ok (.bipush 32, 2) := by decide +kernel
theorem xd_MO_edge_22 : decode xc_MO_edge 22 = .ok (.invokestatic 52, 3) := by decide +kernel
theorem xd_MO_edge_25 : decode xc_MO_edge 25 = .ok (.ifCond .ne 7, 3) := by decide +kernel
theorem xd_MO_edge_28 : decode xc_MO_edge 28 = .ok (.iconst 1, 1) := by decide +kernel
theorem xd_MO_edge_29 : decode xc_MO_edge 29 = .ok (.goto 4, 3) := by decide +kernel
theorem xd_MO_edge_32 : decode xc_MO_edge 32 = .ok (.iconst 0, 1) := by decide +kernel
theorem xd_MO_edge_33 : decode xc_MO_edge 33 = .ok (.iconst 0, 1) := by decide +kernel
theorem xd_MO_edge_34 : decode xc_MO_edge 34 = .ok (.invokevirtual 56, 3) := by decide +kernel
theorem xd_MO_edge_37 : decode xc_MO_edge 37 = .ok (.ifCond .eq 5, 3) := by decide +kernel
theorem xd_MO_edge_40 : decode xc_MO_edge 40 = .ok (.iconst 0, 1) := by decide +kernel
theorem xd_MO_edge_41 : decode xc_MO_edge 41 = .ok (.ireturn, 1) := by decide +kernel
theorem xd_MO_edge_42 : decode xc_MO_edge 42 = .ok (.iload_n 1, 1) := by decide +kernel
theorem xd_MO_edge_43 : decode xc_MO_edge 43 = .ok (.iload_n 2, 1) := by decide +kernel
theorem xd_MO_edge_44 : decode xc_MO_edge 44 = .ok (.iload_n 3, 1) := by decide +kernel
theorem xd_MO_edge_45 : decode xc_MO_edge 45 = .ok (.invokestatic 60, 3) := by decide +kernel
theorem xd_MO_edge_48 : decode xc_MO_edge 48 = .ok (.istore 4, 2) := by decide +kernel
theorem xd_MO_edge_50 : decode xc_MO_edge 50 = .ok (.aload_n 0, 1) := by decide +kernel
theorem xd_MO_edge_51 : decode xc_MO_edge 51 = .ok (.getfield 7, 3) := by decide +kernel
theorem xd_MO_edge_54 : decode xc_MO_edge 54 = .ok (.iload 4, 2) := by decide +kernel
theorem xd_MO_edge_56 : decode xc_MO_edge 56 = .ok (.baload, 1) := by decide +kernel
theorem xd_MO_edge_57 : decode xc_MO_edge 57 = .ok (.ifCond .ne 13, 3) := by decide +kernel
theorem xd_MO_edge_60 : decode xc_MO_edge 60 = .ok (.aload_n 0, 1) := by decide +kernel
theorem xd_MO_edge_61 : decode xc_MO_edge 61 = .ok (.getfield 64, 3) := by decide +kernel
theorem xd_MO_edge_64 : decode xc_MO_edge 64 = .ok (.sipush 300, 3) := by decide +kernel
theorem xd_MO_edge_67 : decode xc_MO_edge 67 = .ok (.if_icmp .ne 5, 3) := by decide +kernel
theorem xd_MO_edge_70 : decode xc_MO_edge 70 = .ok (.iconst 0, 1) := by decide +kernel
theorem xd_MO_edge_71 : decode xc_MO_edge 71 = .ok (.ireturn, 1) := by decide +kernel
theorem xd_MO_edge_72 : decode xc_MO_edge 72 = .ok (.aload_n 0, 1) := by decide +kernel
theorem xd_MO_edge_73 : decode xc_MO_edge 73 = .ok (.getfield 7, 3) := by decide +kernel
theorem xd_MO_edge_76 : decode xc_MO_edge 76 = .ok (.iload 4, 2) := by decide +kernel
theorem xd_MO_edge_78 : decode xc_MO_edge 78 = .ok (.iconst 1, 1) := by decide +kernel
theorem xd_MO_edge_79 : decode xc_MO_edge 79 = .ok (.bastore, 1) := by decide +kernel
theorem xd_MO_edge_80 : decode xc_MO_edge 80 = .ok (.aload_n 0, 1) := by decide +kernel
theorem xd_MO_edge_81 : decode xc_MO_edge 81 = .ok (.dup, 1) := by decide +kernel
theorem xd_MO_edge_82 : decode xc_MO_edge 82 = .ok (.getfield 64, 3) := by decide +kernel
theorem xd_MO_edge_85 : decode xc_MO_edge 85 = .ok (.iconst 1, 1) := by decide +kernel
theorem xd_MO_edge_86 : decode xc_MO_edge 86 = .ok (.iadd, 1) := by decide +kernel
theorem xd_MO_edge_87 : decode xc_MO_edge 87 = .ok (.putfield 64, 3) := by decide +kernel
theorem xd_MO_edge_90 : decode xc_MO_edge 90 = .ok (.iconst 1, 1) := by decide +kernel
theorem xd_MO_edge_91 : decode xc_MO_edge 91 = .ok (.ireturn, 1) := by decide +kernel
theorem xd_MO_in_0 : decode xc_MO_in 0 = .ok (.iload_n 0, 1) := by decide +kernel
theorem xd_MO_in_1 : decode xc_MO_in 1 = .ok (.ifCond .lt 12, 3) := by decide +kernel
theorem xd_MO_in_4 : decode xc_MO_in 4 = .ok (.iload_n 0, 1) := by decide +kernel
theorem xd_MO_in_5 : decode xc_MO_in 5 = .ok (.iload_n 1, 1) := by decide +kernel
theorem xd_MO_in_6 : decode xc_MO_in 6 = .ok (.if_icmp .ge 7, 3) := by decide +kernel
theorem xd_MO_in_9 : decode xc_MO_in 9 = .ok (.iconst 1, 1) := by decide +kernel
theorem xd_MO_in_10 : decode xc_MO_in 10 = .ok (.goto 4, 3) := by decide +kernel
theorem xd_MO_in_13 : decode xc_MO_in 13 = .ok (.iconst 0, 1) := by decide +kernel
theorem xd_MO_in_14 : decode xc_MO_in 14 = .ok (.ireturn, 1) := by decide +kernel
theorem xd_MO_fails_0 : decode xc_MO_fails 0 = .ok (.aload_n 0, 1) := by decide +kernel
theorem xd_MO_fails_1 : decode xc_MO_fails 1 = .ok (.iload_n 1, 1) := by decide +kernel
theorem xd_MO_fails_2 : decode xc_MO_fails 2 = .ok (.ifCond .eq 7, 3) := by decide +kernel
theorem xd_MO_fails_5 : decode xc_MO_fails 5 = .ok (.iconst 1, 1) := by decide +kernel
theorem xd_MO_fails_6 : decode xc_MO_fails 6 = .ok (.goto 12, 3) := by decide +kernel
theorem xd_MO_fails_9 : decode xc_MO_fails 9 = .ok (.iload_n 2, 1) := by decide +kernel
theorem xd_MO_fails_10 : decode xc_MO_fails 10 = .ok (.ifCond .eq 7, 3) := by decide +kernel
theorem xd_MO_fails_13 : decode xc_MO_fails 13 = .ok (.iconst 2, 1) := by decide +kernel
theorem xd_MO_fails_14 : decode xc_MO_fails 14 = .ok (.goto 4, 3) := by decide +kernel
theorem xd_MO_fails_17 : decode xc_MO_fails 17 = .ok (.iconst 0, 1) := by decide +kernel
theorem xd_MO_fails_18 : decode xc_MO_fails 18 = .ok (.putfield 48, 3) := by decide +kernel
theorem xd_MO_fails_21 : decode xc_MO_fails 21 = .ok (.aload_n 0, 1) := by decide +kernel
theorem xd_MO_fails_22 : decode xc_MO_fails 22 = .ok (.getfield 48, 3) := by decide +kernel
theorem xd_MO_fails_25 : decode xc_MO_fails 25 = .ok (.ifCond .le 7, 3) := by decide +kernel
theorem xd_MO_fails_28 : decode xc_MO_fails 28 = .ok (.iconst 1, 1) := by decide +kernel
theorem xd_MO_fails_29 : decode xc_MO_fails 29 = .ok (.goto 4, 3) := by decide +kernel
theorem xd_MO_fails_32 : decode xc_MO_fails 32 = .ok (.iconst 0, 1) := by decide +kernel
theorem xd_MO_fails_33 : decode xc_MO_fails 33 = .ok (.ireturn, 1) := by decide +kernel
theorem xd_MO_place_0 : decode xc_MO_place 0 = .ok (.bipush 32, 2) := by decide +kernel
theorem xd_MO_place_2 : decode xc_MO_place 2 = .ok (.iload_n 1, 1) := by decide +kernel
theorem xd_MO_place_3 : decode xc_MO_place 3 = .ok (.imul, 1) := by decide +kernel
theorem xd_MO_place_4 : decode xc_MO_place 4 = .ok (.iload_n 0, 1) := by decide +kernel
theorem xd_MO_place_5 : decode xc_MO_place 5 = .ok (.iadd, 1) := by decide +kernel
theorem xd_MO_place_6 : decode xc_MO_place 6 = .ok (.bipush 32, 2) := by decide +kernel
theorem xd_MO_place_8 : decode xc_MO_place 8 = .ok (.imul, 1) := by decide +kernel
theorem xd_MO_place_9 : decode xc_MO_place 9 = .ok (.iload_n 2, 1) := by decide +kernel
theorem xd_MO_place_10 : decode xc_MO_place 10 = .ok (.iadd, 1) := by decide +kernel
theorem xd_MO_place_11 : decode xc_MO_place 11 = .ok (.ireturn, 1) := by decide +kernel
theorem xd_MO_cut_0 : decode xc_MO_cut 0 = .ok (.aload_n 0, 1) := by decide +kernel
theorem xd_MO_cut_1 : decode xc_MO_cut 1 = .ok (.iload_n 1, 1) := by decide +kernel
theorem xd_MO_cut_2 : decode xc_MO_cut 2 = .ok (.bipush 32, 2) := by decide +kernel
theorem xd_MO_cut_4 : decode xc_MO_cut 4 = .ok (.invokestatic 52, 3) := by decide +kernel
theorem xd_MO_cut_7 : decode xc_MO_cut 7 = .ok (.ifCond .eq 21, 3) := by decide +kernel
theorem xd_MO_cut_10 : decode xc_MO_cut 10 = .ok (.iload_n 2, 1) := by decide +kernel
theorem xd_MO_cut_11 : decode xc_MO_cut 11 = .ok (.bipush 8, 2) := by decide +kernel
theorem xd_MO_cut_13 : decode xc_MO_cut 13 = .ok (.invokestatic 52, 3) := by decide +kernel
theorem xd_MO_cut_16 : decode xc_MO_cut 16 = .ok (.ifCond .eq 12, 3) := by decide +kernel
theorem xd_MO_cut_19 : decode xc_MO_cut 19 = .ok (.iload_n 3, 1) := by decide +kernel
theorem xd_MO_cut_20 : decode xc_MO_cut 20 = .ok (.bipush 32, 2) := by decide +kernel
theorem xd_MO_cut_22 : decode xc_MO_cut 22 = .ok (.invokestatic 52, 3) := by decide +kernel
theorem xd_MO_cut_25 : decode xc_MO_cut 25 = .ok (.ifCond .ne 7, 3) := by decide +kernel
theorem xd_MO_cut_28 : decode xc_MO_cut 28 = .ok (.iconst 1, 1) := by decide +kernel
theorem xd_MO_cut_29 : decode xc_MO_cut 29 = .ok (.goto 4, 3) := by decide +kernel
theorem xd_MO_cut_32 : decode xc_MO_cut 32 = .ok (.iconst 0, 1) := by decide +kernel
theorem xd_MO_cut_33 : decode xc_MO_cut 33 = .ok (.iconst 0, 1) := by decide +kernel
theorem xd_MO_cut_34 : decode xc_MO_cut 34 = .ok (.invokevirtual 56, 3) := by decide +kernel
theorem xd_MO_cut_37 : decode xc_MO_cut 37 = .ok (.ifCond .eq 5, 3) := by decide +kernel
theorem xd_MO_cut_40 : decode xc_MO_cut 40 = .ok (.iconst 0, 1) := by decide +kernel
theorem xd_MO_cut_41 : decode xc_MO_cut 41 = .ok (.ireturn, 1) := by decide +kernel
theorem xd_MO_cut_42 : decode xc_MO_cut 42 = .ok (.iload_n 1, 1) := by decide +kernel
theorem xd_MO_cut_43 : decode xc_MO_cut 43 = .ok (.iload_n 2, 1) := by decide +kernel
theorem xd_MO_cut_44 : decode xc_MO_cut 44 = .ok (.iload_n 3, 1) := by decide +kernel
theorem xd_MO_cut_45 : decode xc_MO_cut 45 = .ok (.invokestatic 60, 3) := by decide +kernel
theorem xd_MO_cut_48 : decode xc_MO_cut 48 = .ok (.istore 4, 2) := by decide +kernel
theorem xd_MO_cut_50 : decode xc_MO_cut 50 = .ok (.aload_n 0, 1) := by decide +kernel
theorem xd_MO_cut_51 : decode xc_MO_cut 51 = .ok (.getfield 7, 3) := by decide +kernel
theorem xd_MO_cut_54 : decode xc_MO_cut 54 = .ok (.iload 4, 2) := by decide +kernel
theorem xd_MO_cut_56 : decode xc_MO_cut 56 = .ok (.baload, 1) := by decide +kernel
theorem xd_MO_cut_57 : decode xc_MO_cut 57 = .ok (.istore 5, 2) := by decide +kernel
theorem xd_MO_cut_59 : decode xc_MO_cut 59 = .ok (.aload_n 0, 1) := by decide +kernel
theorem xd_MO_cut_60 : decode xc_MO_cut 60 = .ok (.getfield 7, 3) := by decide +kernel
theorem xd_MO_cut_63 : decode xc_MO_cut 63 = .ok (.iload 4, 2) := by decide +kernel
theorem xd_MO_cut_65 : decode xc_MO_cut 65 = .ok (.iconst 0, 1) := by decide +kernel
theorem xd_MO_cut_66 : decode xc_MO_cut 66 = .ok (.bastore, 1) := by decide +kernel
theorem xd_MO_cut_67 : decode xc_MO_cut 67 = .ok (.aload_n 0, 1) := by decide +kernel
theorem xd_MO_cut_68 : decode xc_MO_cut 68 = .ok (.dup, 1) := by decide +kernel
theorem xd_MO_cut_69 : decode xc_MO_cut 69 = .ok (.getfield 64, 3) := by decide +kernel
theorem xd_MO_cut_72 : decode xc_MO_cut 72 = .ok (.iload 5, 2) := by decide +kernel
theorem xd_MO_cut_74 : decode xc_MO_cut 74 = .ok (.ifCond .eq 7, 3) := by decide +kernel
theorem xd_MO_cut_77 : decode xc_MO_cut 77 = .ok (.iconst 1, 1) := by decide +kernel
theorem xd_MO_cut_78 : decode xc_MO_cut 78 = .ok (.goto 4, 3) := by decide +kernel
theorem xd_MO_cut_81 : decode xc_MO_cut 81 = .ok (.iconst 0, 1) := by decide +kernel
theorem xd_MO_cut_82 : decode xc_MO_cut 82 = .ok (.isub, 1) := by decide +kernel
theorem xd_MO_cut_83 : decode xc_MO_cut 83 = .ok (.putfield 64, 3) := by decide +kernel
theorem xd_MO_cut_86 : decode xc_MO_cut 86 = .ok (.iload 5, 2) := by decide +kernel
theorem xd_MO_cut_88 : decode xc_MO_cut 88 = .ok (.ireturn, 1) := by decide +kernel
theorem xd_MO_tag_0 : decode xc_MO_tag 0 = .ok (.aload_n 0, 1) := by decide +kernel
theorem xd_MO_tag_1 : decode xc_MO_tag 1 = .ok (.iload_n 1, 1) := by decide +kernel
theorem xd_MO_tag_2 : decode xc_MO_tag 2 = .ok (.bipush 32, 2) := by decide +kernel
theorem xd_MO_tag_4 : decode xc_MO_tag 4 = .ok (.invokestatic 52, 3) := by decide +kernel
theorem xd_MO_tag_7 : decode xc_MO_tag 7 = .ok (.ifCond .eq 11, 3) := by decide +kernel
theorem xd_MO_tag_10 : decode xc_MO_tag 10 = .ok (.iload_n 2, 1) := by decide +kernel
theorem xd_MO_tag_11 : decode xc_MO_tag 11 = .ok (.iconst 4, 1) := by decide +kernel
theorem xd_MO_tag_12 : decode xc_MO_tag 12 = .ok (.invokestatic 52, 3) := by decide +kernel
theorem xd_MO_tag_15 : decode xc_MO_tag 15 = .ok (.ifCond .ne 7, 3) := by decide +kernel
theorem xd_MO_tag_18 : decode xc_MO_tag 18 = .ok (.iconst 1, 1) := by decide +kernel
theorem xd_MO_tag_19 : decode xc_MO_tag 19 = .ok (.goto 4, 3) := by decide +kernel
theorem xd_MO_tag_22 : decode xc_MO_tag 22 = .ok (.iconst 0, 1) := by decide +kernel
theorem xd_MO_tag_23 : decode xc_MO_tag 23 = .ok (.iconst 0, 1) := by decide +kernel
theorem xd_MO_tag_24 : decode xc_MO_tag 24 = .ok (.invokevirtual 56, 3) := by decide +kernel
theorem xd_MO_tag_27 : decode xc_MO_tag 27 = .ok (.ifCond .eq 4, 3) := by decide +kernel
theorem xd_MO_tag_30 : decode xc_MO_tag 30 = .ok (.return_, 1) := by decide +kernel
theorem xd_MO_tag_31 : decode xc_MO_tag 31 = .ok (.aload_n 0, 1) := by decide +kernel
theorem xd_MO_tag_32 : decode xc_MO_tag 32 = .ok (.getfield 13, 3) := by decide +kernel
theorem xd_MO_tag_35 : decode xc_MO_tag 35 = .ok (.iconst 4, 1) := by decide +kernel
theorem xd_MO_tag_36 : decode xc_MO_tag 36 = .ok (.iload_n 1, 1) := by decide +kernel
theorem xd_MO_tag_37 : decode xc_MO_tag 37 = .ok (.imul, 1) := by decide +kernel
theorem xd_MO_tag_38 : decode xc_MO_tag 38 = .ok (.iload_n 2, 1) := by decide +kernel
theorem xd_MO_tag_39 : decode xc_MO_tag 39 = .ok (.iadd, 1) := by decide +kernel
theorem xd_MO_tag_40 : decode xc_MO_tag 40 = .ok (.iload_n 3, 1) := by decide +kernel
theorem xd_MO_tag_41 : decode xc_MO_tag 41 = .ok (.bastore, 1) := by decide +kernel
theorem xd_MO_tag_42 : decode xc_MO_tag 42 = .ok (.return_, 1) := by decide +kernel
theorem xd_MO_feed_0 : decode xc_MO_feed 0 = .ok (.aload_n 0, 1) := by decide +kernel
theorem xd_MO_feed_1 : decode xc_MO_feed 1 = .ok (.iload_n 3, 1) := by decide +kernel
theorem xd_MO_feed_2 : decode xc_MO_feed 2 = .ok (.iconst 1, 1) := by decide +kernel
theorem xd_MO_feed_3 : decode xc_MO_feed 3 = .ok (.if_icmp .lt 9, 3) := by decide +kernel
theorem xd_MO_feed_6 : decode xc_MO_feed 6 = .ok (.iload_n 3, 1) := by decide +kernel
theorem xd_MO_feed_7 : decode xc_MO_feed 7 = .ok (.bipush 8, 2) := by decide +kernel
theorem xd_MO_feed_9 : decode xc_MO_feed 9 = .ok (.if_icmp .le 7, 3) := by decide +kernel
theorem xd_MO_feed_12 : decode xc_MO_feed 12 = .ok (.iconst 1, 1) := by decide +kernel
theorem xd_MO_feed_13 : decode xc_MO_feed 13 = .ok (.goto 4, 3) := by decide +kernel
theorem xd_MO_feed_16 : decode xc_MO_feed 16 = .ok (.iconst 0, 1) := by decide +kernel
theorem xd_MO_feed_17 : decode xc_MO_feed 17 = .ok (.iconst 0, 1) := by decide +kernel
theorem xd_MO_feed_18 : decode xc_MO_feed 18 = .ok (.invokevirtual 56, 3) := by decide +kernel
theorem xd_MO_feed_21 : decode xc_MO_feed 21 = .ok (.ifCond .eq 5, 3) := by decide +kernel
theorem xd_MO_feed_24 : decode xc_MO_feed 24 = .ok (.iconst 0, 1) := by decide +kernel
theorem xd_MO_feed_25 : decode xc_MO_feed 25 = .ok (.ireturn, 1) := by decide +kernel
theorem xd_MO_feed_26 : decode xc_MO_feed 26 = .ok (.aload_n 0, 1) := by decide +kernel
theorem xd_MO_feed_27 : decode xc_MO_feed 27 = .ok (.getfield 67, 3) := by decide +kernel
theorem xd_MO_feed_30 : decode xc_MO_feed 30 = .ok (.iload_n 3, 1) := by decide +kernel
theorem xd_MO_feed_31 : decode xc_MO_feed 31 = .ok (.iadd, 1) := by decide +kernel
theorem xd_MO_feed_32 : decode xc_MO_feed 32 = .ok (.bipush 100, 2) := by decide +kernel
theorem xd_MO_feed_34 : decode xc_MO_feed 34 = .ok (.if_icmp .le 5, 3) := by decide +kernel
theorem xd_MO_feed_37 : decode xc_MO_feed 37 = .ok (.iconst (-1), 1) := by decide +kernel
theorem xd_MO_feed_38 : decode xc_MO_feed 38 = .ok (.ireturn, 1) := by decide +kernel
theorem xd_MO_feed_39 : decode xc_MO_feed 39 = .ok (.iload_n 3, 1) := by decide +kernel
theorem xd_MO_feed_40 : decode xc_MO_feed 40 = .ok (.iconst 1, 1) := by decide +kernel
theorem xd_MO_feed_41 : decode xc_MO_feed 41 = .ok (.isub, 1) := by decide +kernel
theorem xd_MO_feed_42 : decode xc_MO_feed 42 = .ok (.istore 4, 2) := by decide +kernel
theorem xd_MO_feed_44 : decode xc_MO_feed 44 = .ok (.iload 4, 2) := by decide +kernel
theorem xd_MO_feed_46 : decode xc_MO_feed 46 = .ok (.ifCond .lt 40, 3) := by decide +kernel
theorem xd_MO_feed_49 : decode xc_MO_feed 49 = .ok (.aload_n 0, 1) := by decide +kernel
theorem xd_MO_feed_50 : decode xc_MO_feed 50 = .ok (.getfield 16, 3) := by decide +kernel
theorem xd_MO_feed_53 : decode xc_MO_feed 53 = .ok (.aload_n 0, 1) := by decide +kernel
theorem xd_MO_feed_54 : decode xc_MO_feed 54 = .ok (.getfield 67, 3) := by decide +kernel
theorem xd_MO_feed_57 : decode xc_MO_feed 57 = .ok (.lload_n 1, 1) := by decide +kernel
theorem xd_MO_feed_58 : decode xc_MO_feed 58 = .ok (.bipush 8, 2) := by decide +kernel
theorem xd_MO_feed_60 : decode xc_MO_feed 60 = .ok (.iload 4, 2) := by decide +kernel
theorem xd_MO_feed_62 : decode xc_MO_feed 62 = .ok (.imul, 1) := by decide +kernel
theorem xd_MO_feed_63 : decode xc_MO_feed 63 = .ok (.lshr, 1) := by decide +kernel
theorem xd_MO_feed_64 : decode xc_MO_feed 64 = .ok (.ldc2_w 70, 3) := by decide +kernel
theorem xd_MO_feed_67 : decode xc_MO_feed 67 = .ok (.land, 1) := by decide +kernel
theorem xd_MO_feed_68 : decode xc_MO_feed 68 = .ok (.l2i, 1) := by decide +kernel
theorem xd_MO_feed_69 : decode xc_MO_feed 69 = .ok (.iastore, 1) := by decide +kernel
theorem xd_MO_feed_70 : decode xc_MO_feed 70 = .ok (.aload_n 0, 1) := by decide +kernel
theorem xd_MO_feed_71 : decode xc_MO_feed 71 = .ok (.dup, 1) := by decide +kernel
theorem xd_MO_feed_72 : decode xc_MO_feed 72 = .ok (.getfield 67, 3) := by decide +kernel
theorem xd_MO_feed_75 : decode xc_MO_feed 75 = .ok (.iconst 1, 1) := by decide +kernel
theorem xd_MO_feed_76 : decode xc_MO_feed 76 = .ok (.iadd, 1) := by decide +kernel
theorem xd_MO_feed_77 : decode xc_MO_feed 77 = .ok (.putfield 67, 3) := by decide +kernel
theorem xd_MO_feed_80 : decode xc_MO_feed 80 = .ok (.iinc 4 (-1), 3) := by decide +kernel
theorem xd_MO_feed_83 : decode xc_MO_feed 83 = .ok (.goto (-39), 3) := by decide +kernel
theorem xd_MO_feed_86 : decode xc_MO_feed 86 = .ok (.aload_n 0, 1) := by decide +kernel
theorem xd_MO_feed_87 : decode xc_MO_feed 87 = .ok (.getfield 67, 3) := by decide +kernel
theorem xd_MO_feed_90 : decode xc_MO_feed 90 = .ok (.ireturn, 1) := by decide +kernel
theorem xd_MO_load_0 : decode xc_MO_load 0 = .ok (.aload_n 0, 1) := by decide +kernel
theorem xd_MO_load_1 : decode xc_MO_load 1 = .ok (.iload_n 1, 1) := by decide +kernel
theorem xd_MO_load_2 : decode xc_MO_load 2 = .ok (.iconst 4, 1) := by decide +kernel
theorem xd_MO_load_3 : decode xc_MO_load 3 = .ok (.invokestatic 52, 3) := by decide +kernel
theorem xd_MO_load_6 : decode xc_MO_load 6 = .ok (.ifCond .ne 7, 3) := by decide +kernel
theorem xd_MO_load_9 : decode xc_MO_load 9 = .ok (.iconst 1, 1) := by decide +kernel
theorem xd_MO_load_10 : decode xc_MO_load 10 = .ok (.goto 4, 3) := by decide +kernel
theorem xd_MO_load_13 : decode xc_MO_load 13 = .ok (.iconst 0, 1) := by decide +kernel
theorem xd_MO_load_14 : decode xc_MO_load 14 = .ok (.iconst 0, 1) := by decide +kernel
theorem xd_MO_load_15 : decode xc_MO_load 15 = .ok (.invokevirtual 56, 3) := by decide +kernel
theorem xd_MO_load_18 : decode xc_MO_load 18 = .ok (.ifCond .eq 5, 3) := by decide +kernel
theorem xd_MO_load_21 : decode xc_MO_load 21 = .ok (.iconst 0, 1) := by decide +kernel
theorem xd_MO_load_22 : decode xc_MO_load 22 = .ok (.ireturn, 1) := by decide +kernel
theorem xd_MO_load_23 : decode xc_MO_load 23 = .ok (.iconst 0, 1) := by decide +kernel
theorem xd_MO_load_24 : decode xc_MO_load 24 = .ok (.istore_n 2, 1) := by decide +kernel
theorem xd_MO_load_25 : decode xc_MO_load 25 = .ok (.iload_n 2, 1) := by decide +kernel
theorem xd_MO_load_26 : decode xc_MO_load 26 = .ok (.aload_n 0, 1) := by decide +kernel
theorem xd_MO_load_27 : decode xc_MO_load 27 = .ok (.getfield 67, 3) := by decide +kernel
theorem xd_MO_load_30 : decode xc_MO_load 30 = .ok (.if_icmp .ge 21, 3) := by decide +kernel
theorem xd_MO_load_33 : decode xc_MO_load 33 = .ok (.aload_n 0, 1) := by decide +kernel
theorem xd_MO_load_34 : decode xc_MO_load 34 = .ok (.getfield 29, 3) := by decide +kernel
theorem xd_MO_load_37 : decode xc_MO_load 37 = .ok (.iload_n 2, 1) := by decide +kernel
theorem xd_MO_load_38 : decode xc_MO_load 38 = .ok (.aload_n 0, 1) := by decide +kernel
theorem xd_MO_load_39 : decode xc_MO_load 39 = .ok (.getfield 16, 3) := by decide +kernel
theorem xd_MO_load_42 : decode xc_MO_load 42 = .ok (.iload_n 2, 1) := by decide +kernel
theorem xd_MO_load_43 : decode xc_MO_load 43 = .ok (.iaload, 1) := by decide +kernel
theorem xd_MO_load_44 : decode xc_MO_load 44 = .ok (.iastore, 1) := by decide +kernel
theorem xd_MO_load_45 : decode xc_MO_load 45 = .ok (.iinc 2 1, 3) := by decide +kernel
theorem xd_MO_load_48 : decode xc_MO_load 48 = .ok (.goto (-23), 3) := by decide +kernel
theorem xd_MO_load_51 : decode xc_MO_load 51 = .ok (.aload_n 0, 1) := by decide +kernel
theorem xd_MO_load_52 : decode xc_MO_load 52 = .ok (.aload_n 0, 1) := by decide +kernel
theorem xd_MO_load_53 : decode xc_MO_load 53 = .ok (.getfield 67, 3) := by decide +kernel
theorem xd_MO_load_56 : decode xc_MO_load 56 = .ok (.putfield 75, 3) := by decide +kernel
theorem xd_MO_load_59 : decode xc_MO_load 59 = .ok (.aload_n 0, 1) := by decide +kernel
theorem xd_MO_load_60 : decode xc_MO_load 60 = .ok (.iconst 0, 1) := by decide +kernel
theorem xd_MO_load_61 : decode xc_MO_load 61 = .ok (.putfield 67, 3) := by decide +kernel
theorem xd_MO_load_64 : decode xc_MO_load 64 = .ok (.aload_n 0, 1) := by decide +kernel
theorem xd_MO_load_65 : decode xc_MO_load 65 = .ok (.getfield 23, 3) := by decide +kernel
theorem xd_MO_load_68 : decode xc_MO_load 68 = .ok (.iload_n 1, 1) := by decide +kernel
theorem xd_MO_load_69 : decode xc_MO_load 69 = .ok (.iconst 0, 1) := by decide +kernel
theorem xd_MO_load_70 : decode xc_MO_load 70 = .ok (.iastore, 1) := by decide +kernel
theorem xd_MO_load_71 : decode xc_MO_load 71 = .ok (.aload_n 0, 1) := by decide +kernel
theorem xd_MO_load_72 : decode xc_MO_load 72 = .ok (.getfield 26, 3) := by decide +kernel
theorem xd_MO_load_75 : decode xc_MO_load 75 = .ok (.iload_n 1, 1) := by decide +kernel
theorem xd_MO_load_76 : decode xc_MO_load 76 = .ok (.iconst 0, 1) := by decide +kernel
theorem xd_MO_load_77 : decode xc_MO_load 77 = .ok (.iastore, 1) := by decide +kernel
theorem xd_MO_load_78 : decode xc_MO_load 78 = .ok (.aload_n 0, 1) := by decide +kernel
theorem xd_MO_load_79 : decode xc_MO_load 79 = .ok (.iconst 0, 1) := by decide +kernel
theorem xd_MO_load_80 : decode xc_MO_load 80 = .ok (.invokevirtual 159, 3) := by decide +kernel
theorem xd_MO_load_83 : decode xc_MO_load 83 = .ok (.aload_n 0, 1) := by decide +kernel
theorem xd_MO_load_84 : decode xc_MO_load 84 = .ok (.invokevirtual 163, 3) := by decide +kernel
theorem xd_MO_load_87 : decode xc_MO_load 87 = .ok (.aload_n 0, 1) := by decide +kernel
theorem xd_MO_load_88 : decode xc_MO_load 88 = .ok (.invokevirtual 81, 3) := by decide +kernel
theorem xd_MO_load_91 : decode xc_MO_load 91 = .ok (.ifCond .ne 10, 3) := by decide +kernel
theorem xd_MO_load_94 : decode xc_MO_load 94 = .ok (.iconst 1, 1) := by decide +kernel
theorem xd_MO_load_95 : decode xc_MO_load 95 = .ok (.aload_n 0, 1) := by decide +kernel
theorem xd_MO_load_96 : decode xc_MO_load 96 = .ok (.getfield 78, 3) := by decide +kernel
theorem xd_MO_load_99 : decode xc_MO_load 99 = .ok (.iadd, 1) := by decide +kernel
theorem xd_MO_load_100 : decode xc_MO_load 100 = .ok (.ireturn, 1) := by decide +kernel
theorem xd_MO_load_101 : decode xc_MO_load 101 = .ok (.aload_n 0, 1) := by decide +kernel
theorem xd_MO_load_102 : decode xc_MO_load 102 = .ok (.getfield 36, 3) := by decide +kernel
theorem xd_MO_load_105 : decode xc_MO_load 105 = .ok (.iconst 0, 1) := by decide +kernel
theorem xd_MO_load_106 : decode xc_MO_load 106 = .ok (.iaload, 1) := by decide +kernel
theorem xd_MO_load_107 : decode xc_MO_load 107 = .ok (.bipush 80, 2) := by decide +kernel
theorem xd_MO_load_109 : decode xc_MO_load 109 = .ok (.if_icmp .le 6, 3) := by decide +kernel
theorem xd_MO_load_112 : decode xc_MO_load 112 = .ok (.bipush (-2), 2) := by decide +kernel
theorem xd_MO_load_114 : decode xc_MO_load 114 = .ok (.ireturn, 1) := by decide +kernel
theorem xd_MO_load_115 : decode xc_MO_load 115 = .ok (.iconst 0, 1) := by decide +kernel
theorem xd_MO_load_116 : decode xc_MO_load 116 = .ok (.istore_n 2, 1) := by decide +kernel
theorem xd_MO_load_117 : decode xc_MO_load 117 = .ok (.iload_n 2, 1) := by decide +kernel
theorem xd_MO_load_118 : decode xc_MO_load 118 = .ok (.aload_n 0, 1) := by decide +kernel
theorem xd_MO_load_119 : decode xc_MO_load 119 = .ok (.getfield 75, 3) := by decide +kernel
theorem xd_MO_load_122 : decode xc_MO_load 122 = .ok (.if_icmp .ge 26, 3) := by decide +kernel
theorem xd_MO_load_125 : decode xc_MO_load 125 = .ok (.aload_n 0, 1) := by decide +kernel
theorem xd_MO_load_126 : decode xc_MO_load 126 = .ok (.getfield 20, 3) := by decide +kernel
theorem xd_MO_load_129 : decode xc_MO_load 129 = .ok (.bipush 100, 2) := by decide +kernel
theorem xd_MO_load_131 : decode xc_MO_load 131 = .ok (.iload_n 1, 1) := by decide +kernel
theorem xd_MO_load_132 : decode xc_MO_load 132 = .ok (.imul, 1) := by decide +kernel
theorem xd_MO_load_133 : decode xc_MO_load 133 = .ok (.iload_n 2, 1) := by decide +kernel
theorem xd_MO_load_134 : decode xc_MO_load 134 = .ok (.iadd, 1) := by decide +kernel
theorem xd_MO_load_135 : decode xc_MO_load 135 = .ok (.aload_n 0, 1) := by decide +kernel
theorem xd_MO_load_136 : decode xc_MO_load 136 = .ok (.getfield 29, 3) := by decide +kernel
theorem xd_MO_load_139 : decode xc_MO_load 139 = .ok (.iload_n 2, 1) := by decide +kernel
theorem xd_MO_load_140 : decode xc_MO_load 140 = .ok (.iaload, 1) := by decide +kernel
theorem xd_MO_load_141 : decode xc_MO_load 141 = .ok (.iastore, 1) := by decide +kernel
theorem xd_MO_load_142 : decode xc_MO_load 142 = .ok (.iinc 2 1, 3) := by decide +kernel
theorem xd_MO_load_145 : decode xc_MO_load 145 = .ok (.goto (-28), 3) := by decide +kernel
theorem xd_MO_load_148 : decode xc_MO_load 148 = .ok (.aload_n 0, 1) := by decide +kernel
theorem xd_MO_load_149 : decode xc_MO_load 149 = .ok (.getfield 23, 3) := by decide +kernel
theorem xd_MO_load_152 : decode xc_MO_load 152 = .ok (.iload_n 1, 1) := by decide +kernel
theorem xd_MO_load_153 : decode xc_MO_load 153 = .ok (.aload_n 0, 1) := by decide +kernel
theorem xd_MO_load_154 : decode xc_MO_load 154 = .ok (.getfield 75, 3) := by decide +kernel
theorem xd_MO_load_157 : decode xc_MO_load 157 = .ok (.iastore, 1) := by decide +kernel
theorem xd_MO_load_158 : decode xc_MO_load 158 = .ok (.aload_n 0, 1) := by decide +kernel
theorem xd_MO_load_159 : decode xc_MO_load 159 = .ok (.getfield 26, 3) := by decide +kernel
theorem xd_MO_load_162 : decode xc_MO_load 162 = .ok (.iload_n 1, 1) := by decide +kernel
theorem xd_MO_load_163 : decode xc_MO_load 163 = .ok (.aload_n 0, 1) := by decide +kernel
theorem xd_MO_load_164 : decode xc_MO_load 164 = .ok (.getfield 36, 3) := by decide +kernel
theorem xd_MO_load_167 : decode xc_MO_load 167 = .ok (.iconst 0, 1) := by decide +kernel
theorem xd_MO_load_168 : decode xc_MO_load 168 = .ok (.iaload, 1) := by decide +kernel
theorem xd_MO_load_169 : decode xc_MO_load 169 = .ok (.iastore, 1) := by decide +kernel
theorem xd_MO_load_170 : decode xc_MO_load 170 = .ok (.iconst 0, 1) := by decide +kernel
theorem xd_MO_load_171 : decode xc_MO_load 171 = .ok (.ireturn, 1) := by decide +kernel
theorem xd_MO_begin_0 : decode xc_MO_begin 0 = .ok (.aload_n 0, 1) := by decide +kernel
theorem xd_MO_begin_1 : decode xc_MO_begin 1 = .ok (.iconst 0, 1) := by decide +kernel
theorem xd_MO_begin_2 : decode xc_MO_begin 2 = .ok (.putfield 72, 3) := by decide +kernel
theorem xd_MO_begin_5 : decode xc_MO_begin 5 = .ok (.aload_n 0, 1) := by decide +kernel
theorem xd_MO_begin_6 : decode xc_MO_begin 6 = .ok (.iconst 0, 1) := by decide +kernel
theorem xd_MO_begin_7 : decode xc_MO_begin 7 = .ok (.putfield 114, 3) := by decide +kernel
theorem xd_MO_begin_10 : decode xc_MO_begin 10 = .ok (.aload_n 0, 1) := by decide +kernel
theorem xd_MO_begin_11 : decode xc_MO_begin 11 = .ok (.iconst (-1), 1) := by decide +kernel
theorem xd_MO_begin_12 : decode xc_MO_begin 12 = .ok (.putfield 78, 3) := by decide +kernel
theorem xd_MO_begin_15 : decode xc_MO_begin 15 = .ok (.aload_n 0, 1) := by decide +kernel
theorem xd_MO_begin_16 : decode xc_MO_begin 16 = .ok (.iload_n 1, 1) := by decide +kernel
theorem xd_MO_begin_17 : decode xc_MO_begin 17 = .ok (.putfield 92, 3) := by decide +kernel
theorem xd_MO_begin_20 : decode xc_MO_begin 20 = .ok (.aload_n 0, 1) := by decide +kernel
theorem xd_MO_begin_21 : decode xc_MO_begin 21 = .ok (.invokevirtual 117, 3) := by decide +kernel
theorem xd_MO_begin_24 : decode xc_MO_begin 24 = .ok (.return_, 1) := by decide +kernel
theorem xd_MO_bracket_0 : decode xc_MO_bracket 0 = .ok (.aload_n 0, 1) := by decide +kernel
theorem xd_MO_bracket_1 : decode xc_MO_bracket 1 = .ok (.getfield 39, 3) := by decide +kernel
theorem xd_MO_bracket_4 : decode xc_MO_bracket 4 = .ok (.aload_n 0, 1) := by decide +kernel
theorem xd_MO_bracket_5 : decode xc_MO_bracket 5 = .ok (.getfield 114, 3) := by decide +kernel
theorem xd_MO_bracket_8 : decode xc_MO_bracket 8 = .ok (.iconst 0, 1) := by decide +kernel
theorem xd_MO_bracket_9 : decode xc_MO_bracket 9 = .ok (.bastore, 1) := by decide +kernel
theorem xd_MO_bracket_10 : decode xc_MO_bracket 10 = .ok (.aload_n 0, 1) := by decide +kernel
theorem xd_MO_bracket_11 : decode xc_MO_bracket 11 = .ok (.iconst 3, 1) := by decide +kernel
theorem xd_MO_bracket_12 : decode xc_MO_bracket 12 = .ok (.aload_n 0, 1) := by decide +kernel
theorem xd_MO_bracket_13 : decode xc_MO_bracket 13 = .ok (.getfield 114, 3) := by decide +kernel
theorem xd_MO_bracket_16 : decode xc_MO_bracket 16 = .ok (.imul, 1) := by decide +kernel
theorem xd_MO_bracket_17 : decode xc_MO_bracket 17 = .ok (.iconst 1, 1) := by decide +kernel
theorem xd_MO_bracket_18 : decode xc_MO_bracket 18 = .ok (.iadd, 1) := by decide +kernel
theorem xd_MO_bracket_19 : decode xc_MO_bracket 19 = .ok (.iconst 1, 1) := by decide +kernel
theorem xd_MO_bracket_20 : decode xc_MO_bracket 20 = .ok (.invokevirtual 97, 3) := by decide +kernel
theorem xd_MO_bracket_23 : decode xc_MO_bracket 23 = .ok (.aload_n 0, 1) := by decide +kernel
theorem xd_MO_bracket_24 : decode xc_MO_bracket 24 = .ok (.getfield 36, 3) := by decide +kernel
theorem xd_MO_bracket_27 : decode xc_MO_bracket 27 = .ok (.iconst 3, 1) := by decide +kernel
theorem xd_MO_bracket_28 : decode xc_MO_bracket 28 = .ok (.aload_n 0, 1) := by decide +kernel
theorem xd_MO_bracket_29 : decode xc_MO_bracket 29 = .ok (.getfield 114, 3) := by decide +kernel
theorem xd_MO_bracket_32 : decode xc_MO_bracket 32 = .ok (.imul, 1) := by decide +kernel
theorem xd_MO_bracket_33 : decode xc_MO_bracket 33 = .ok (.iconst 0, 1) := by decide +kernel
theorem xd_MO_bracket_34 : decode xc_MO_bracket 34 = .ok (.iastore, 1) := by decide +kernel
theorem xd_MO_bracket_35 : decode xc_MO_bracket 35 = .ok (.aload_n 0, 1) := by decide +kernel
theorem xd_MO_bracket_36 : decode xc_MO_bracket 36 = .ok (.getfield 36, 3) := by decide +kernel
theorem xd_MO_bracket_39 : decode xc_MO_bracket 39 = .ok (.iconst 3, 1) := by decide +kernel
theorem xd_MO_bracket_40 : decode xc_MO_bracket 40 = .ok (.aload_n 0, 1) := by decide +kernel
theorem xd_MO_bracket_41 : decode xc_MO_bracket 41 = .ok (.getfield 114, 3) := by decide +kernel
theorem xd_MO_bracket_44 : decode xc_MO_bracket 44 = .ok (.imul, 1) := by decide +kernel
theorem xd_MO_bracket_45 : decode xc_MO_bracket 45 = .ok (.iconst 1, 1) := by decide +kernel
theorem xd_MO_bracket_46 : decode xc_MO_bracket 46 = .ok (.iadd, 1) := by decide +kernel
theorem xd_MO_bracket_47 : decode xc_MO_bracket 47 = .ok (.iconst 0, 1) := by decide +kernel
theorem xd_MO_bracket_48 : decode xc_MO_bracket 48 = .ok (.iastore, 1) := by decide +kernel
theorem xd_MO_bracket_49 : decode xc_MO_bracket 49 = .ok (.return_, 1) := by decide +kernel
theorem xd_MO_plain_0 : decode xc_MO_plain 0 = .ok (.iconst 0, 1) := by decide +kernel
theorem xd_MO_plain_1 : decode xc_MO_plain 1 = .ok (.istore_n 3, 1) := by decide +kernel
theorem xd_MO_plain_2 : decode xc_MO_plain 2 = .ok (.aload_n 0, 1) := by decide +kernel
theorem xd_MO_plain_3 : decode xc_MO_plain 3 = .ok (.getfield 92, 3) := by decide +kernel
theorem xd_MO_plain_6 : decode xc_MO_plain 6 = .ok (.ifCond .eq 45, 3) := by decide +kernel
theorem xd_MO_plain_9 : decode xc_MO_plain 9 = .ok (.iload_n 3, 1) := by decide +kernel
theorem xd_MO_plain_10 : decode xc_MO_plain 10 = .ok (.sipush 1024, 3) := by decide +kernel
theorem xd_MO_plain_13 : decode xc_MO_plain 13 = .ok (.if_icmp .ge 38, 3) := by decide +kernel
theorem xd_MO_plain_16 : decode xc_MO_plain 16 = .ok (.aload_n 0, 1) := by decide +kernel
theorem xd_MO_plain_17 : decode xc_MO_plain 17 = .ok (.getfield 33, 3) := by decide +kernel
theorem xd_MO_plain_20 : decode xc_MO_plain 20 = .ok (.sipush 1024, 3) := by decide +kernel
theorem xd_MO_plain_23 : decode xc_MO_plain 23 = .ok (.iload_n 1, 1) := by decide +kernel
theorem xd_MO_plain_24 : decode xc_MO_plain 24 = .ok (.imul, 1) := by decide +kernel
theorem xd_MO_plain_25 : decode xc_MO_plain 25 = .ok (.iload_n 3, 1) := by decide +kernel
theorem xd_MO_plain_26 : decode xc_MO_plain 26 = .ok (.iadd, 1) := by decide +kernel
theorem xd_MO_plain_27 : decode xc_MO_plain 27 = .ok (.iload_n 2, 1) := by decide +kernel
theorem xd_MO_plain_28 : decode xc_MO_plain 28 = .ok (.ifCond .eq 14, 3) := by decide +kernel
theorem xd_MO_plain_31 : decode xc_MO_plain 31 = .ok (.iload_n 3, 1) := by decide +kernel
theorem xd_MO_plain_32 : decode xc_MO_plain 32 = .ok (.bipush 33, 2) := by decide +kernel
theorem xd_MO_plain_34 : decode xc_MO_plain 34 = .ok (.irem, 1) := by decide +kernel
theorem xd_MO_plain_35 : decode xc_MO_plain 35 = .ok (.ifCond .ne 7, 3) := by decide +kernel
theorem xd_MO_plain_38 : decode xc_MO_plain 38 = .ok (.iconst 0, 1) := by decide +kernel
theorem xd_MO_plain_39 : decode xc_MO_plain 39 = .ok (.goto 5, 3) := by decide +kernel
theorem xd_MO_plain_42 : decode xc_MO_plain 42 = .ok (.ldc 96, 2) := by decide +kernel
theorem xd_MO_plain_44 : decode xc_MO_plain 44 = .ok (.iastore, 1) := by decide +kernel
theorem xd_MO_plain_45 : decode xc_MO_plain 45 = .ok (.iinc 3 1, 3) := by decide +kernel
theorem xd_MO_plain_48 : decode xc_MO_plain 48 = .ok (.goto (-46), 3) := by decide +kernel
theorem xd_MO_plain_51 : decode xc_MO_plain 51 = .ok (.return_, 1) := by decide +kernel
theorem xd_MO_read_0 : decode xc_MO_read 0 = .ok (.iconst 1, 1) := by decide +kernel
theorem xd_MO_read_1 : decode xc_MO_read 1 = .ok (.istore_n 1, 1) := by decide +kernel
theorem xd_MO_read_2 : decode xc_MO_read 2 = .ok (.iload_n 1, 1) := by decide +kernel
theorem xd_MO_read_3 : decode xc_MO_read 3 = .ok (.ifCond .eq 139, 3) := by decide +kernel
theorem xd_MO_read_6 : decode xc_MO_read 6 = .ok (.aload_n 0, 1) := by decide +kernel
theorem xd_MO_read_7 : decode xc_MO_read 7 = .ok (.invokevirtual 81, 3) := by decide +kernel
theorem xd_MO_read_10 : decode xc_MO_read 10 = .ok (.ifCond .eq 132, 3) := by decide +kernel
theorem xd_MO_read_13 : decode xc_MO_read 13 = .ok (.aload_n 0, 1) := by decide +kernel
theorem xd_MO_read_14 : decode xc_MO_read 14 = .ok (.invokevirtual 85, 3) := by decide +kernel
theorem xd_MO_read_17 : decode xc_MO_read 17 = .ok (.istore_n 2, 1) := by decide +kernel
theorem xd_MO_read_18 : decode xc_MO_read 18 = .ok (.iload_n 2, 1) := by decide +kernel
theorem xd_MO_read_19 : decode xc_MO_read 19 = .ok (.bipush 40, 2) := by decide +kernel
theorem xd_MO_read_21 : decode xc_MO_read 21 = .ok (.if_icmp .ne 10, 3) := by decide +kernel
theorem xd_MO_read_24 : decode xc_MO_read 24 = .ok (.aload_n 0, 1) := by decide +kernel
theorem xd_MO_read_25 : decode xc_MO_read 25 = .ok (.invokevirtual 120, 3) := by decide +kernel
theorem xd_MO_read_28 : decode xc_MO_read 28 = .ok (.goto 111, 3) := by decide +kernel
theorem xd_MO_read_31 : decode xc_MO_read 31 = .ok (.iload_n 2, 1) := by decide +kernel
theorem xd_MO_read_32 : decode xc_MO_read 32 = .ok (.bipush 41, 2) := by decide +kernel
theorem xd_MO_read_34 : decode xc_MO_read 34 = .ok (.if_icmp .ne 17, 3) := by decide +kernel
theorem xd_MO_read_37 : decode xc_MO_read 37 = .ok (.aload_n 0, 1) := by decide +kernel
theorem xd_MO_read_38 : decode xc_MO_read 38 = .ok (.getfield 114, 3) := by decide +kernel
theorem xd_MO_read_41 : decode xc_MO_read 41 = .ok (.ifCond .le 10, 3) := by decide +kernel
theorem xd_MO_read_44 : decode xc_MO_read 44 = .ok (.aload_n 0, 1) := by decide +kernel
theorem xd_MO_read_45 : decode xc_MO_read 45 = .ok (.invokevirtual 123, 3) := by decide +kernel
theorem xd_MO_read_48 : decode xc_MO_read 48 = .ok (.goto 91, 3) := by decide +kernel
theorem xd_MO_read_51 : decode xc_MO_read 51 = .ok (.iload_n 2, 1) := by decide +kernel
theorem xd_MO_read_52 : decode xc_MO_read 52 = .ok (.bipush 124, 2) := by decide +kernel
theorem xd_MO_read_54 : decode xc_MO_read 54 = .ok (.if_icmp .ne 47, 3) := by decide +kernel
theorem xd_MO_read_57 : decode xc_MO_read 57 = .ok (.aload_n 0, 1) := by decide +kernel
theorem xd_MO_read_58 : decode xc_MO_read 58 = .ok (.dup, 1) := by decide +kernel
theorem xd_MO_read_59 : decode xc_MO_read 59 = .ok (.getfield 72, 3) := by decide +kernel
theorem xd_MO_read_62 : decode xc_MO_read 62 = .ok (.iconst 1, 1) := by decide +kernel
theorem xd_MO_read_63 : decode xc_MO_read 63 = .ok (.iadd, 1) := by decide +kernel
theorem xd_MO_read_64 : decode xc_MO_read 64 = .ok (.putfield 72, 3) := by decide +kernel
theorem xd_MO_read_67 : decode xc_MO_read 67 = .ok (.aload_n 0, 1) := by decide +kernel
theorem xd_MO_read_68 : decode xc_MO_read 68 = .ok (.invokevirtual 126, 3) := by decide +kernel
theorem xd_MO_read_71 : decode xc_MO_read 71 = .ok (.aload_n 0, 1) := by decide +kernel
theorem xd_MO_read_72 : decode xc_MO_read 72 = .ok (.iconst 3, 1) := by decide +kernel
theorem xd_MO_read_73 : decode xc_MO_read 73 = .ok (.aload_n 0, 1) := by decide +kernel
theorem xd_MO_read_74 : decode xc_MO_read 74 = .ok (.getfield 114, 3) := by decide +kernel
theorem xd_MO_read_77 : decode xc_MO_read 77 = .ok (.imul, 1) := by decide +kernel
theorem xd_MO_read_78 : decode xc_MO_read 78 = .ok (.iconst 1, 1) := by decide +kernel
theorem xd_MO_read_79 : decode xc_MO_read 79 = .ok (.iadd, 1) := by decide +kernel
theorem xd_MO_read_80 : decode xc_MO_read 80 = .ok (.iconst 1, 1) := by decide +kernel
theorem xd_MO_read_81 : decode xc_MO_read 81 = .ok (.invokevirtual 97, 3) := by decide +kernel
theorem xd_MO_read_84 : decode xc_MO_read 84 = .ok (.aload_n 0, 1) := by decide +kernel
theorem xd_MO_read_85 : decode xc_MO_read 85 = .ok (.getfield 36, 3) := by decide +kernel
theorem xd_MO_read_88 : decode xc_MO_read 88 = .ok (.iconst 3, 1) := by decide +kernel
theorem xd_MO_read_89 : decode xc_MO_read 89 = .ok (.aload_n 0, 1) := by decide +kernel
theorem xd_MO_read_90 : decode xc_MO_read 90 = .ok (.getfield 114, 3) := by decide +kernel
theorem xd_MO_read_93 : decode xc_MO_read 93 = .ok (.imul, 1) := by decide +kernel
theorem xd_MO_read_94 : decode xc_MO_read 94 = .ok (.iconst 1, 1) := by decide +kernel
theorem xd_MO_read_95 : decode xc_MO_read 95 = .ok (.iadd, 1) := by decide +kernel
theorem xd_MO_read_96 : decode xc_MO_read 96 = .ok (.iconst 0, 1) := by decide +kernel
theorem xd_MO_read_97 : decode xc_MO_read 97 = .ok (.iastore, 1) := by decide +kernel
theorem xd_MO_read_98 : decode xc_MO_read 98 = .ok (.goto 41, 3) := by decide +kernel
theorem xd_MO_read_101 : decode xc_MO_read 101 = .ok (.iload_n 2, 1) := by decide +kernel
theorem xd_MO_read_102 : decode xc_MO_read 102 = .ok (.invokestatic 129, 3) := by decide +kernel
theorem xd_MO_read_105 : decode xc_MO_read 105 = .ok (.ifCond .ne 21, 3) := by decide +kernel
theorem xd_MO_read_108 : decode xc_MO_read 108 = .ok (.iload_n 2, 1) := by decide +kernel
theorem xd_MO_read_109 : decode xc_MO_read 109 = .ok (.bipush 94, 2) := by decide +kernel
theorem xd_MO_read_111 : decode xc_MO_read 111 = .ok (.if_icmp .eq 15, 3) := by decide +kernel
theorem xd_MO_read_114 : decode xc_MO_read 114 = .ok (.iload_n 2, 1) := by decide +kernel
theorem xd_MO_read_115 : decode xc_MO_read 115 = .ok (.bipush 46, 2) := by decide +kernel
theorem xd_MO_read_117 : decode xc_MO_read 117 = .ok (.if_icmp .eq 9, 3) := by decide +kernel
theorem xd_MO_read_120 : decode xc_MO_read 120 = .ok (.iload_n 2, 1) := by decide +kernel
theorem xd_MO_read_121 : decode xc_MO_read 121 = .ok (.bipush 91, 2) := by decide +kernel
theorem xd_MO_read_123 : decode xc_MO_read 123 = .ok (.if_icmp .ne 14, 3) := by decide +kernel
theorem xd_MO_read_126 : decode xc_MO_read 126 = .ok (.aload_n 0, 1) := by decide +kernel
theorem xd_MO_read_127 : decode xc_MO_read 127 = .ok (.invokevirtual 133, 3) := by decide +kernel
theorem xd_MO_read_130 : decode xc_MO_read 130 = .ok (.aload_n 0, 1) := by decide +kernel
theorem xd_MO_read_131 : decode xc_MO_read 131 = .ok (.invokevirtual 136, 3) := by decide +kernel
theorem xd_MO_read_134 : decode xc_MO_read 134 = .ok (.goto 5, 3) := by decide +kernel
theorem xd_MO_read_137 : decode xc_MO_read 137 = .ok (.iconst 0, 1) := by decide +kernel
theorem xd_MO_read_138 : decode xc_MO_read 138 = .ok (.istore_n 1, 1) := by decide +kernel
theorem xd_MO_read_139 : decode xc_MO_read 139 = .ok (.goto (-137), 3) := by decide +kernel
theorem xd_MO_read_142 : decode xc_MO_read 142 = .ok (.aload_n 0, 1) := by decide +kernel
theorem xd_MO_read_143 : decode xc_MO_read 143 = .ok (.getfield 72, 3) := by decide +kernel
theorem xd_MO_read_146 : decode xc_MO_read 146 = .ok (.aload_n 0, 1) := by decide +kernel
theorem xd_MO_read_147 : decode xc_MO_read 147 = .ok (.getfield 75, 3) := by decide +kernel
theorem xd_MO_read_150 : decode xc_MO_read 150 = .ok (.if_icmp .lt 10, 3) := by decide +kernel
theorem xd_MO_read_153 : decode xc_MO_read 153 = .ok (.aload_n 0, 1) := by decide +kernel
theorem xd_MO_read_154 : decode xc_MO_read 154 = .ok (.getfield 114, 3) := by decide +kernel
theorem xd_MO_read_157 : decode xc_MO_read 157 = .ok (.ifCond .le 7, 3) := by decide +kernel
theorem xd_MO_read_160 : decode xc_MO_read 160 = .ok (.aload_n 0, 1) := by decide +kernel
theorem xd_MO_read_161 : decode xc_MO_read 161 = .ok (.invokevirtual 89, 3) := by decide +kernel
theorem xd_MO_read_164 : decode xc_MO_read 164 = .ok (.aload_n 0, 1) := by decide +kernel
theorem xd_MO_read_165 : decode xc_MO_read 165 = .ok (.invokevirtual 81, 3) := by decide +kernel
theorem xd_MO_read_168 : decode xc_MO_read 168 = .ok (.ifCond .eq 7, 3) := by decide +kernel
theorem xd_MO_read_171 : decode xc_MO_read 171 = .ok (.aload_n 0, 1) := by decide +kernel
theorem xd_MO_read_172 : decode xc_MO_read 172 = .ok (.invokevirtual 126, 3) := by decide +kernel
theorem xd_MO_read_175 : decode xc_MO_read 175 = .ok (.return_, 1) := by decide +kernel

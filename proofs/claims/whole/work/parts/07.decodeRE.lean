theorem xd_RE_init_0 : decode xc_RE_init 0 = .ok (.aload_n 0, 1) := by decide +kernel
theorem xd_RE_init_1 : decode xc_RE_init 1 = .ok (.invokespecial 3, 3) := by decide +kernel
theorem xd_RE_init_4 : decode xc_RE_init 4 = .ok (.aload_n 0, 1) := by decide +kernel
theorem xd_RE_init_5 : decode xc_RE_init 5 = .ok (.bipush 32, 2) := by decide +kernel
theorem xd_RE_init_7 : decode xc_RE_init 7 = .ok (.newarray .int, 2) := by decide +kernel
theorem xd_RE_init_9 : decode xc_RE_init 9 = .ok (.putfield 9, 3) := by decide +kernel
theorem xd_RE_init_12 : decode xc_RE_init 12 = .ok (.aload_n 0, 1) := by decide +kernel
theorem xd_RE_init_13 : decode xc_RE_init 13 = .ok (.sipush 1024, 3) := by decide +kernel
theorem xd_RE_init_16 : decode xc_RE_init 16 = .ok (.newarray .int, 2) := by decide +kernel
theorem xd_RE_init_18 : decode xc_RE_init 18 = .ok (.putfield 15, 3) := by decide +kernel
theorem xd_RE_init_21 : decode xc_RE_init 21 = .ok (.return_, 1) := by decide +kernel
theorem xd_RE_clear_0 : decode xc_RE_clear 0 = .ok (.aload_n 0, 1) := by decide +kernel
theorem xd_RE_clear_1 : decode xc_RE_clear 1 = .ok (.getfield 9, 3) := by decide +kernel
theorem xd_RE_clear_4 : decode xc_RE_clear 4 = .ok (.iconst 0, 1) := by decide +kernel
theorem xd_RE_clear_5 : decode xc_RE_clear 5 = .ok (.invokestatic 18, 3) := by decide +kernel
theorem xd_RE_clear_8 : decode xc_RE_clear 8 = .ok (.return_, 1) := by decide +kernel
theorem xd_RE_addStays_0 : decode xc_RE_addStays 0 = .ok (.iconst 0, 1) := by decide +kernel
theorem xd_RE_addStays_1 : decode xc_RE_addStays 1 = .ok (.istore_n 2, 1) := by decide +kernel
theorem xd_RE_addStays_2 : decode xc_RE_addStays 2 = .ok (.iload_n 2, 1) := by decide +kernel
theorem xd_RE_addStays_3 : decode xc_RE_addStays 3 = .ok (.bipush 32, 2) := by decide +kernel
theorem xd_RE_addStays_5 : decode xc_RE_addStays 5 = .ok (.if_icmp .ge 24, 3) := by decide +kernel
theorem xd_RE_addStays_8 : decode xc_RE_addStays 8 = .ok (.iload_n 1, 1) := by decide +kernel
theorem xd_RE_addStays_9 : decode xc_RE_addStays 9 = .ok (.iload_n 2, 1) := by decide +kernel
theorem xd_RE_addStays_10 : decode xc_RE_addStays 10 = .ok (.invokestatic 24, 3) := by decide +kernel
theorem xd_RE_addStays_13 : decode xc_RE_addStays 13 = .ok (.ifCond .eq 10, 3) := by decide +kernel
theorem xd_RE_addStays_16 : decode xc_RE_addStays 16 = .ok (.aload_n 0, 1) := by decide +kernel
theorem xd_RE_addStays_17 : decode xc_RE_addStays 17 = .ok (.iload_n 2, 1) := by decide +kernel
theorem xd_RE_addStays_18 : decode xc_RE_addStays 18 = .ok (.iload_n 2, 1) := by decide +kernel
theorem xd_RE_addStays_19 : decode xc_RE_addStays 19 = .ok (.iconst 0, 1) := by decide +kernel
theorem xd_RE_addStays_20 : decode xc_RE_addStays 20 = .ok (.invokevirtual 28, 3) := by decide +kernel
theorem xd_RE_addStays_23 : decode xc_RE_addStays 23 = .ok (.iinc 2 1, 3) := by decide +kernel
theorem xd_RE_addStays_26 : decode xc_RE_addStays 26 = .ok (.goto (-24), 3) := by decide +kernel
theorem xd_RE_addStays_29 : decode xc_RE_addStays 29 = .ok (.return_, 1) := by decide +kernel
theorem xd_RE_offer_0 : decode xc_RE_offer 0 = .ok (.iload_n 1, 1) := by decide +kernel
theorem xd_RE_offer_1 : decode xc_RE_offer 1 = .ok (.bipush 32, 2) := by decide +kernel
theorem xd_RE_offer_3 : decode xc_RE_offer 3 = .ok (.imul, 1) := by decide +kernel
theorem xd_RE_offer_4 : decode xc_RE_offer 4 = .ok (.iload_n 2, 1) := by decide +kernel
theorem xd_RE_offer_5 : decode xc_RE_offer 5 = .ok (.iadd, 1) := by decide +kernel
theorem xd_RE_offer_6 : decode xc_RE_offer 6 = .ok (.istore 4, 2) := by decide +kernel
theorem xd_RE_offer_8 : decode xc_RE_offer 8 = .ok (.iconst 1, 1) := by decide +kernel
theorem xd_RE_offer_9 : decode xc_RE_offer 9 = .ok (.iload_n 2, 1) := by decide +kernel
theorem xd_RE_offer_10 : decode xc_RE_offer 10 = .ok (.ishl, 1) := by decide +kernel
theorem xd_RE_offer_11 : decode xc_RE_offer 11 = .ok (.istore 5, 2) := by decide +kernel
theorem xd_RE_offer_13 : decode xc_RE_offer 13 = .ok (.aload_n 0, 1) := by decide +kernel
theorem xd_RE_offer_14 : decode xc_RE_offer 14 = .ok (.getfield 9, 3) := by decide +kernel
theorem xd_RE_offer_17 : decode xc_RE_offer 17 = .ok (.iload_n 1, 1) := by decide +kernel
theorem xd_RE_offer_18 : decode xc_RE_offer 18 = .ok (.iaload, 1) := by decide +kernel
theorem xd_RE_offer_19 : decode xc_RE_offer 19 = .ok (.iload 5, 2) := by decide +kernel
theorem xd_RE_offer_21 : decode xc_RE_offer 21 = .ok (.iand, 1) := by decide +kernel
theorem xd_RE_offer_22 : decode xc_RE_offer 22 = .ok (.ifCond .eq 14, 3) := by decide +kernel
theorem xd_RE_offer_25 : decode xc_RE_offer 25 = .ok (.iload_n 3, 1) := by decide +kernel
theorem xd_RE_offer_26 : decode xc_RE_offer 26 = .ok (.aload_n 0, 1) := by decide +kernel
theorem xd_RE_offer_27 : decode xc_RE_offer 27 = .ok (.getfield 15, 3) := by decide +kernel
theorem xd_RE_offer_30 : decode xc_RE_offer 30 = .ok (.iload 4, 2) := by decide +kernel
theorem xd_RE_offer_32 : decode xc_RE_offer 32 = .ok (.iaload, 1) := by decide +kernel
theorem xd_RE_offer_33 : decode xc_RE_offer 33 = .ok (.if_icmp .ge 22, 3) := by decide +kernel
theorem xd_RE_offer_36 : decode xc_RE_offer 36 = .ok (.aload_n 0, 1) := by decide +kernel
theorem xd_RE_offer_37 : decode xc_RE_offer 37 = .ok (.getfield 9, 3) := by decide +kernel
theorem xd_RE_offer_40 : decode xc_RE_offer 40 = .ok (.iload_n 1, 1) := by decide +kernel
theorem xd_RE_offer_41 : decode xc_RE_offer 41 = .ok (.dup2, 1) := by decide +kernel
theorem xd_RE_offer_42 : decode xc_RE_offer 42 = .ok (.iaload, 1) := by decide +kernel
theorem xd_RE_offer_43 : decode xc_RE_offer 43 = .ok (.iload 5, 2) := by decide +kernel
theorem xd_RE_offer_45 : decode xc_RE_offer 45 = .ok (.ior, 1) := by decide +kernel
theorem xd_RE_offer_46 : decode xc_RE_offer 46 = .ok (.iastore, 1) := by decide +kernel
theorem xd_RE_offer_47 : decode xc_RE_offer 47 = .ok (.aload_n 0, 1) := by decide +kernel
theorem xd_RE_offer_48 : decode xc_RE_offer 48 = .ok (.getfield 15, 3) := by decide +kernel
theorem xd_RE_offer_51 : decode xc_RE_offer 51 = .ok (.iload 4, 2) := by decide +kernel
theorem xd_RE_offer_53 : decode xc_RE_offer 53 = .ok (.iload_n 3, 1) := by decide +kernel
theorem xd_RE_offer_54 : decode xc_RE_offer 54 = .ok (.iastore, 1) := by decide +kernel
theorem xd_RE_offer_55 : decode xc_RE_offer 55 = .ok (.return_, 1) := by decide +kernel
theorem xd_RE_addEdges_0 : decode xc_RE_addEdges 0 = .ok (.iconst 0, 1) := by decide +kernel
theorem xd_RE_addEdges_1 : decode xc_RE_addEdges 1 = .ok (.istore 4, 2) := by decide +kernel
theorem xd_RE_addEdges_3 : decode xc_RE_addEdges 3 = .ok (.iload 4, 2) := by decide +kernel
theorem xd_RE_addEdges_5 : decode xc_RE_addEdges 5 = .ok (.bipush 32, 2) := by decide +kernel
theorem xd_RE_addEdges_7 : decode xc_RE_addEdges 7 = .ok (.if_icmp .ge 80, 3) := by decide +kernel
theorem xd_RE_addEdges_10 : decode xc_RE_addEdges 10 = .ok (.aload_n 1, 1) := by decide +kernel
theorem xd_RE_addEdges_11 : decode xc_RE_addEdges 11 = .ok (.iload 4, 2) := by decide +kernel
theorem xd_RE_addEdges_13 : decode xc_RE_addEdges 13 = .ok (.iload_n 2, 1) := by decide +kernel
theorem xd_RE_addEdges_14 : decode xc_RE_addEdges 14 = .ok (.invokevirtual 32, 3) := by decide +kernel
theorem xd_RE_addEdges_17 : decode xc_RE_addEdges 17 = .ok (.istore 5, 2) := by decide +kernel
theorem xd_RE_addEdges_19 : decode xc_RE_addEdges 19 = .ok (.iconst 0, 1) := by decide +kernel
theorem xd_RE_addEdges_20 : decode xc_RE_addEdges 20 = .ok (.istore 6, 2) := by decide +kernel
theorem xd_RE_addEdges_22 : decode xc_RE_addEdges 22 = .ok (.iload 6, 2) := by decide +kernel
theorem xd_RE_addEdges_24 : decode xc_RE_addEdges 24 = .ok (.bipush 32, 2) := by decide +kernel
theorem xd_RE_addEdges_26 : decode xc_RE_addEdges 26 = .ok (.if_icmp .ge 55, 3) := by decide +kernel
theorem xd_RE_addEdges_29 : decode xc_RE_addEdges 29 = .ok (.iload 5, 2) := by decide +kernel
theorem xd_RE_addEdges_31 : decode xc_RE_addEdges 31 = .ok (.iload 6, 2) := by decide +kernel
theorem xd_RE_addEdges_33 : decode xc_RE_addEdges 33 = .ok (.iushr, 1) := by decide +kernel
theorem xd_RE_addEdges_34 : decode xc_RE_addEdges 34 = .ok (.ifCond .eq 47, 3) := by decide +kernel
theorem xd_RE_addEdges_37 : decode xc_RE_addEdges 37 = .ok (.iload 5, 2) := by decide +kernel
theorem xd_RE_addEdges_39 : decode xc_RE_addEdges 39 = .ok (.iload 6, 2) := by decide +kernel
theorem xd_RE_addEdges_41 : decode xc_RE_addEdges 41 = .ok (.invokestatic 24, 3) := by decide +kernel
theorem xd_RE_addEdges_44 : decode xc_RE_addEdges 44 = .ok (.ifCond .ne 6, 3) := by decide +kernel
theorem xd_RE_addEdges_47 : decode xc_RE_addEdges 47 = .ok (.goto 28, 3) := by decide +kernel
theorem xd_RE_addEdges_50 : decode xc_RE_addEdges 50 = .ok (.iload_n 3, 1) := by decide +kernel
theorem xd_RE_addEdges_51 : decode xc_RE_addEdges 51 = .ok (.ifCond .eq 15, 3) := by decide +kernel
theorem xd_RE_addEdges_54 : decode xc_RE_addEdges 54 = .ok (.aload_n 0, 1) := by decide +kernel
theorem xd_RE_addEdges_55 : decode xc_RE_addEdges 55 = .ok (.iload 6, 2) := by decide +kernel
theorem xd_RE_addEdges_57 : decode xc_RE_addEdges 57 = .ok (.iload 4, 2) := by decide +kernel
theorem xd_RE_addEdges_59 : decode xc_RE_addEdges 59 = .ok (.iconst 1, 1) := by decide +kernel
theorem xd_RE_addEdges_60 : decode xc_RE_addEdges 60 = .ok (.invokevirtual 28, 3) := by decide +kernel
theorem xd_RE_addEdges_63 : decode xc_RE_addEdges 63 = .ok (.goto 12, 3) := by decide +kernel
theorem xd_RE_addEdges_66 : decode xc_RE_addEdges 66 = .ok (.aload_n 0, 1) := by decide +kernel
theorem xd_RE_addEdges_67 : decode xc_RE_addEdges 67 = .ok (.iload 4, 2) := by decide +kernel
theorem xd_RE_addEdges_69 : decode xc_RE_addEdges 69 = .ok (.iload 6, 2) := by decide +kernel
theorem xd_RE_addEdges_71 : decode xc_RE_addEdges 71 = .ok (.iconst 1, 1) := by decide +kernel
theorem xd_RE_addEdges_72 : decode xc_RE_addEdges 72 = .ok (.invokevirtual 28, 3) := by decide +kernel
theorem xd_RE_addEdges_75 : decode xc_RE_addEdges 75 = .ok (.iinc 6 1, 3) := by decide +kernel
theorem xd_RE_addEdges_78 : decode xc_RE_addEdges 78 = .ok (.goto (-56), 3) := by decide +kernel
theorem xd_RE_addEdges_81 : decode xc_RE_addEdges 81 = .ok (.iinc 4 1, 3) := by decide +kernel
theorem xd_RE_addEdges_84 : decode xc_RE_addEdges 84 = .ok (.goto (-81), 3) := by decide +kernel
theorem xd_RE_addEdges_87 : decode xc_RE_addEdges 87 = .ok (.return_, 1) := by decide +kernel
theorem xd_RE_setToChain_0 : decode xc_RE_setToChain 0 = .ok (.aload_n 0, 1) := by decide +kernel
theorem xd_RE_setToChain_1 : decode xc_RE_setToChain 1 = .ok (.invokevirtual 42, 3) := by decide +kernel
theorem xd_RE_setToChain_4 : decode xc_RE_setToChain 4 = .ok (.iconst 0, 1) := by decide +kernel
theorem xd_RE_setToChain_5 : decode xc_RE_setToChain 5 = .ok (.istore_n 3, 1) := by decide +kernel
theorem xd_RE_setToChain_6 : decode xc_RE_setToChain 6 = .ok (.iload_n 3, 1) := by decide +kernel
theorem xd_RE_setToChain_7 : decode xc_RE_setToChain 7 = .ok (.bipush 32, 2) := by decide +kernel
theorem xd_RE_setToChain_9 : decode xc_RE_setToChain 9 = .ok (.if_icmp .ge 71, 3) := by decide +kernel
theorem xd_RE_setToChain_12 : decode xc_RE_setToChain 12 = .ok (.aload_n 1, 1) := by decide +kernel
theorem xd_RE_setToChain_13 : decode xc_RE_setToChain 13 = .ok (.getfield 9, 3) := by decide +kernel
theorem xd_RE_setToChain_16 : decode xc_RE_setToChain 16 = .ok (.iload_n 3, 1) := by decide +kernel
theorem xd_RE_setToChain_17 : decode xc_RE_setToChain 17 = .ok (.iaload, 1) := by decide +kernel
theorem xd_RE_setToChain_18 : decode xc_RE_setToChain 18 = .ok (.istore 4, 2) := by decide +kernel
theorem xd_RE_setToChain_20 : decode xc_RE_setToChain 20 = .ok (.iconst 0, 1) := by decide +kernel
theorem xd_RE_setToChain_21 : decode xc_RE_setToChain 21 = .ok (.istore 5, 2) := by decide +kernel
theorem xd_RE_setToChain_23 : decode xc_RE_setToChain 23 = .ok (.iload 5, 2) := by decide +kernel
theorem xd_RE_setToChain_25 : decode xc_RE_setToChain 25 = .ok (.bipush 32, 2) := by decide +kernel
theorem xd_RE_setToChain_27 : decode xc_RE_setToChain 27 = .ok (.if_icmp .ge 47, 3) := by decide +kernel
theorem xd_RE_setToChain_30 : decode xc_RE_setToChain 30 = .ok (.iload 4, 2) := by decide +kernel
theorem xd_RE_setToChain_32 : decode xc_RE_setToChain 32 = .ok (.iload 5, 2) := by decide +kernel
theorem xd_RE_setToChain_34 : decode xc_RE_setToChain 34 = .ok (.iushr, 1) := by decide +kernel
theorem xd_RE_setToChain_35 : decode xc_RE_setToChain 35 = .ok (.ifCond .eq 39, 3) := by decide +kernel
theorem xd_RE_setToChain_38 : decode xc_RE_setToChain 38 = .ok (.iload 4, 2) := by decide +kernel
theorem xd_RE_setToChain_40 : decode xc_RE_setToChain 40 = .ok (.iload 5, 2) := by decide +kernel
theorem xd_RE_setToChain_42 : decode xc_RE_setToChain 42 = .ok (.invokestatic 24, 3) := by decide +kernel
theorem xd_RE_setToChain_45 : decode xc_RE_setToChain 45 = .ok (.ifCond .eq 23, 3) := by decide +kernel
theorem xd_RE_setToChain_48 : decode xc_RE_setToChain 48 = .ok (.aload_n 0, 1) := by decide +kernel
theorem xd_RE_setToChain_49 : decode xc_RE_setToChain 49 = .ok (.iload_n 3, 1) := by decide +kernel
theorem xd_RE_setToChain_50 : decode xc_RE_setToChain 50 = .ok (.aload_n 1, 1) := by decide +kernel
theorem xd_RE_setToChain_51 : decode xc_RE_setToChain 51 = .ok (.getfield 15, 3) := by decide +kernel
theorem xd_RE_setToChain_54 : decode xc_RE_setToChain 54 = .ok (.iload_n 3, 1) := by decide +kernel
theorem xd_RE_setToChain_55 : decode xc_RE_setToChain 55 = .ok (.bipush 32, 2) := by decide +kernel
theorem xd_RE_setToChain_57 : decode xc_RE_setToChain 57 = .ok (.imul, 1) := by decide +kernel
theorem xd_RE_setToChain_58 : decode xc_RE_setToChain 58 = .ok (.iload 5, 2) := by decide +kernel
theorem xd_RE_setToChain_60 : decode xc_RE_setToChain 60 = .ok (.iadd, 1) := by decide +kernel
theorem xd_RE_setToChain_61 : decode xc_RE_setToChain 61 = .ok (.iaload, 1) := by decide +kernel
theorem xd_RE_setToChain_62 : decode xc_RE_setToChain 62 = .ok (.aload_n 2, 1) := by decide +kernel
theorem xd_RE_setToChain_63 : decode xc_RE_setToChain 63 = .ok (.iload 5, 2) := by decide +kernel
theorem xd_RE_setToChain_65 : decode xc_RE_setToChain 65 = .ok (.invokevirtual 38, 3) := by decide +kernel
theorem xd_RE_setToChain_68 : decode xc_RE_setToChain 68 = .ok (.iinc 5 1, 3) := by decide +kernel
theorem xd_RE_setToChain_71 : decode xc_RE_setToChain 71 = .ok (.goto (-48), 3) := by decide +kernel
theorem xd_RE_setToChain_74 : decode xc_RE_setToChain 74 = .ok (.iinc 3 1, 3) := by decide +kernel
theorem xd_RE_setToChain_77 : decode xc_RE_setToChain 77 = .ok (.goto (-71), 3) := by decide +kernel
theorem xd_RE_setToChain_80 : decode xc_RE_setToChain 80 = .ok (.return_, 1) := by decide +kernel
theorem xd_RE_addGoingOn_0 : decode xc_RE_addGoingOn 0 = .ok (.aload_n 3, 1) := by decide +kernel
theorem xd_RE_addGoingOn_1 : decode xc_RE_addGoingOn 1 = .ok (.getfield 9, 3) := by decide +kernel
theorem xd_RE_addGoingOn_4 : decode xc_RE_addGoingOn 4 = .ok (.iload 4, 2) := by decide +kernel
theorem xd_RE_addGoingOn_6 : decode xc_RE_addGoingOn 6 = .ok (.iaload, 1) := by decide +kernel
theorem xd_RE_addGoingOn_7 : decode xc_RE_addGoingOn 7 = .ok (.istore 5, 2) := by decide +kernel
theorem xd_RE_addGoingOn_9 : decode xc_RE_addGoingOn 9 = .ok (.iconst 0, 1) := by decide +kernel
theorem xd_RE_addGoingOn_10 : decode xc_RE_addGoingOn 10 = .ok (.istore 6, 2) := by decide +kernel
theorem xd_RE_addGoingOn_12 : decode xc_RE_addGoingOn 12 = .ok (.iload 6, 2) := by decide +kernel
theorem xd_RE_addGoingOn_14 : decode xc_RE_addGoingOn 14 = .ok (.bipush 32, 2) := by decide +kernel
theorem xd_RE_addGoingOn_16 : decode xc_RE_addGoingOn 16 = .ok (.if_icmp .ge 49, 3) := by decide +kernel
theorem xd_RE_addGoingOn_19 : decode xc_RE_addGoingOn 19 = .ok (.iload 5, 2) := by decide +kernel
theorem xd_RE_addGoingOn_21 : decode xc_RE_addGoingOn 21 = .ok (.iload 6, 2) := by decide +kernel
theorem xd_RE_addGoingOn_23 : decode xc_RE_addGoingOn 23 = .ok (.iushr, 1) := by decide +kernel
theorem xd_RE_addGoingOn_24 : decode xc_RE_addGoingOn 24 = .ok (.ifCond .eq 41, 3) := by decide +kernel
theorem xd_RE_addGoingOn_27 : decode xc_RE_addGoingOn 27 = .ok (.iload 5, 2) := by decide +kernel
theorem xd_RE_addGoingOn_29 : decode xc_RE_addGoingOn 29 = .ok (.iload 6, 2) := by decide +kernel
theorem xd_RE_addGoingOn_31 : decode xc_RE_addGoingOn 31 = .ok (.invokestatic 24, 3) := by decide +kernel
theorem xd_RE_addGoingOn_34 : decode xc_RE_addGoingOn 34 = .ok (.ifCond .eq 25, 3) := by decide +kernel
theorem xd_RE_addGoingOn_37 : decode xc_RE_addGoingOn 37 = .ok (.aload_n 0, 1) := by decide +kernel
theorem xd_RE_addGoingOn_38 : decode xc_RE_addGoingOn 38 = .ok (.iload_n 1, 1) := by decide +kernel
theorem xd_RE_addGoingOn_39 : decode xc_RE_addGoingOn 39 = .ok (.iload 6, 2) := by decide +kernel
theorem xd_RE_addGoingOn_41 : decode xc_RE_addGoingOn 41 = .ok (.iload_n 2, 1) := by decide +kernel
theorem xd_RE_addGoingOn_42 : decode xc_RE_addGoingOn 42 = .ok (.aload_n 3, 1) := by decide +kernel
theorem xd_RE_addGoingOn_43 : decode xc_RE_addGoingOn 43 = .ok (.getfield 15, 3) := by decide +kernel
theorem xd_RE_addGoingOn_46 : decode xc_RE_addGoingOn 46 = .ok (.iload 4, 2) := by decide +kernel
theorem xd_RE_addGoingOn_48 : decode xc_RE_addGoingOn 48 = .ok (.bipush 32, 2) := by decide +kernel
theorem xd_RE_addGoingOn_50 : decode xc_RE_addGoingOn 50 = .ok (.imul, 1) := by decide +kernel
theorem xd_RE_addGoingOn_51 : decode xc_RE_addGoingOn 51 = .ok (.iload 6, 2) := by decide +kernel
theorem xd_RE_addGoingOn_53 : decode xc_RE_addGoingOn 53 = .ok (.iadd, 1) := by decide +kernel
theorem xd_RE_addGoingOn_54 : decode xc_RE_addGoingOn 54 = .ok (.iaload, 1) := by decide +kernel
theorem xd_RE_addGoingOn_55 : decode xc_RE_addGoingOn 55 = .ok (.iadd, 1) := by decide +kernel
theorem xd_RE_addGoingOn_56 : decode xc_RE_addGoingOn 56 = .ok (.invokevirtual 28, 3) := by decide +kernel
theorem xd_RE_addGoingOn_59 : decode xc_RE_addGoingOn 59 = .ok (.iinc 6 1, 3) := by decide +kernel
theorem xd_RE_addGoingOn_62 : decode xc_RE_addGoingOn 62 = .ok (.goto (-50), 3) := by decide +kernel
theorem xd_RE_addGoingOn_65 : decode xc_RE_addGoingOn 65 = .ok (.return_, 1) := by decide +kernel
theorem xd_RE_addAll_0 : decode xc_RE_addAll 0 = .ok (.iconst 0, 1) := by decide +kernel
theorem xd_RE_addAll_1 : decode xc_RE_addAll 1 = .ok (.istore_n 2, 1) := by decide +kernel
theorem xd_RE_addAll_2 : decode xc_RE_addAll 2 = .ok (.iload_n 2, 1) := by decide +kernel
theorem xd_RE_addAll_3 : decode xc_RE_addAll 3 = .ok (.bipush 32, 2) := by decide +kernel
theorem xd_RE_addAll_5 : decode xc_RE_addAll 5 = .ok (.if_icmp .ge 17, 3) := by decide +kernel
theorem xd_RE_addAll_8 : decode xc_RE_addAll 8 = .ok (.aload_n 0, 1) := by decide +kernel
theorem xd_RE_addAll_9 : decode xc_RE_addAll 9 = .ok (.iload_n 2, 1) := by decide +kernel
theorem xd_RE_addAll_10 : decode xc_RE_addAll 10 = .ok (.iconst 0, 1) := by decide +kernel
theorem xd_RE_addAll_11 : decode xc_RE_addAll 11 = .ok (.aload_n 1, 1) := by decide +kernel
theorem xd_RE_addAll_12 : decode xc_RE_addAll 12 = .ok (.iload_n 2, 1) := by decide +kernel
theorem xd_RE_addAll_13 : decode xc_RE_addAll 13 = .ok (.invokevirtual 38, 3) := by decide +kernel
theorem xd_RE_addAll_16 : decode xc_RE_addAll 16 = .ok (.iinc 2 1, 3) := by decide +kernel
theorem xd_RE_addAll_19 : decode xc_RE_addAll 19 = .ok (.goto (-17), 3) := by decide +kernel
theorem xd_RE_addAll_22 : decode xc_RE_addAll 22 = .ok (.return_, 1) := by decide +kernel
theorem xd_RE_repeatAtWill_0 : decode xc_RE_repeatAtWill 0 = .ok (.iconst 0, 1) := by decide +kernel
theorem xd_RE_repeatAtWill_1 : decode xc_RE_repeatAtWill 1 = .ok (.istore_n 1, 1) := by decide +kernel
theorem xd_RE_repeatAtWill_2 : decode xc_RE_repeatAtWill 2 = .ok (.iload_n 1, 1) := by decide +kernel
theorem xd_RE_repeatAtWill_3 : decode xc_RE_repeatAtWill 3 = .ok (.bipush 32, 2) := by decide +kernel
theorem xd_RE_repeatAtWill_5 : decode xc_RE_repeatAtWill 5 = .ok (.if_icmp .ge 54, 3) := by decide +kernel
theorem xd_RE_repeatAtWill_8 : decode xc_RE_repeatAtWill 8 = .ok (.iconst 0, 1) := by decide +kernel
theorem xd_RE_repeatAtWill_9 : decode xc_RE_repeatAtWill 9 = .ok (.istore_n 2, 1) := by decide +kernel
theorem xd_RE_repeatAtWill_10 : decode xc_RE_repeatAtWill 10 = .ok (.iload_n 2, 1) := by decide +kernel
theorem xd_RE_repeatAtWill_11 : decode xc_RE_repeatAtWill 11 = .ok (.bipush 32, 2) := by decide +kernel
theorem xd_RE_repeatAtWill_13 : decode xc_RE_repeatAtWill 13 = .ok (.if_icmp .ge 40, 3) := by decide +kernel
theorem xd_RE_repeatAtWill_16 : decode xc_RE_repeatAtWill 16 = .ok (.aload_n 0, 1) := by decide +kernel
theorem xd_RE_repeatAtWill_17 : decode xc_RE_repeatAtWill 17 = .ok (.getfield 9, 3) := by decide +kernel
theorem xd_RE_repeatAtWill_20 : decode xc_RE_repeatAtWill 20 = .ok (.iload_n 2, 1) := by decide +kernel
theorem xd_RE_repeatAtWill_21 : decode xc_RE_repeatAtWill 21 = .ok (.iaload, 1) := by decide +kernel
theorem xd_RE_repeatAtWill_22 : decode xc_RE_repeatAtWill 22 = .ok (.iload_n 1, 1) := by decide +kernel
theorem xd_RE_repeatAtWill_23 : decode xc_RE_repeatAtWill 23 = .ok (.invokestatic 24, 3) := by decide +kernel
theorem xd_RE_repeatAtWill_26 : decode xc_RE_repeatAtWill 26 = .ok (.ifCond .eq 21, 3) := by decide +kernel
theorem xd_RE_repeatAtWill_29 : decode xc_RE_repeatAtWill 29 = .ok (.aload_n 0, 1) := by decide +kernel
theorem xd_RE_repeatAtWill_30 : decode xc_RE_repeatAtWill 30 = .ok (.iload_n 2, 1) := by decide +kernel
theorem xd_RE_repeatAtWill_31 : decode xc_RE_repeatAtWill 31 = .ok (.aload_n 0, 1) := by decide +kernel
theorem xd_RE_repeatAtWill_32 : decode xc_RE_repeatAtWill 32 = .ok (.getfield 15, 3) := by decide +kernel
theorem xd_RE_repeatAtWill_35 : decode xc_RE_repeatAtWill 35 = .ok (.iload_n 2, 1) := by decide +kernel
theorem xd_RE_repeatAtWill_36 : decode xc_RE_repeatAtWill 36 = .ok (.bipush 32, 2) := by decide +kernel
theorem xd_RE_repeatAtWill_38 : decode xc_RE_repeatAtWill 38 = .ok (.imul, 1) := by decide +kernel
theorem xd_RE_repeatAtWill_39 : decode xc_RE_repeatAtWill 39 = .ok (.iload_n 1, 1) := by decide +kernel
theorem xd_RE_repeatAtWill_40 : decode xc_RE_repeatAtWill 40 = .ok (.iadd, 1) := by decide +kernel
theorem xd_RE_repeatAtWill_41 : decode xc_RE_repeatAtWill 41 = .ok (.iaload, 1) := by decide +kernel
theorem xd_RE_repeatAtWill_42 : decode xc_RE_repeatAtWill 42 = .ok (.aload_n 0, 1) := by decide +kernel
theorem xd_RE_repeatAtWill_43 : decode xc_RE_repeatAtWill 43 = .ok (.iload_n 1, 1) := by decide +kernel
theorem xd_RE_repeatAtWill_44 : decode xc_RE_repeatAtWill 44 = .ok (.invokevirtual 38, 3) := by decide +kernel
theorem xd_RE_repeatAtWill_47 : decode xc_RE_repeatAtWill 47 = .ok (.iinc 2 1, 3) := by decide +kernel
theorem xd_RE_repeatAtWill_50 : decode xc_RE_repeatAtWill 50 = .ok (.goto (-40), 3) := by decide +kernel
theorem xd_RE_repeatAtWill_53 : decode xc_RE_repeatAtWill 53 = .ok (.iinc 1 1, 3) := by decide +kernel
theorem xd_RE_repeatAtWill_56 : decode xc_RE_repeatAtWill 56 = .ok (.goto (-54), 3) := by decide +kernel
theorem xd_RE_repeatAtWill_59 : decode xc_RE_repeatAtWill 59 = .ok (.return_, 1) := by decide +kernel
theorem xd_RE_sourcesOf_0 : decode xc_RE_sourcesOf 0 = .ok (.iconst 0, 1) := by decide +kernel
theorem xd_RE_sourcesOf_1 : decode xc_RE_sourcesOf 1 = .ok (.istore_n 2, 1) := by decide +kernel
theorem xd_RE_sourcesOf_2 : decode xc_RE_sourcesOf 2 = .ok (.iconst 0, 1) := by decide +kernel
theorem xd_RE_sourcesOf_3 : decode xc_RE_sourcesOf 3 = .ok (.istore_n 3, 1) := by decide +kernel
theorem xd_RE_sourcesOf_4 : decode xc_RE_sourcesOf 4 = .ok (.iload_n 3, 1) := by decide +kernel
theorem xd_RE_sourcesOf_5 : decode xc_RE_sourcesOf 5 = .ok (.bipush 32, 2) := by decide +kernel
theorem xd_RE_sourcesOf_7 : decode xc_RE_sourcesOf 7 = .ok (.if_icmp .ge 28, 3) := by decide +kernel
theorem xd_RE_sourcesOf_10 : decode xc_RE_sourcesOf 10 = .ok (.aload_n 0, 1) := by decide +kernel
theorem xd_RE_sourcesOf_11 : decode xc_RE_sourcesOf 11 = .ok (.getfield 9, 3) := by decide +kernel
theorem xd_RE_sourcesOf_14 : decode xc_RE_sourcesOf 14 = .ok (.iload_n 3, 1) := by decide +kernel
theorem xd_RE_sourcesOf_15 : decode xc_RE_sourcesOf 15 = .ok (.iaload, 1) := by decide +kernel
theorem xd_RE_sourcesOf_16 : decode xc_RE_sourcesOf 16 = .ok (.iload_n 1, 1) := by decide +kernel
theorem xd_RE_sourcesOf_17 : decode xc_RE_sourcesOf 17 = .ok (.invokestatic 24, 3) := by decide +kernel
theorem xd_RE_sourcesOf_20 : decode xc_RE_sourcesOf 20 = .ok (.ifCond .eq 9, 3) := by decide +kernel
theorem xd_RE_sourcesOf_23 : decode xc_RE_sourcesOf 23 = .ok (.iload_n 2, 1) := by decide +kernel
theorem xd_RE_sourcesOf_24 : decode xc_RE_sourcesOf 24 = .ok (.iconst 1, 1) := by decide +kernel
theorem xd_RE_sourcesOf_25 : decode xc_RE_sourcesOf 25 = .ok (.iload_n 3, 1) := by decide +kernel
theorem xd_RE_sourcesOf_26 : decode xc_RE_sourcesOf 26 = .ok (.ishl, 1) := by decide +kernel
theorem xd_RE_sourcesOf_27 : decode xc_RE_sourcesOf 27 = .ok (.ior, 1) := by decide +kernel
theorem xd_RE_sourcesOf_28 : decode xc_RE_sourcesOf 28 = .ok (.istore_n 2, 1) := by decide +kernel
theorem xd_RE_sourcesOf_29 : decode xc_RE_sourcesOf 29 = .ok (.iinc 3 1, 3) := by decide +kernel
theorem xd_RE_sourcesOf_32 : decode xc_RE_sourcesOf 32 = .ok (.goto (-28), 3) := by decide +kernel
theorem xd_RE_sourcesOf_35 : decode xc_RE_sourcesOf 35 = .ok (.iload_n 2, 1) := by decide +kernel
theorem xd_RE_sourcesOf_36 : decode xc_RE_sourcesOf 36 = .ok (.ireturn, 1) := by decide +kernel
theorem xd_RE_lengthOf_0 : decode xc_RE_lengthOf 0 = .ok (.aload_n 0, 1) := by decide +kernel
theorem xd_RE_lengthOf_1 : decode xc_RE_lengthOf 1 = .ok (.getfield 9, 3) := by decide +kernel
theorem xd_RE_lengthOf_4 : decode xc_RE_lengthOf 4 = .ok (.iload_n 1, 1) := by decide +kernel
theorem xd_RE_lengthOf_5 : decode xc_RE_lengthOf 5 = .ok (.iaload, 1) := by decide +kernel
theorem xd_RE_lengthOf_6 : decode xc_RE_lengthOf 6 = .ok (.iload_n 2, 1) := by decide +kernel
theorem xd_RE_lengthOf_7 : decode xc_RE_lengthOf 7 = .ok (.invokestatic 24, 3) := by decide +kernel
theorem xd_RE_lengthOf_10 : decode xc_RE_lengthOf 10 = .ok (.ifCond .eq 17, 3) := by decide +kernel
theorem xd_RE_lengthOf_13 : decode xc_RE_lengthOf 13 = .ok (.aload_n 0, 1) := by decide +kernel
theorem xd_RE_lengthOf_14 : decode xc_RE_lengthOf 14 = .ok (.getfield 15, 3) := by decide +kernel
theorem xd_RE_lengthOf_17 : decode xc_RE_lengthOf 17 = .ok (.iload_n 1, 1) := by decide +kernel
theorem xd_RE_lengthOf_18 : decode xc_RE_lengthOf 18 = .ok (.bipush 32, 2) := by decide +kernel
theorem xd_RE_lengthOf_20 : decode xc_RE_lengthOf 20 = .ok (.imul, 1) := by decide +kernel
theorem xd_RE_lengthOf_21 : decode xc_RE_lengthOf 21 = .ok (.iload_n 2, 1) := by decide +kernel
theorem xd_RE_lengthOf_22 : decode xc_RE_lengthOf 22 = .ok (.iadd, 1) := by decide +kernel
theorem xd_RE_lengthOf_23 : decode xc_RE_lengthOf 23 = .ok (.iaload, 1) := by decide +kernel
theorem xd_RE_lengthOf_24 : decode xc_RE_lengthOf 24 = .ok (.goto 4, 3) := by decide +kernel
theorem xd_RE_lengthOf_27 : decode xc_RE_lengthOf 27 = .ok (.iconst (-1), 1) := by decide +kernel
theorem xd_RE_lengthOf_28 : decode xc_RE_lengthOf 28 = .ok (.ireturn, 1) := by decide +kernel
theorem xd_RE_greatestLength_0 : decode xc_RE_greatestLength 0 = .ok (.iconst (-1), 1) := by decide +kernel
theorem xd_RE_greatestLength_1 : decode xc_RE_greatestLength 1 = .ok (.istore_n 1, 1) := by decide +kernel
theorem xd_RE_greatestLength_2 : decode xc_RE_greatestLength 2 = .ok (.iconst 0, 1) := by decide +kernel
theorem xd_RE_greatestLength_3 : decode xc_RE_greatestLength 3 = .ok (.istore_n 2, 1) := by decide +kernel
theorem xd_RE_greatestLength_4 : decode xc_RE_greatestLength 4 = .ok (.iload_n 2, 1) := by decide +kernel
theorem xd_RE_greatestLength_5 : decode xc_RE_greatestLength 5 = .ok (.bipush 32, 2) := by decide +kernel
theorem xd_RE_greatestLength_7 : decode xc_RE_greatestLength 7 = .ok (.if_icmp .ge 34, 3) := by decide +kernel
theorem xd_RE_greatestLength_10 : decode xc_RE_greatestLength 10 = .ok (.iconst 0, 1) := by decide +kernel
theorem xd_RE_greatestLength_11 : decode xc_RE_greatestLength 11 = .ok (.istore_n 3, 1) := by decide +kernel
theorem xd_RE_greatestLength_12 : decode xc_RE_greatestLength 12 = .ok (.iload_n 3, 1) := by decide +kernel
theorem xd_RE_greatestLength_13 : decode xc_RE_greatestLength 13 = .ok (.bipush 32, 2) := by decide +kernel
theorem xd_RE_greatestLength_15 : decode xc_RE_greatestLength 15 = .ok (.if_icmp .ge 20, 3) := by decide +kernel
theorem xd_RE_greatestLength_18 : decode xc_RE_greatestLength 18 = .ok (.iload_n 1, 1) := by decide +kernel
theorem xd_RE_greatestLength_19 : decode xc_RE_greatestLength 19 = .ok (.aload_n 0, 1) := by decide +kernel
theorem xd_RE_greatestLength_20 : decode xc_RE_greatestLength 20 = .ok (.iload_n 2, 1) := by decide +kernel
theorem xd_RE_greatestLength_21 : decode xc_RE_greatestLength 21 = .ok (.iload_n 3, 1) := by decide +kernel
theorem xd_RE_greatestLength_22 : decode xc_RE_greatestLength 22 = .ok (.invokevirtual 45, 3) := by decide +kernel
theorem xd_RE_greatestLength_25 : decode xc_RE_greatestLength 25 = .ok (.invokestatic 48, 3) := by decide +kernel
theorem xd_RE_greatestLength_28 : decode xc_RE_greatestLength 28 = .ok (.istore_n 1, 1) := by decide +kernel
theorem xd_RE_greatestLength_29 : decode xc_RE_greatestLength 29 = .ok (.iinc 3 1, 3) := by decide +kernel
theorem xd_RE_greatestLength_32 : decode xc_RE_greatestLength 32 = .ok (.goto (-20), 3) := by decide +kernel
theorem xd_RE_greatestLength_35 : decode xc_RE_greatestLength 35 = .ok (.iinc 2 1, 3) := by decide +kernel
theorem xd_RE_greatestLength_38 : decode xc_RE_greatestLength 38 = .ok (.goto (-34), 3) := by decide +kernel
theorem xd_RE_greatestLength_41 : decode xc_RE_greatestLength 41 = .ok (.iload_n 1, 1) := by decide +kernel
theorem xd_RE_greatestLength_42 : decode xc_RE_greatestLength 42 = .ok (.ireturn, 1) := by decide +kernel
theorem xd_RE_pairCount_0 : decode xc_RE_pairCount 0 = .ok (.iconst 0, 1) := by decide +kernel
theorem xd_RE_pairCount_1 : decode xc_RE_pairCount 1 = .ok (.istore_n 1, 1) := by decide +kernel
theorem xd_RE_pairCount_2 : decode xc_RE_pairCount 2 = .ok (.iconst 0, 1) := by decide +kernel
theorem xd_RE_pairCount_3 : decode xc_RE_pairCount 3 = .ok (.istore_n 2, 1) := by decide +kernel
theorem xd_RE_pairCount_4 : decode xc_RE_pairCount 4 = .ok (.iload_n 2, 1) := by decide +kernel
theorem xd_RE_pairCount_5 : decode xc_RE_pairCount 5 = .ok (.bipush 32, 2) := by decide +kernel
theorem xd_RE_pairCount_7 : decode xc_RE_pairCount 7 = .ok (.if_icmp .ge 21, 3) := by decide +kernel
theorem xd_RE_pairCount_10 : decode xc_RE_pairCount 10 = .ok (.iload_n 1, 1) := by decide +kernel
theorem xd_RE_pairCount_11 : decode xc_RE_pairCount 11 = .ok (.aload_n 0, 1) := by decide +kernel
theorem xd_RE_pairCount_12 : decode xc_RE_pairCount 12 = .ok (.getfield 9, 3) := by decide +kernel
theorem xd_RE_pairCount_15 : decode xc_RE_pairCount 15 = .ok (.iload_n 2, 1) := by decide +kernel
theorem xd_RE_pairCount_16 : decode xc_RE_pairCount 16 = .ok (.iaload, 1) := by decide +kernel
theorem xd_RE_pairCount_17 : decode xc_RE_pairCount 17 = .ok (.invokestatic 53, 3) := by decide +kernel
theorem xd_RE_pairCount_20 : decode xc_RE_pairCount 20 = .ok (.iadd, 1) := by decide +kernel
theorem xd_RE_pairCount_21 : decode xc_RE_pairCount 21 = .ok (.istore_n 1, 1) := by decide +kernel
theorem xd_RE_pairCount_22 : decode xc_RE_pairCount 22 = .ok (.iinc 2 1, 3) := by decide +kernel
theorem xd_RE_pairCount_25 : decode xc_RE_pairCount 25 = .ok (.goto (-21), 3) := by decide +kernel
theorem xd_RE_pairCount_28 : decode xc_RE_pairCount 28 = .ok (.iload_n 1, 1) := by decide +kernel
theorem xd_RE_pairCount_29 : decode xc_RE_pairCount 29 = .ok (.ireturn, 1) := by decide +kernel
theorem xd_RE_pairsSharedWith_0 : decode xc_RE_pairsSharedWith 0 = .ok (.iconst 0, 1) := by decide +kernel
theorem xd_RE_pairsSharedWith_1 : decode xc_RE_pairsSharedWith 1 = .ok (.istore_n 2, 1) := by decide +kernel
theorem xd_RE_pairsSharedWith_2 : decode xc_RE_pairsSharedWith 2 = .ok (.iconst 0, 1) := by decide +kernel
theorem xd_RE_pairsSharedWith_3 : decode xc_RE_pairsSharedWith 3 = .ok (.istore_n 3, 1) := by decide +kernel
theorem xd_RE_pairsSharedWith_4 : decode xc_RE_pairsSharedWith 4 = .ok (.iload_n 3, 1) := by decide +kernel
theorem xd_RE_pairsSharedWith_5 : decode xc_RE_pairsSharedWith 5 = .ok (.bipush 32, 2) := by decide +kernel
theorem xd_RE_pairsSharedWith_7 : decode xc_RE_pairsSharedWith 7 = .ok (.if_icmp .ge 28, 3) := by decide +kernel
theorem xd_RE_pairsSharedWith_10 : decode xc_RE_pairsSharedWith 10 = .ok (.iload_n 2, 1) := by decide +kernel
theorem xd_RE_pairsSharedWith_11 : decode xc_RE_pairsSharedWith 11 = .ok (.aload_n 0, 1) := by decide +kernel
theorem xd_RE_pairsSharedWith_12 : decode xc_RE_pairsSharedWith 12 = .ok (.getfield 9, 3) := by decide +kernel
theorem xd_RE_pairsSharedWith_15 : decode xc_RE_pairsSharedWith 15 = .ok (.iload_n 3, 1) := by decide +kernel
theorem xd_RE_pairsSharedWith_16 : decode xc_RE_pairsSharedWith 16 = .ok (.iaload, 1) := by decide +kernel
theorem xd_RE_pairsSharedWith_17 : decode xc_RE_pairsSharedWith 17 = .ok (.aload_n 1, 1) := by decide +kernel
theorem xd_RE_pairsSharedWith_18 : decode xc_RE_pairsSharedWith 18 = .ok (.getfield 9, 3) := by decide +kernel
theorem xd_RE_pairsSharedWith_21 : decode xc_RE_pairsSharedWith 21 = .ok (.iload_n 3, 1) := by decide +kernel
theorem xd_RE_pairsSharedWith_22 : decode xc_RE_pairsSharedWith 22 = .ok (.iaload, 1) := by decide +kernel
theorem xd_RE_pairsSharedWith_23 : decode xc_RE_pairsSharedWith 23 = .ok (.iand, 1) := by decide +kernel
theorem xd_RE_pairsSharedWith_24 : decode xc_RE_pairsSharedWith 24 = .ok (.invokestatic 53, 3) := by decide +kernel
theorem xd_RE_pairsSharedWith_27 : decode xc_RE_pairsSharedWith 27 = .ok (.iadd, 1) := by decide +kernel
theorem xd_RE_pairsSharedWith_28 : decode xc_RE_pairsSharedWith 28 = .ok (.istore_n 2, 1) := by decide +kernel
theorem xd_RE_pairsSharedWith_29 : decode xc_RE_pairsSharedWith 29 = .ok (.iinc 3 1, 3) := by decide +kernel
theorem xd_RE_pairsSharedWith_32 : decode xc_RE_pairsSharedWith 32 = .ok (.goto (-28), 3) := by decide +kernel
theorem xd_RE_pairsSharedWith_35 : decode xc_RE_pairsSharedWith 35 = .ok (.iload_n 2, 1) := by decide +kernel
theorem xd_RE_pairsSharedWith_36 : decode xc_RE_pairsSharedWith 36 = .ok (.ireturn, 1) := by decide +kernel
theorem xd_RE_pairsTurnedIn_0 : decode xc_RE_pairsTurnedIn 0 = .ok (.iconst 0, 1) := by decide +kernel
theorem xd_RE_pairsTurnedIn_1 : decode xc_RE_pairsTurnedIn 1 = .ok (.istore_n 2, 1) := by decide +kernel
theorem xd_RE_pairsTurnedIn_2 : decode xc_RE_pairsTurnedIn 2 = .ok (.iconst 0, 1) := by decide +kernel
theorem xd_RE_pairsTurnedIn_3 : decode xc_RE_pairsTurnedIn 3 = .ok (.istore_n 3, 1) := by decide +kernel
theorem xd_RE_pairsTurnedIn_4 : decode xc_RE_pairsTurnedIn 4 = .ok (.iload_n 3, 1) := by decide +kernel
theorem xd_RE_pairsTurnedIn_5 : decode xc_RE_pairsTurnedIn 5 = .ok (.bipush 32, 2) := by decide +kernel
theorem xd_RE_pairsTurnedIn_7 : decode xc_RE_pairsTurnedIn 7 = .ok (.if_icmp .ge 27, 3) := by decide +kernel
theorem xd_RE_pairsTurnedIn_10 : decode xc_RE_pairsTurnedIn 10 = .ok (.iload_n 2, 1) := by decide +kernel
theorem xd_RE_pairsTurnedIn_11 : decode xc_RE_pairsTurnedIn 11 = .ok (.aload_n 0, 1) := by decide +kernel
theorem xd_RE_pairsTurnedIn_12 : decode xc_RE_pairsTurnedIn 12 = .ok (.getfield 9, 3) := by decide +kernel
theorem xd_RE_pairsTurnedIn_15 : decode xc_RE_pairsTurnedIn 15 = .ok (.iload_n 3, 1) := by decide +kernel
theorem xd_RE_pairsTurnedIn_16 : decode xc_RE_pairsTurnedIn 16 = .ok (.iaload, 1) := by decide +kernel
theorem xd_RE_pairsTurnedIn_17 : decode xc_RE_pairsTurnedIn 17 = .ok (.aload_n 1, 1) := by decide +kernel
theorem xd_RE_pairsTurnedIn_18 : decode xc_RE_pairsTurnedIn 18 = .ok (.iload_n 3, 1) := by decide +kernel
theorem xd_RE_pairsTurnedIn_19 : decode xc_RE_pairsTurnedIn 19 = .ok (.invokevirtual 59, 3) := by decide +kernel
theorem xd_RE_pairsTurnedIn_22 : decode xc_RE_pairsTurnedIn 22 = .ok (.iand, 1) := by decide +kernel
theorem xd_RE_pairsTurnedIn_23 : decode xc_RE_pairsTurnedIn 23 = .ok (.invokestatic 53, 3) := by decide +kernel
theorem xd_RE_pairsTurnedIn_26 : decode xc_RE_pairsTurnedIn 26 = .ok (.iadd, 1) := by decide +kernel
theorem xd_RE_pairsTurnedIn_27 : decode xc_RE_pairsTurnedIn 27 = .ok (.istore_n 2, 1) := by decide +kernel
theorem xd_RE_pairsTurnedIn_28 : decode xc_RE_pairsTurnedIn 28 = .ok (.iinc 3 1, 3) := by decide +kernel
theorem xd_RE_pairsTurnedIn_31 : decode xc_RE_pairsTurnedIn 31 = .ok (.goto (-27), 3) := by decide +kernel
theorem xd_RE_pairsTurnedIn_34 : decode xc_RE_pairsTurnedIn 34 = .ok (.iload_n 2, 1) := by decide +kernel
theorem xd_RE_pairsTurnedIn_35 : decode xc_RE_pairsTurnedIn 35 = .ok (.ireturn, 1) := by decide +kernel
theorem xd_RE_pairsLedOnBy_0 : decode xc_RE_pairsLedOnBy 0 = .ok (.iconst 0, 1) := by decide +kernel
theorem xd_RE_pairsLedOnBy_1 : decode xc_RE_pairsLedOnBy 1 = .ok (.istore_n 2, 1) := by decide +kernel
theorem xd_RE_pairsLedOnBy_2 : decode xc_RE_pairsLedOnBy 2 = .ok (.iconst 0, 1) := by decide +kernel
theorem xd_RE_pairsLedOnBy_3 : decode xc_RE_pairsLedOnBy 3 = .ok (.istore_n 3, 1) := by decide +kernel
theorem xd_RE_pairsLedOnBy_4 : decode xc_RE_pairsLedOnBy 4 = .ok (.iload_n 3, 1) := by decide +kernel
theorem xd_RE_pairsLedOnBy_5 : decode xc_RE_pairsLedOnBy 5 = .ok (.bipush 32, 2) := by decide +kernel
theorem xd_RE_pairsLedOnBy_7 : decode xc_RE_pairsLedOnBy 7 = .ok (.if_icmp .ge 62, 3) := by decide +kernel
theorem xd_RE_pairsLedOnBy_10 : decode xc_RE_pairsLedOnBy 10 = .ok (.iconst 0, 1) := by decide +kernel
theorem xd_RE_pairsLedOnBy_11 : decode xc_RE_pairsLedOnBy 11 = .ok (.istore 4, 2) := by decide +kernel
theorem xd_RE_pairsLedOnBy_13 : decode xc_RE_pairsLedOnBy 13 = .ok (.iconst 0, 1) := by decide +kernel
theorem xd_RE_pairsLedOnBy_14 : decode xc_RE_pairsLedOnBy 14 = .ok (.istore 5, 2) := by decide +kernel
theorem xd_RE_pairsLedOnBy_16 : decode xc_RE_pairsLedOnBy 16 = .ok (.iload 5, 2) := by decide +kernel
theorem xd_RE_pairsLedOnBy_18 : decode xc_RE_pairsLedOnBy 18 = .ok (.bipush 32, 2) := by decide +kernel
theorem xd_RE_pairsLedOnBy_20 : decode xc_RE_pairsLedOnBy 20 = .ok (.if_icmp .ge 35, 3) := by decide +kernel
theorem xd_RE_pairsLedOnBy_23 : decode xc_RE_pairsLedOnBy 23 = .ok (.aload_n 0, 1) := by decide +kernel
theorem xd_RE_pairsLedOnBy_24 : decode xc_RE_pairsLedOnBy 24 = .ok (.getfield 9, 3) := by decide +kernel
theorem xd_RE_pairsLedOnBy_27 : decode xc_RE_pairsLedOnBy 27 = .ok (.iload_n 3, 1) := by decide +kernel
theorem xd_RE_pairsLedOnBy_28 : decode xc_RE_pairsLedOnBy 28 = .ok (.iaload, 1) := by decide +kernel
theorem xd_RE_pairsLedOnBy_29 : decode xc_RE_pairsLedOnBy 29 = .ok (.iload 5, 2) := by decide +kernel
theorem xd_RE_pairsLedOnBy_31 : decode xc_RE_pairsLedOnBy 31 = .ok (.invokestatic 24, 3) := by decide +kernel
theorem xd_RE_pairsLedOnBy_34 : decode xc_RE_pairsLedOnBy 34 = .ok (.ifCond .eq 15, 3) := by decide +kernel
theorem xd_RE_pairsLedOnBy_37 : decode xc_RE_pairsLedOnBy 37 = .ok (.iload 4, 2) := by decide +kernel
theorem xd_RE_pairsLedOnBy_39 : decode xc_RE_pairsLedOnBy 39 = .ok (.aload_n 1, 1) := by decide +kernel
theorem xd_RE_pairsLedOnBy_40 : decode xc_RE_pairsLedOnBy 40 = .ok (.getfield 9, 3) := by decide +kernel
theorem xd_RE_pairsLedOnBy_43 : decode xc_RE_pairsLedOnBy 43 = .ok (.iload 5, 2) := by decide +kernel
theorem xd_RE_pairsLedOnBy_45 : decode xc_RE_pairsLedOnBy 45 = .ok (.iaload, 1) := by decide +kernel
theorem xd_RE_pairsLedOnBy_46 : decode xc_RE_pairsLedOnBy 46 = .ok (.ior, 1) := by decide +kernel
theorem xd_RE_pairsLedOnBy_47 : decode xc_RE_pairsLedOnBy 47 = .ok (.istore 4, 2) := by decide +kernel
theorem xd_RE_pairsLedOnBy_49 : decode xc_RE_pairsLedOnBy 49 = .ok (.iinc 5 1, 3) := by decide +kernel
theorem xd_RE_pairsLedOnBy_52 : decode xc_RE_pairsLedOnBy 52 = .ok (.goto (-36), 3) := by decide +kernel
theorem xd_RE_pairsLedOnBy_55 : decode xc_RE_pairsLedOnBy 55 = .ok (.iload_n 2, 1) := by decide +kernel
theorem xd_RE_pairsLedOnBy_56 : decode xc_RE_pairsLedOnBy 56 = .ok (.iload 4, 2) := by decide +kernel
theorem xd_RE_pairsLedOnBy_58 : decode xc_RE_pairsLedOnBy 58 = .ok (.invokestatic 53, 3) := by decide +kernel
theorem xd_RE_pairsLedOnBy_61 : decode xc_RE_pairsLedOnBy 61 = .ok (.iadd, 1) := by decide +kernel
theorem xd_RE_pairsLedOnBy_62 : decode xc_RE_pairsLedOnBy 62 = .ok (.istore_n 2, 1) := by decide +kernel
theorem xd_RE_pairsLedOnBy_63 : decode xc_RE_pairsLedOnBy 63 = .ok (.iinc 3 1, 3) := by decide +kernel
theorem xd_RE_pairsLedOnBy_66 : decode xc_RE_pairsLedOnBy 66 = .ok (.goto (-62), 3) := by decide +kernel
theorem xd_RE_pairsLedOnBy_69 : decode xc_RE_pairsLedOnBy 69 = .ok (.iload_n 2, 1) := by decide +kernel
theorem xd_RE_pairsLedOnBy_70 : decode xc_RE_pairsLedOnBy 70 = .ok (.ireturn, 1) := by decide +kernel
theorem xd_RE_leastOnCircle_0 : decode xc_RE_leastOnCircle 0 = .ok (.iconst 0, 1) := by decide +kernel
theorem xd_RE_leastOnCircle_1 : decode xc_RE_leastOnCircle 1 = .ok (.istore_n 1, 1) := by decide +kernel
theorem xd_RE_leastOnCircle_2 : decode xc_RE_leastOnCircle 2 = .ok (.iload_n 1, 1) := by decide +kernel
theorem xd_RE_leastOnCircle_3 : decode xc_RE_leastOnCircle 3 = .ok (.bipush 32, 2) := by decide +kernel
theorem xd_RE_leastOnCircle_5 : decode xc_RE_leastOnCircle 5 = .ok (.if_icmp .ge 24, 3) := by decide +kernel
theorem xd_RE_leastOnCircle_8 : decode xc_RE_leastOnCircle 8 = .ok (.aload_n 0, 1) := by decide +kernel
theorem xd_RE_leastOnCircle_9 : decode xc_RE_leastOnCircle 9 = .ok (.getfield 9, 3) := by decide +kernel
theorem xd_RE_leastOnCircle_12 : decode xc_RE_leastOnCircle 12 = .ok (.iload_n 1, 1) := by decide +kernel
theorem xd_RE_leastOnCircle_13 : decode xc_RE_leastOnCircle 13 = .ok (.iaload, 1) := by decide +kernel
theorem xd_RE_leastOnCircle_14 : decode xc_RE_leastOnCircle 14 = .ok (.iload_n 1, 1) := by decide +kernel
theorem xd_RE_leastOnCircle_15 : decode xc_RE_leastOnCircle 15 = .ok (.invokestatic 24, 3) := by decide +kernel
theorem xd_RE_leastOnCircle_18 : decode xc_RE_leastOnCircle 18 = .ok (.ifCond .eq 5, 3) := by decide +kernel
theorem xd_RE_leastOnCircle_21 : decode xc_RE_leastOnCircle 21 = .ok (.iload_n 1, 1) := by decide +kernel
theorem xd_RE_leastOnCircle_22 : decode xc_RE_leastOnCircle 22 = .ok (.ireturn, 1) := by decide +kernel
theorem xd_RE_leastOnCircle_23 : decode xc_RE_leastOnCircle 23 = .ok (.iinc 1 1, 3) := by decide +kernel
theorem xd_RE_leastOnCircle_26 : decode xc_RE_leastOnCircle 26 = .ok (.goto (-24), 3) := by decide +kernel
theorem xd_RE_leastOnCircle_29 : decode xc_RE_leastOnCircle 29 = .ok (.iconst (-1), 1) := by decide +kernel
theorem xd_RE_leastOnCircle_30 : decode xc_RE_leastOnCircle 30 = .ok (.ireturn, 1) := by decide +kernel
theorem xd_RE_richestNode_0 : decode xc_RE_richestNode 0 = .ok (.iconst (-1), 1) := by decide +kernel
theorem xd_RE_richestNode_1 : decode xc_RE_richestNode 1 = .ok (.istore_n 1, 1) := by decide +kernel
theorem xd_RE_richestNode_2 : decode xc_RE_richestNode 2 = .ok (.iconst 0, 1) := by decide +kernel
theorem xd_RE_richestNode_3 : decode xc_RE_richestNode 3 = .ok (.istore_n 2, 1) := by decide +kernel
theorem xd_RE_richestNode_4 : decode xc_RE_richestNode 4 = .ok (.iconst 0, 1) := by decide +kernel
theorem xd_RE_richestNode_5 : decode xc_RE_richestNode 5 = .ok (.istore_n 3, 1) := by decide +kernel
theorem xd_RE_richestNode_6 : decode xc_RE_richestNode 6 = .ok (.iload_n 3, 1) := by decide +kernel
theorem xd_RE_richestNode_7 : decode xc_RE_richestNode 7 = .ok (.bipush 32, 2) := by decide +kernel
theorem xd_RE_richestNode_9 : decode xc_RE_richestNode 9 = .ok (.if_icmp .ge 31, 3) := by decide +kernel
theorem xd_RE_richestNode_12 : decode xc_RE_richestNode 12 = .ok (.aload_n 0, 1) := by decide +kernel
theorem xd_RE_richestNode_13 : decode xc_RE_richestNode 13 = .ok (.getfield 9, 3) := by decide +kernel
theorem xd_RE_richestNode_16 : decode xc_RE_richestNode 16 = .ok (.iload_n 3, 1) := by decide +kernel
theorem xd_RE_richestNode_17 : decode xc_RE_richestNode 17 = .ok (.iaload, 1) := by decide +kernel
theorem xd_RE_richestNode_18 : decode xc_RE_richestNode 18 = .ok (.invokestatic 53, 3) := by decide +kernel
theorem xd_RE_richestNode_21 : decode xc_RE_richestNode 21 = .ok (.istore 4, 2) := by decide +kernel
theorem xd_RE_richestNode_23 : decode xc_RE_richestNode 23 = .ok (.iload 4, 2) := by decide +kernel
theorem xd_RE_richestNode_25 : decode xc_RE_richestNode 25 = .ok (.iload_n 2, 1) := by decide +kernel
theorem xd_RE_richestNode_26 : decode xc_RE_richestNode 26 = .ok (.if_icmp .le 8, 3) := by decide +kernel
theorem xd_RE_richestNode_29 : decode xc_RE_richestNode 29 = .ok (.iload_n 3, 1) := by decide +kernel
theorem xd_RE_richestNode_30 : decode xc_RE_richestNode 30 = .ok (.istore_n 1, 1) := by decide +kernel
theorem xd_RE_richestNode_31 : decode xc_RE_richestNode 31 = .ok (.iload 4, 2) := by decide +kernel
theorem xd_RE_richestNode_33 : decode xc_RE_richestNode 33 = .ok (.istore_n 2, 1) := by decide +kernel
theorem xd_RE_richestNode_34 : decode xc_RE_richestNode 34 = .ok (.iinc 3 1, 3) := by decide +kernel
theorem xd_RE_richestNode_37 : decode xc_RE_richestNode 37 = .ok (.goto (-31), 3) := by decide +kernel
theorem xd_RE_richestNode_40 : decode xc_RE_richestNode 40 = .ok (.iload_n 1, 1) := by decide +kernel
theorem xd_RE_richestNode_41 : decode xc_RE_richestNode 41 = .ok (.ireturn, 1) := by decide +kernel

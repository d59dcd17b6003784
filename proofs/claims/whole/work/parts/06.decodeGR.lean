theorem xd_GR_init_0 : decode xc_GR_init 0 = .ok (.aload_n 0, 1) := by decide +kernel
theorem xd_GR_init_1 : decode xc_GR_init 1 = .ok (.invokespecial 3, 3) := by decide +kernel
theorem xd_GR_init_4 : decode xc_GR_init 4 = .ok (.aload_n 0, 1) := by decide +kernel
theorem xd_GR_init_5 : decode xc_GR_init 5 = .ok (.sipush 256, 3) := by decide +kernel
theorem xd_GR_init_8 : decode xc_GR_init 8 = .ok (.newarray .int, 2) := by decide +kernel
theorem xd_GR_init_10 : decode xc_GR_init 10 = .ok (.putfield 9, 3) := by decide +kernel
theorem xd_GR_init_13 : decode xc_GR_init 13 = .ok (.aload_n 0, 1) := by decide +kernel
theorem xd_GR_init_14 : decode xc_GR_init 14 = .ok (.iconst 4, 1) := by decide +kernel
theorem xd_GR_init_15 : decode xc_GR_init 15 = .ok (.newarray .int, 2) := by decide +kernel
theorem xd_GR_init_17 : decode xc_GR_init 17 = .ok (.putfield 15, 3) := by decide +kernel
theorem xd_GR_init_20 : decode xc_GR_init 20 = .ok (.aload_n 0, 1) := by decide +kernel
theorem xd_GR_init_21 : decode xc_GR_init 21 = .ok (.iconst 0, 1) := by decide +kernel
theorem xd_GR_init_22 : decode xc_GR_init 22 = .ok (.putfield 18, 3) := by decide +kernel
theorem xd_GR_init_25 : decode xc_GR_init 25 = .ok (.return_, 1) := by decide +kernel
theorem xd_GR_edgesOf_0 : decode xc_GR_edgesOf 0 = .ok (.iconst 0, 1) := by decide +kernel
theorem xd_GR_edgesOf_1 : decode xc_GR_edgesOf 1 = .ok (.istore_n 2, 1) := by decide +kernel
theorem xd_GR_edgesOf_2 : decode xc_GR_edgesOf 2 = .ok (.iconst 0, 1) := by decide +kernel
theorem xd_GR_edgesOf_3 : decode xc_GR_edgesOf 3 = .ok (.istore_n 3, 1) := by decide +kernel
theorem xd_GR_edgesOf_4 : decode xc_GR_edgesOf 4 = .ok (.iload_n 3, 1) := by decide +kernel
theorem xd_GR_edgesOf_5 : decode xc_GR_edgesOf 5 = .ok (.bipush 32, 2) := by decide +kernel
theorem xd_GR_edgesOf_7 : decode xc_GR_edgesOf 7 = .ok (.if_icmp .ge 26, 3) := by decide +kernel
theorem xd_GR_edgesOf_10 : decode xc_GR_edgesOf 10 = .ok (.iload_n 2, 1) := by decide +kernel
theorem xd_GR_edgesOf_11 : decode xc_GR_edgesOf 11 = .ok (.aload_n 0, 1) := by decide +kernel
theorem xd_GR_edgesOf_12 : decode xc_GR_edgesOf 12 = .ok (.getfield 9, 3) := by decide +kernel
theorem xd_GR_edgesOf_15 : decode xc_GR_edgesOf 15 = .ok (.iload_n 1, 1) := by decide +kernel
theorem xd_GR_edgesOf_16 : decode xc_GR_edgesOf 16 = .ok (.bipush 32, 2) := by decide +kernel
theorem xd_GR_edgesOf_18 : decode xc_GR_edgesOf 18 = .ok (.imul, 1) := by decide +kernel
theorem xd_GR_edgesOf_19 : decode xc_GR_edgesOf 19 = .ok (.iload_n 3, 1) := by decide +kernel
theorem xd_GR_edgesOf_20 : decode xc_GR_edgesOf 20 = .ok (.iadd, 1) := by decide +kernel
theorem xd_GR_edgesOf_21 : decode xc_GR_edgesOf 21 = .ok (.iaload, 1) := by decide +kernel
theorem xd_GR_edgesOf_22 : decode xc_GR_edgesOf 22 = .ok (.invokestatic 26, 3) := by decide +kernel
theorem xd_GR_edgesOf_25 : decode xc_GR_edgesOf 25 = .ok (.iadd, 1) := by decide +kernel
theorem xd_GR_edgesOf_26 : decode xc_GR_edgesOf 26 = .ok (.istore_n 2, 1) := by decide +kernel
theorem xd_GR_edgesOf_27 : decode xc_GR_edgesOf 27 = .ok (.iinc 3 1, 3) := by decide +kernel
theorem xd_GR_edgesOf_30 : decode xc_GR_edgesOf 30 = .ok (.goto (-26), 3) := by decide +kernel
theorem xd_GR_edgesOf_33 : decode xc_GR_edgesOf 33 = .ok (.iload_n 2, 1) := by decide +kernel
theorem xd_GR_edgesOf_34 : decode xc_GR_edgesOf 34 = .ok (.ireturn, 1) := by decide +kernel
theorem xd_GR_nodesWith_0 : decode xc_GR_nodesWith 0 = .ok (.aload_n 0, 1) := by decide +kernel
theorem xd_GR_nodesWith_1 : decode xc_GR_nodesWith 1 = .ok (.getfield 15, 3) := by decide +kernel
theorem xd_GR_nodesWith_4 : decode xc_GR_nodesWith 4 = .ok (.iload_n 1, 1) := by decide +kernel
theorem xd_GR_nodesWith_5 : decode xc_GR_nodesWith 5 = .ok (.iaload, 1) := by decide +kernel
theorem xd_GR_nodesWith_6 : decode xc_GR_nodesWith 6 = .ok (.ireturn, 1) := by decide +kernel
theorem xd_GR_hasEdge_0 : decode xc_GR_hasEdge 0 = .ok (.aload_n 0, 1) := by decide +kernel
theorem xd_GR_hasEdge_1 : decode xc_GR_hasEdge 1 = .ok (.getfield 9, 3) := by decide +kernel
theorem xd_GR_hasEdge_4 : decode xc_GR_hasEdge 4 = .ok (.iload_n 2, 1) := by decide +kernel
theorem xd_GR_hasEdge_5 : decode xc_GR_hasEdge 5 = .ok (.bipush 32, 2) := by decide +kernel
theorem xd_GR_hasEdge_7 : decode xc_GR_hasEdge 7 = .ok (.imul, 1) := by decide +kernel
theorem xd_GR_hasEdge_8 : decode xc_GR_hasEdge 8 = .ok (.iload_n 1, 1) := by decide +kernel
theorem xd_GR_hasEdge_9 : decode xc_GR_hasEdge 9 = .ok (.iadd, 1) := by decide +kernel
theorem xd_GR_hasEdge_10 : decode xc_GR_hasEdge 10 = .ok (.iaload, 1) := by decide +kernel
theorem xd_GR_hasEdge_11 : decode xc_GR_hasEdge 11 = .ok (.iload_n 3, 1) := by decide +kernel
theorem xd_GR_hasEdge_12 : decode xc_GR_hasEdge 12 = .ok (.invokestatic 22, 3) := by decide +kernel
theorem xd_GR_hasEdge_15 : decode xc_GR_hasEdge 15 = .ok (.ireturn, 1) := by decide +kernel
theorem xd_GR_putEdge_0 : decode xc_GR_putEdge 0 = .ok (.aload_n 0, 1) := by decide +kernel
theorem xd_GR_putEdge_1 : decode xc_GR_putEdge 1 = .ok (.getfield 9, 3) := by decide +kernel
theorem xd_GR_putEdge_4 : decode xc_GR_putEdge 4 = .ok (.iload_n 2, 1) := by decide +kernel
theorem xd_GR_putEdge_5 : decode xc_GR_putEdge 5 = .ok (.bipush 32, 2) := by decide +kernel
theorem xd_GR_putEdge_7 : decode xc_GR_putEdge 7 = .ok (.imul, 1) := by decide +kernel
theorem xd_GR_putEdge_8 : decode xc_GR_putEdge 8 = .ok (.iload_n 1, 1) := by decide +kernel
theorem xd_GR_putEdge_9 : decode xc_GR_putEdge 9 = .ok (.iadd, 1) := by decide +kernel
theorem xd_GR_putEdge_10 : decode xc_GR_putEdge 10 = .ok (.dup2, 1) := by decide +kernel
theorem xd_GR_putEdge_11 : decode xc_GR_putEdge 11 = .ok (.iaload, 1) := by decide +kernel
theorem xd_GR_putEdge_12 : decode xc_GR_putEdge 12 = .ok (.iconst 1, 1) := by decide +kernel
theorem xd_GR_putEdge_13 : decode xc_GR_putEdge 13 = .ok (.iload_n 3, 1) := by decide +kernel
theorem xd_GR_putEdge_14 : decode xc_GR_putEdge 14 = .ok (.ishl, 1) := by decide +kernel
theorem xd_GR_putEdge_15 : decode xc_GR_putEdge 15 = .ok (.ior, 1) := by decide +kernel
theorem xd_GR_putEdge_16 : decode xc_GR_putEdge 16 = .ok (.iastore, 1) := by decide +kernel
theorem xd_GR_putEdge_17 : decode xc_GR_putEdge 17 = .ok (.aload_n 0, 1) := by decide +kernel
theorem xd_GR_putEdge_18 : decode xc_GR_putEdge 18 = .ok (.dup, 1) := by decide +kernel
theorem xd_GR_putEdge_19 : decode xc_GR_putEdge 19 = .ok (.getfield 18, 3) := by decide +kernel
theorem xd_GR_putEdge_22 : decode xc_GR_putEdge 22 = .ok (.iconst 1, 1) := by decide +kernel
theorem xd_GR_putEdge_23 : decode xc_GR_putEdge 23 = .ok (.iadd, 1) := by decide +kernel
theorem xd_GR_putEdge_24 : decode xc_GR_putEdge 24 = .ok (.putfield 18, 3) := by decide +kernel
theorem xd_GR_putEdge_27 : decode xc_GR_putEdge 27 = .ok (.return_, 1) := by decide +kernel
theorem xd_GR_dropEdge_0 : decode xc_GR_dropEdge 0 = .ok (.aload_n 0, 1) := by decide +kernel
theorem xd_GR_dropEdge_1 : decode xc_GR_dropEdge 1 = .ok (.getfield 9, 3) := by decide +kernel
theorem xd_GR_dropEdge_4 : decode xc_GR_dropEdge 4 = .ok (.iload_n 2, 1) := by decide +kernel
theorem xd_GR_dropEdge_5 : decode xc_GR_dropEdge 5 = .ok (.bipush 32, 2) := by decide +kernel
theorem xd_GR_dropEdge_7 : decode xc_GR_dropEdge 7 = .ok (.imul, 1) := by decide +kernel
theorem xd_GR_dropEdge_8 : decode xc_GR_dropEdge 8 = .ok (.iload_n 1, 1) := by decide +kernel
theorem xd_GR_dropEdge_9 : decode xc_GR_dropEdge 9 = .ok (.iadd, 1) := by decide +kernel
theorem xd_GR_dropEdge_10 : decode xc_GR_dropEdge 10 = .ok (.dup2, 1) := by decide +kernel
theorem xd_GR_dropEdge_11 : decode xc_GR_dropEdge 11 = .ok (.iaload, 1) := by decide +kernel
theorem xd_GR_dropEdge_12 : decode xc_GR_dropEdge 12 = .ok (.iconst 1, 1) := by decide +kernel
theorem xd_GR_dropEdge_13 : decode xc_GR_dropEdge 13 = .ok (.iload_n 3, 1) := by decide +kernel
theorem xd_GR_dropEdge_14 : decode xc_GR_dropEdge 14 = .ok (.ishl, 1) := by decide +kernel
theorem xd_GR_dropEdge_15 : decode xc_GR_dropEdge 15 = .ok (.iconst (-1), 1) := by decide +kernel
theorem xd_GR_dropEdge_16 : decode xc_GR_dropEdge 16 = .ok (.ixor, 1) := by decide +kernel
theorem xd_GR_dropEdge_17 : decode xc_GR_dropEdge 17 = .ok (.iand, 1) := by decide +kernel
theorem xd_GR_dropEdge_18 : decode xc_GR_dropEdge 18 = .ok (.iastore, 1) := by decide +kernel
theorem xd_GR_dropEdge_19 : decode xc_GR_dropEdge 19 = .ok (.aload_n 0, 1) := by decide +kernel
theorem xd_GR_dropEdge_20 : decode xc_GR_dropEdge 20 = .ok (.dup, 1) := by decide +kernel
theorem xd_GR_dropEdge_21 : decode xc_GR_dropEdge 21 = .ok (.getfield 18, 3) := by decide +kernel
theorem xd_GR_dropEdge_24 : decode xc_GR_dropEdge 24 = .ok (.iconst 1, 1) := by decide +kernel
theorem xd_GR_dropEdge_25 : decode xc_GR_dropEdge 25 = .ok (.isub, 1) := by decide +kernel
theorem xd_GR_dropEdge_26 : decode xc_GR_dropEdge 26 = .ok (.putfield 18, 3) := by decide +kernel
theorem xd_GR_dropEdge_29 : decode xc_GR_dropEdge 29 = .ok (.return_, 1) := by decide +kernel
theorem xd_GR_setTag_0 : decode xc_GR_setTag 0 = .ok (.iload_n 3, 1) := by decide +kernel
theorem xd_GR_setTag_1 : decode xc_GR_setTag 1 = .ok (.ifCond .eq 18, 3) := by decide +kernel
theorem xd_GR_setTag_4 : decode xc_GR_setTag 4 = .ok (.aload_n 0, 1) := by decide +kernel
theorem xd_GR_setTag_5 : decode xc_GR_setTag 5 = .ok (.getfield 15, 3) := by decide +kernel
theorem xd_GR_setTag_8 : decode xc_GR_setTag 8 = .ok (.iload_n 2, 1) := by decide +kernel
theorem xd_GR_setTag_9 : decode xc_GR_setTag 9 = .ok (.dup2, 1) := by decide +kernel
theorem xd_GR_setTag_10 : decode xc_GR_setTag 10 = .ok (.iaload, 1) := by decide +kernel
theorem xd_GR_setTag_11 : decode xc_GR_setTag 11 = .ok (.iconst 1, 1) := by decide +kernel
theorem xd_GR_setTag_12 : decode xc_GR_setTag 12 = .ok (.iload_n 1, 1) := by decide +kernel
theorem xd_GR_setTag_13 : decode xc_GR_setTag 13 = .ok (.ishl, 1) := by decide +kernel
theorem xd_GR_setTag_14 : decode xc_GR_setTag 14 = .ok (.ior, 1) := by decide +kernel
theorem xd_GR_setTag_15 : decode xc_GR_setTag 15 = .ok (.iastore, 1) := by decide +kernel
theorem xd_GR_setTag_16 : decode xc_GR_setTag 16 = .ok (.goto 17, 3) := by decide +kernel
theorem xd_GR_setTag_19 : decode xc_GR_setTag 19 = .ok (.aload_n 0, 1) := by decide +kernel
theorem xd_GR_setTag_20 : decode xc_GR_setTag 20 = .ok (.getfield 15, 3) := by decide +kernel
theorem xd_GR_setTag_23 : decode xc_GR_setTag 23 = .ok (.iload_n 2, 1) := by decide +kernel
theorem xd_GR_setTag_24 : decode xc_GR_setTag 24 = .ok (.dup2, 1) := by decide +kernel
theorem xd_GR_setTag_25 : decode xc_GR_setTag 25 = .ok (.iaload, 1) := by decide +kernel
theorem xd_GR_setTag_26 : decode xc_GR_setTag 26 = .ok (.iconst 1, 1) := by decide +kernel
theorem xd_GR_setTag_27 : decode xc_GR_setTag 27 = .ok (.iload_n 1, 1) := by decide +kernel
theorem xd_GR_setTag_28 : decode xc_GR_setTag 28 = .ok (.ishl, 1) := by decide +kernel
theorem xd_GR_setTag_29 : decode xc_GR_setTag 29 = .ok (.iconst (-1), 1) := by decide +kernel
theorem xd_GR_setTag_30 : decode xc_GR_setTag 30 = .ok (.ixor, 1) := by decide +kernel
theorem xd_GR_setTag_31 : decode xc_GR_setTag 31 = .ok (.iand, 1) := by decide +kernel
theorem xd_GR_setTag_32 : decode xc_GR_setTag 32 = .ok (.iastore, 1) := by decide +kernel
theorem xd_GR_setTag_33 : decode xc_GR_setTag 33 = .ok (.return_, 1) := by decide +kernel
theorem xd_GR_nextOf_0 : decode xc_GR_nextOf 0 = .ok (.iconst 0, 1) := by decide +kernel
theorem xd_GR_nextOf_1 : decode xc_GR_nextOf 1 = .ok (.istore_n 3, 1) := by decide +kernel
theorem xd_GR_nextOf_2 : decode xc_GR_nextOf 2 = .ok (.iconst 0, 1) := by decide +kernel
theorem xd_GR_nextOf_3 : decode xc_GR_nextOf 3 = .ok (.istore 4, 2) := by decide +kernel
theorem xd_GR_nextOf_5 : decode xc_GR_nextOf 5 = .ok (.iload 4, 2) := by decide +kernel
theorem xd_GR_nextOf_7 : decode xc_GR_nextOf 7 = .ok (.bipush 8, 2) := by decide +kernel
theorem xd_GR_nextOf_9 : decode xc_GR_nextOf 9 = .ok (.if_icmp .ge 33, 3) := by decide +kernel
theorem xd_GR_nextOf_12 : decode xc_GR_nextOf 12 = .ok (.iload_n 2, 1) := by decide +kernel
theorem xd_GR_nextOf_13 : decode xc_GR_nextOf 13 = .ok (.iload 4, 2) := by decide +kernel
theorem xd_GR_nextOf_15 : decode xc_GR_nextOf 15 = .ok (.iushr, 1) := by decide +kernel
theorem xd_GR_nextOf_16 : decode xc_GR_nextOf 16 = .ok (.iconst 1, 1) := by decide +kernel
theorem xd_GR_nextOf_17 : decode xc_GR_nextOf 17 = .ok (.iand, 1) := by decide +kernel
theorem xd_GR_nextOf_18 : decode xc_GR_nextOf 18 = .ok (.ifCond .eq 18, 3) := by decide +kernel
theorem xd_GR_nextOf_21 : decode xc_GR_nextOf 21 = .ok (.iload_n 3, 1) := by decide +kernel
theorem xd_GR_nextOf_22 : decode xc_GR_nextOf 22 = .ok (.aload_n 0, 1) := by decide +kernel
theorem xd_GR_nextOf_23 : decode xc_GR_nextOf 23 = .ok (.getfield 9, 3) := by decide +kernel
theorem xd_GR_nextOf_26 : decode xc_GR_nextOf 26 = .ok (.iload 4, 2) := by decide +kernel
theorem xd_GR_nextOf_28 : decode xc_GR_nextOf 28 = .ok (.bipush 32, 2) := by decide +kernel
theorem xd_GR_nextOf_30 : decode xc_GR_nextOf 30 = .ok (.imul, 1) := by decide +kernel
theorem xd_GR_nextOf_31 : decode xc_GR_nextOf 31 = .ok (.iload_n 1, 1) := by decide +kernel
theorem xd_GR_nextOf_32 : decode xc_GR_nextOf 32 = .ok (.iadd, 1) := by decide +kernel
theorem xd_GR_nextOf_33 : decode xc_GR_nextOf 33 = .ok (.iaload, 1) := by decide +kernel
theorem xd_GR_nextOf_34 : decode xc_GR_nextOf 34 = .ok (.ior, 1) := by decide +kernel
theorem xd_GR_nextOf_35 : decode xc_GR_nextOf 35 = .ok (.istore_n 3, 1) := by decide +kernel
theorem xd_GR_nextOf_36 : decode xc_GR_nextOf 36 = .ok (.iinc 4 1, 3) := by decide +kernel
theorem xd_GR_nextOf_39 : decode xc_GR_nextOf 39 = .ok (.goto (-34), 3) := by decide +kernel
theorem xd_GR_nextOf_42 : decode xc_GR_nextOf 42 = .ok (.iload_n 3, 1) := by decide +kernel
theorem xd_GR_nextOf_43 : decode xc_GR_nextOf 43 = .ok (.ireturn, 1) := by decide +kernel

theorem xd_LW_edge_0 : decode xc_LW_edge 0 = .ok (.aload 4, 2) := by decide +kernel
theorem xd_LW_edge_2 : decode xc_LW_edge 2 = .ok (.iconst 0, 1) := by decide +kernel
theorem xd_LW_edge_3 : decode xc_LW_edge 3 = .ok (.aload_n 0, 1) := by decide +kernel
theorem xd_LW_edge_4 : decode xc_LW_edge 4 = .ok (.iload_n 1, 1) := by decide +kernel
theorem xd_LW_edge_5 : decode xc_LW_edge 5 = .ok (.iload_n 2, 1) := by decide +kernel
theorem xd_LW_edge_6 : decode xc_LW_edge 6 = .ok (.iload_n 3, 1) := by decide +kernel
theorem xd_LW_edge_7 : decode xc_LW_edge 7 = .ok (.invokevirtual 7, 3) := by decide +kernel
theorem xd_LW_edge_10 : decode xc_LW_edge 10 = .ok (.ifCond .eq 7, 3) := by decide +kernel
theorem xd_LW_edge_13 : decode xc_LW_edge 13 = .ok (.lconst 1, 1) := by decide +kernel
theorem xd_LW_edge_14 : decode xc_LW_edge 14 = .ok (.goto 4, 3) := by decide +kernel
theorem xd_LW_edge_17 : decode xc_LW_edge 17 = .ok (.lconst 0, 1) := by decide +kernel
theorem xd_LW_edge_18 : decode xc_LW_edge 18 = .ok (.lastore, 1) := by decide +kernel
theorem xd_LW_edge_19 : decode xc_LW_edge 19 = .ok (.goto 7, 3) := by decide +kernel
theorem xd_LW_edge_22 : decode xc_LW_edge 22 = .ok (.astore 5, 2) := by decide +kernel
theorem xd_LW_edge_24 : decode xc_LW_edge 24 = .ok (.iconst 1, 1) := by decide +kernel
theorem xd_LW_edge_25 : decode xc_LW_edge 25 = .ok (.ireturn, 1) := by decide +kernel
theorem xd_LW_edge_26 : decode xc_LW_edge 26 = .ok (.iconst 0, 1) := by decide +kernel
theorem xd_LW_edge_27 : decode xc_LW_edge 27 = .ok (.ireturn, 1) := by decide +kernel
theorem xd_LW_cut_0 : decode xc_LW_cut 0 = .ok (.aload 4, 2) := by decide +kernel
theorem xd_LW_cut_2 : decode xc_LW_cut 2 = .ok (.iconst 0, 1) := by decide +kernel
theorem xd_LW_cut_3 : decode xc_LW_cut 3 = .ok (.aload_n 0, 1) := by decide +kernel
theorem xd_LW_cut_4 : decode xc_LW_cut 4 = .ok (.iload_n 1, 1) := by decide +kernel
theorem xd_LW_cut_5 : decode xc_LW_cut 5 = .ok (.iload_n 2, 1) := by decide +kernel
theorem xd_LW_cut_6 : decode xc_LW_cut 6 = .ok (.iload_n 3, 1) := by decide +kernel
theorem xd_LW_cut_7 : decode xc_LW_cut 7 = .ok (.invokevirtual 15, 3) := by decide +kernel
theorem xd_LW_cut_10 : decode xc_LW_cut 10 = .ok (.ifCond .eq 7, 3) := by decide +kernel
theorem xd_LW_cut_13 : decode xc_LW_cut 13 = .ok (.lconst 1, 1) := by decide +kernel
theorem xd_LW_cut_14 : decode xc_LW_cut 14 = .ok (.goto 4, 3) := by decide +kernel
theorem xd_LW_cut_17 : decode xc_LW_cut 17 = .ok (.lconst 0, 1) := by decide +kernel
theorem xd_LW_cut_18 : decode xc_LW_cut 18 = .ok (.lastore, 1) := by decide +kernel
theorem xd_LW_cut_19 : decode xc_LW_cut 19 = .ok (.goto 7, 3) := by decide +kernel
theorem xd_LW_cut_22 : decode xc_LW_cut 22 = .ok (.astore 5, 2) := by decide +kernel
theorem xd_LW_cut_24 : decode xc_LW_cut 24 = .ok (.iconst 1, 1) := by decide +kernel
theorem xd_LW_cut_25 : decode xc_LW_cut 25 = .ok (.ireturn, 1) := by decide +kernel
theorem xd_LW_cut_26 : decode xc_LW_cut 26 = .ok (.iconst 0, 1) := by decide +kernel
theorem xd_LW_cut_27 : decode xc_LW_cut 27 = .ok (.ireturn, 1) := by decide +kernel
theorem xd_LW_tag_0 : decode xc_LW_tag 0 = .ok (.aload_n 0, 1) := by decide +kernel
theorem xd_LW_tag_1 : decode xc_LW_tag 1 = .ok (.iload_n 1, 1) := by decide +kernel
theorem xd_LW_tag_2 : decode xc_LW_tag 2 = .ok (.iload_n 2, 1) := by decide +kernel
theorem xd_LW_tag_3 : decode xc_LW_tag 3 = .ok (.iload_n 3, 1) := by decide +kernel
theorem xd_LW_tag_4 : decode xc_LW_tag 4 = .ok (.invokevirtual 18, 3) := by decide +kernel
theorem xd_LW_tag_7 : decode xc_LW_tag 7 = .ok (.goto 7, 3) := by decide +kernel
theorem xd_LW_tag_10 : decode xc_LW_tag 10 = .ok (.astore 4, 2) := by decide +kernel
theorem xd_LW_tag_12 : decode xc_LW_tag 12 = .ok (.iconst 1, 1) := by decide +kernel
theorem xd_LW_tag_13 : decode xc_LW_tag 13 = .ok (.ireturn, 1) := by decide +kernel
theorem xd_LW_tag_14 : decode xc_LW_tag 14 = .ok (.iconst 0, 1) := by decide +kernel
theorem xd_LW_tag_15 : decode xc_LW_tag 15 = .ok (.ireturn, 1) := by decide +kernel
theorem xd_LW_feed_0 : decode xc_LW_feed 0 = .ok (.aload 4, 2) := by decide +kernel
theorem xd_LW_feed_2 : decode xc_LW_feed 2 = .ok (.iconst 0, 1) := by decide +kernel
theorem xd_LW_feed_3 : decode xc_LW_feed 3 = .ok (.aload_n 0, 1) := by decide +kernel
theorem xd_LW_feed_4 : decode xc_LW_feed 4 = .ok (.lload_n 1, 1) := by decide +kernel
theorem xd_LW_feed_5 : decode xc_LW_feed 5 = .ok (.iload_n 3, 1) := by decide +kernel
theorem xd_LW_feed_6 : decode xc_LW_feed 6 = .ok (.invokevirtual 22, 3) := by decide +kernel
theorem xd_LW_feed_9 : decode xc_LW_feed 9 = .ok (.i2l, 1) := by decide +kernel
theorem xd_LW_feed_10 : decode xc_LW_feed 10 = .ok (.lastore, 1) := by decide +kernel
theorem xd_LW_feed_11 : decode xc_LW_feed 11 = .ok (.goto 7, 3) := by decide +kernel
theorem xd_LW_feed_14 : decode xc_LW_feed 14 = .ok (.astore 5, 2) := by decide +kernel
theorem xd_LW_feed_16 : decode xc_LW_feed 16 = .ok (.iconst 1, 1) := by decide +kernel
theorem xd_LW_feed_17 : decode xc_LW_feed 17 = .ok (.ireturn, 1) := by decide +kernel
theorem xd_LW_feed_18 : decode xc_LW_feed 18 = .ok (.iconst 0, 1) := by decide +kernel
theorem xd_LW_feed_19 : decode xc_LW_feed 19 = .ok (.ireturn, 1) := by decide +kernel
theorem xd_LW_load_0 : decode xc_LW_load 0 = .ok (.aload_n 2, 1) := by decide +kernel
theorem xd_LW_load_1 : decode xc_LW_load 1 = .ok (.iconst 0, 1) := by decide +kernel
theorem xd_LW_load_2 : decode xc_LW_load 2 = .ok (.aload_n 0, 1) := by decide +kernel
theorem xd_LW_load_3 : decode xc_LW_load 3 = .ok (.iload_n 1, 1) := by decide +kernel
theorem xd_LW_load_4 : decode xc_LW_load 4 = .ok (.invokevirtual 26, 3) := by decide +kernel
theorem xd_LW_load_7 : decode xc_LW_load 7 = .ok (.i2l, 1) := by decide +kernel
theorem xd_LW_load_8 : decode xc_LW_load 8 = .ok (.lastore, 1) := by decide +kernel
theorem xd_LW_load_9 : decode xc_LW_load 9 = .ok (.goto 6, 3) := by decide +kernel
theorem xd_LW_load_12 : decode xc_LW_load 12 = .ok (.astore_n 3, 1) := by decide +kernel
theorem xd_LW_load_13 : decode xc_LW_load 13 = .ok (.iconst 1, 1) := by decide +kernel
theorem xd_LW_load_14 : decode xc_LW_load 14 = .ok (.ireturn, 1) := by decide +kernel
theorem xd_LW_load_15 : decode xc_LW_load 15 = .ok (.iconst 0, 1) := by decide +kernel
theorem xd_LW_load_16 : decode xc_LW_load 16 = .ok (.ireturn, 1) := by decide +kernel
theorem xd_LW_reach_0 : decode xc_LW_reach 0 = .ok (.aload 4, 2) := by decide +kernel
theorem xd_LW_reach_2 : decode xc_LW_reach 2 = .ok (.iconst 0, 1) := by decide +kernel
theorem xd_LW_reach_3 : decode xc_LW_reach 3 = .ok (.aload_n 0, 1) := by decide +kernel
theorem xd_LW_reach_4 : decode xc_LW_reach 4 = .ok (.iload_n 1, 1) := by decide +kernel
theorem xd_LW_reach_5 : decode xc_LW_reach 5 = .ok (.iload_n 2, 1) := by decide +kernel
theorem xd_LW_reach_6 : decode xc_LW_reach 6 = .ok (.iload_n 3, 1) := by decide +kernel
theorem xd_LW_reach_7 : decode xc_LW_reach 7 = .ok (.invokevirtual 32, 3) := by decide +kernel
theorem xd_LW_reach_10 : decode xc_LW_reach 10 = .ok (.i2l, 1) := by decide +kernel
theorem xd_LW_reach_11 : decode xc_LW_reach 11 = .ok (.lastore, 1) := by decide +kernel
theorem xd_LW_reach_12 : decode xc_LW_reach 12 = .ok (.goto 11, 3) := by decide +kernel
theorem xd_LW_reach_15 : decode xc_LW_reach 15 = .ok (.astore 5, 2) := by decide +kernel
theorem xd_LW_reach_17 : decode xc_LW_reach 17 = .ok (.iconst 1, 1) := by decide +kernel
theorem xd_LW_reach_18 : decode xc_LW_reach 18 = .ok (.ireturn, 1) := by decide +kernel
theorem xd_LW_reach_19 : decode xc_LW_reach 19 = .ok (.astore 5, 2) := by decide +kernel
theorem xd_LW_reach_21 : decode xc_LW_reach 21 = .ok (.iconst 2, 1) := by decide +kernel
theorem xd_LW_reach_22 : decode xc_LW_reach 22 = .ok (.ireturn, 1) := by decide +kernel
theorem xd_LW_reach_23 : decode xc_LW_reach 23 = .ok (.iconst 0, 1) := by decide +kernel
theorem xd_LW_reach_24 : decode xc_LW_reach 24 = .ok (.ireturn, 1) := by decide +kernel
theorem xd_LW_distance_0 : decode xc_LW_distance 0 = .ok (.aload 4, 2) := by decide +kernel
theorem xd_LW_distance_2 : decode xc_LW_distance 2 = .ok (.iconst 0, 1) := by decide +kernel
theorem xd_LW_distance_3 : decode xc_LW_distance 3 = .ok (.aload_n 0, 1) := by decide +kernel
theorem xd_LW_distance_4 : decode xc_LW_distance 4 = .ok (.iload_n 1, 1) := by decide +kernel
theorem xd_LW_distance_5 : decode xc_LW_distance 5 = .ok (.iload_n 2, 1) := by decide +kernel
theorem xd_LW_distance_6 : decode xc_LW_distance 6 = .ok (.iload_n 3, 1) := by decide +kernel
theorem xd_LW_distance_7 : decode xc_LW_distance 7 = .ok (.invokevirtual 36, 3) := by decide +kernel
theorem xd_LW_distance_10 : decode xc_LW_distance 10 = .ok (.i2l, 1) := by decide +kernel
theorem xd_LW_distance_11 : decode xc_LW_distance 11 = .ok (.lastore, 1) := by decide +kernel
theorem xd_LW_distance_12 : decode xc_LW_distance 12 = .ok (.goto 11, 3) := by decide +kernel
theorem xd_LW_distance_15 : decode xc_LW_distance 15 = .ok (.astore 5, 2) := by decide +kernel
theorem xd_LW_distance_17 : decode xc_LW_distance 17 = .ok (.iconst 1, 1) := by decide +kernel
theorem xd_LW_distance_18 : decode xc_LW_distance 18 = .ok (.ireturn, 1) := by decide +kernel
theorem xd_LW_distance_19 : decode xc_LW_distance 19 = .ok (.astore 5, 2) := by decide +kernel
theorem xd_LW_distance_21 : decode xc_LW_distance 21 = .ok (.iconst 2, 1) := by decide +kernel
theorem xd_LW_distance_22 : decode xc_LW_distance 22 = .ok (.ireturn, 1) := by decide +kernel
theorem xd_LW_distance_23 : decode xc_LW_distance 23 = .ok (.iconst 0, 1) := by decide +kernel
theorem xd_LW_distance_24 : decode xc_LW_distance 24 = .ok (.ireturn, 1) := by decide +kernel
theorem xd_LW_span_0 : decode xc_LW_span 0 = .ok (.aload_n 2, 1) := by decide +kernel
theorem xd_LW_span_1 : decode xc_LW_span 1 = .ok (.iconst 0, 1) := by decide +kernel
theorem xd_LW_span_2 : decode xc_LW_span 2 = .ok (.aload_n 0, 1) := by decide +kernel
theorem xd_LW_span_3 : decode xc_LW_span 3 = .ok (.iload_n 1, 1) := by decide +kernel
theorem xd_LW_span_4 : decode xc_LW_span 4 = .ok (.invokevirtual 40, 3) := by decide +kernel
theorem xd_LW_span_7 : decode xc_LW_span 7 = .ok (.i2l, 1) := by decide +kernel
theorem xd_LW_span_8 : decode xc_LW_span 8 = .ok (.lastore, 1) := by decide +kernel
theorem xd_LW_span_9 : decode xc_LW_span 9 = .ok (.goto 6, 3) := by decide +kernel
theorem xd_LW_span_12 : decode xc_LW_span 12 = .ok (.astore_n 3, 1) := by decide +kernel
theorem xd_LW_span_13 : decode xc_LW_span 13 = .ok (.iconst 1, 1) := by decide +kernel
theorem xd_LW_span_14 : decode xc_LW_span 14 = .ok (.ireturn, 1) := by decide +kernel
theorem xd_LW_span_15 : decode xc_LW_span 15 = .ok (.iconst 0, 1) := by decide +kernel
theorem xd_LW_span_16 : decode xc_LW_span 16 = .ok (.ireturn, 1) := by decide +kernel
theorem xd_LW_pairs_0 : decode xc_LW_pairs 0 = .ok (.aload 4, 2) := by decide +kernel
theorem xd_LW_pairs_2 : decode xc_LW_pairs 2 = .ok (.iconst 0, 1) := by decide +kernel
theorem xd_LW_pairs_3 : decode xc_LW_pairs 3 = .ok (.aload_n 0, 1) := by decide +kernel
theorem xd_LW_pairs_4 : decode xc_LW_pairs 4 = .ok (.iload_n 1, 1) := by decide +kernel
theorem xd_LW_pairs_5 : decode xc_LW_pairs 5 = .ok (.iload_n 2, 1) := by decide +kernel
theorem xd_LW_pairs_6 : decode xc_LW_pairs 6 = .ok (.iload_n 3, 1) := by decide +kernel
theorem xd_LW_pairs_7 : decode xc_LW_pairs 7 = .ok (.invokevirtual 43, 3) := by decide +kernel
theorem xd_LW_pairs_10 : decode xc_LW_pairs 10 = .ok (.i2l, 1) := by decide +kernel
theorem xd_LW_pairs_11 : decode xc_LW_pairs 11 = .ok (.lastore, 1) := by decide +kernel
theorem xd_LW_pairs_12 : decode xc_LW_pairs 12 = .ok (.goto 11, 3) := by decide +kernel
theorem xd_LW_pairs_15 : decode xc_LW_pairs 15 = .ok (.astore 5, 2) := by decide +kernel
theorem xd_LW_pairs_17 : decode xc_LW_pairs 17 = .ok (.iconst 1, 1) := by decide +kernel
theorem xd_LW_pairs_18 : decode xc_LW_pairs 18 = .ok (.ireturn, 1) := by decide +kernel
theorem xd_LW_pairs_19 : decode xc_LW_pairs 19 = .ok (.astore 5, 2) := by decide +kernel
theorem xd_LW_pairs_21 : decode xc_LW_pairs 21 = .ok (.iconst 2, 1) := by decide +kernel
theorem xd_LW_pairs_22 : decode xc_LW_pairs 22 = .ok (.ireturn, 1) := by decide +kernel
theorem xd_LW_pairs_23 : decode xc_LW_pairs 23 = .ok (.iconst 0, 1) := by decide +kernel
theorem xd_LW_pairs_24 : decode xc_LW_pairs 24 = .ok (.ireturn, 1) := by decide +kernel
theorem xd_LW_circle_0 : decode xc_LW_circle 0 = .ok (.aload_n 2, 1) := by decide +kernel
theorem xd_LW_circle_1 : decode xc_LW_circle 1 = .ok (.iconst 0, 1) := by decide +kernel
theorem xd_LW_circle_2 : decode xc_LW_circle 2 = .ok (.aload_n 0, 1) := by decide +kernel
theorem xd_LW_circle_3 : decode xc_LW_circle 3 = .ok (.iload_n 1, 1) := by decide +kernel
theorem xd_LW_circle_4 : decode xc_LW_circle 4 = .ok (.invokevirtual 46, 3) := by decide +kernel
theorem xd_LW_circle_7 : decode xc_LW_circle 7 = .ok (.i2l, 1) := by decide +kernel
theorem xd_LW_circle_8 : decode xc_LW_circle 8 = .ok (.lastore, 1) := by decide +kernel
theorem xd_LW_circle_9 : decode xc_LW_circle 9 = .ok (.goto 6, 3) := by decide +kernel
theorem xd_LW_circle_12 : decode xc_LW_circle 12 = .ok (.astore_n 3, 1) := by decide +kernel
theorem xd_LW_circle_13 : decode xc_LW_circle 13 = .ok (.iconst 1, 1) := by decide +kernel
theorem xd_LW_circle_14 : decode xc_LW_circle 14 = .ok (.ireturn, 1) := by decide +kernel
theorem xd_LW_circle_15 : decode xc_LW_circle 15 = .ok (.iconst 0, 1) := by decide +kernel
theorem xd_LW_circle_16 : decode xc_LW_circle 16 = .ok (.ireturn, 1) := by decide +kernel
theorem xd_LW_best_0 : decode xc_LW_best 0 = .ok (.aload_n 2, 1) := by decide +kernel
theorem xd_LW_best_1 : decode xc_LW_best 1 = .ok (.iconst 0, 1) := by decide +kernel
theorem xd_LW_best_2 : decode xc_LW_best 2 = .ok (.aload_n 0, 1) := by decide +kernel
theorem xd_LW_best_3 : decode xc_LW_best 3 = .ok (.iload_n 1, 1) := by decide +kernel
theorem xd_LW_best_4 : decode xc_LW_best 4 = .ok (.invokevirtual 49, 3) := by decide +kernel
theorem xd_LW_best_7 : decode xc_LW_best 7 = .ok (.i2l, 1) := by decide +kernel
theorem xd_LW_best_8 : decode xc_LW_best 8 = .ok (.lastore, 1) := by decide +kernel
theorem xd_LW_best_9 : decode xc_LW_best 9 = .ok (.goto 6, 3) := by decide +kernel
theorem xd_LW_best_12 : decode xc_LW_best 12 = .ok (.astore_n 3, 1) := by decide +kernel
theorem xd_LW_best_13 : decode xc_LW_best 13 = .ok (.iconst 1, 1) := by decide +kernel
theorem xd_LW_best_14 : decode xc_LW_best 14 = .ok (.ireturn, 1) := by decide +kernel
theorem xd_LW_best_15 : decode xc_LW_best 15 = .ok (.iconst 0, 1) := by decide +kernel
theorem xd_LW_best_16 : decode xc_LW_best 16 = .ok (.ireturn, 1) := by decide +kernel

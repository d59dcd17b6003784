theorem xd_MO_goes_0 : decode xc_MO_goes 0 = .ok (.aload_n 0, 1) := by decide +kernel
theorem xd_MO_goes_1 : decode xc_MO_goes 1 = .ok (.getfield 78, 3) := by decide +kernel
theorem xd_MO_goes_4 : decode xc_MO_goes 4 = .ok (.iconst (-1), 1) := by decide +kernel
theorem xd_MO_goes_5 : decode xc_MO_goes 5 = .ok (.if_icmp .ne 7, 3) := by decide +kernel
theorem xd_MO_goes_8 : decode xc_MO_goes 8 = .ok (.iconst 1, 1) := by decide +kernel
theorem xd_MO_goes_9 : decode xc_MO_goes 9 = .ok (.goto 4, 3) := by decide +kernel
theorem xd_MO_goes_12 : decode xc_MO_goes 12 = .ok (.iconst 0, 1) := by decide +kernel
theorem xd_MO_goes_13 : decode xc_MO_goes 13 = .ok (.ireturn, 1) := by decide +kernel
theorem xd_MO_now_0 : decode xc_MO_now 0 = .ok (.aload_n 0, 1) := by decide +kernel
theorem xd_MO_now_1 : decode xc_MO_now 1 = .ok (.getfield 72, 3) := by decide +kernel
theorem xd_MO_now_4 : decode xc_MO_now 4 = .ok (.aload_n 0, 1) := by decide +kernel
theorem xd_MO_now_5 : decode xc_MO_now 5 = .ok (.getfield 75, 3) := by decide +kernel
theorem xd_MO_now_8 : decode xc_MO_now 8 = .ok (.if_icmp .ge 15, 3) := by decide +kernel
theorem xd_MO_now_11 : decode xc_MO_now 11 = .ok (.aload_n 0, 1) := by decide +kernel
theorem xd_MO_now_12 : decode xc_MO_now 12 = .ok (.getfield 29, 3) := by decide +kernel
theorem xd_MO_now_15 : decode xc_MO_now 15 = .ok (.aload_n 0, 1) := by decide +kernel
theorem xd_MO_now_16 : decode xc_MO_now 16 = .ok (.getfield 72, 3) := by decide +kernel
theorem xd_MO_now_19 : decode xc_MO_now 19 = .ok (.iaload, 1) := by decide +kernel
theorem xd_MO_now_20 : decode xc_MO_now 20 = .ok (.goto 4, 3) := by decide +kernel
theorem xd_MO_now_23 : decode xc_MO_now 23 = .ok (.iconst 0, 1) := by decide +kernel
theorem xd_MO_now_24 : decode xc_MO_now 24 = .ok (.ireturn, 1) := by decide +kernel
theorem xd_MO_opens_0 : decode xc_MO_opens 0 = .ok (.aload_n 0, 1) := by decide +kernel
theorem xd_MO_opens_1 : decode xc_MO_opens 1 = .ok (.getfield 114, 3) := by decide +kernel
theorem xd_MO_opens_4 : decode xc_MO_opens 4 = .ok (.bipush 10, 2) := by decide +kernel
theorem xd_MO_opens_6 : decode xc_MO_opens 6 = .ok (.if_icmp .ne 8, 3) := by decide +kernel
theorem xd_MO_opens_9 : decode xc_MO_opens 9 = .ok (.aload_n 0, 1) := by decide +kernel
theorem xd_MO_opens_10 : decode xc_MO_opens 10 = .ok (.invokevirtual 89, 3) := by decide +kernel
theorem xd_MO_opens_13 : decode xc_MO_opens 13 = .ok (.return_, 1) := by decide +kernel
theorem xd_MO_opens_14 : decode xc_MO_opens 14 = .ok (.aload_n 0, 1) := by decide +kernel
theorem xd_MO_opens_15 : decode xc_MO_opens 15 = .ok (.dup, 1) := by decide +kernel
theorem xd_MO_opens_16 : decode xc_MO_opens 16 = .ok (.getfield 72, 3) := by decide +kernel
theorem xd_MO_opens_19 : decode xc_MO_opens 19 = .ok (.iconst 1, 1) := by decide +kernel
theorem xd_MO_opens_20 : decode xc_MO_opens 20 = .ok (.iadd, 1) := by decide +kernel
theorem xd_MO_opens_21 : decode xc_MO_opens 21 = .ok (.putfield 72, 3) := by decide +kernel
theorem xd_MO_opens_24 : decode xc_MO_opens 24 = .ok (.aload_n 0, 1) := by decide +kernel
theorem xd_MO_opens_25 : decode xc_MO_opens 25 = .ok (.dup, 1) := by decide +kernel
theorem xd_MO_opens_26 : decode xc_MO_opens 26 = .ok (.getfield 114, 3) := by decide +kernel
theorem xd_MO_opens_29 : decode xc_MO_opens 29 = .ok (.iconst 1, 1) := by decide +kernel
theorem xd_MO_opens_30 : decode xc_MO_opens 30 = .ok (.iadd, 1) := by decide +kernel
theorem xd_MO_opens_31 : decode xc_MO_opens 31 = .ok (.putfield 114, 3) := by decide +kernel
theorem xd_MO_opens_34 : decode xc_MO_opens 34 = .ok (.aload_n 0, 1) := by decide +kernel
theorem xd_MO_opens_35 : decode xc_MO_opens 35 = .ok (.invokevirtual 117, 3) := by decide +kernel
theorem xd_MO_opens_38 : decode xc_MO_opens 38 = .ok (.return_, 1) := by decide +kernel
theorem xd_MO_fail_0 : decode xc_MO_fail 0 = .ok (.aload_n 0, 1) := by decide +kernel
theorem xd_MO_fail_1 : decode xc_MO_fail 1 = .ok (.aload_n 0, 1) := by decide +kernel
theorem xd_MO_fail_2 : decode xc_MO_fail 2 = .ok (.getfield 78, 3) := by decide +kernel
theorem xd_MO_fail_5 : decode xc_MO_fail 5 = .ok (.iconst (-1), 1) := by decide +kernel
theorem xd_MO_fail_6 : decode xc_MO_fail 6 = .ok (.if_icmp .ne 10, 3) := by decide +kernel
theorem xd_MO_fail_9 : decode xc_MO_fail 9 = .ok (.aload_n 0, 1) := by decide +kernel
theorem xd_MO_fail_10 : decode xc_MO_fail 10 = .ok (.getfield 72, 3) := by decide +kernel
theorem xd_MO_fail_13 : decode xc_MO_fail 13 = .ok (.goto 7, 3) := by decide +kernel
theorem xd_MO_fail_16 : decode xc_MO_fail 16 = .ok (.aload_n 0, 1) := by decide +kernel
theorem xd_MO_fail_17 : decode xc_MO_fail 17 = .ok (.getfield 78, 3) := by decide +kernel
theorem xd_MO_fail_20 : decode xc_MO_fail 20 = .ok (.putfield 78, 3) := by decide +kernel
theorem xd_MO_fail_23 : decode xc_MO_fail 23 = .ok (.return_, 1) := by decide +kernel
theorem xd_MO_shuts_0 : decode xc_MO_shuts 0 = .ok (.aload_n 0, 1) := by decide +kernel
theorem xd_MO_shuts_1 : decode xc_MO_shuts 1 = .ok (.dup, 1) := by decide +kernel
theorem xd_MO_shuts_2 : decode xc_MO_shuts 2 = .ok (.getfield 72, 3) := by decide +kernel
theorem xd_MO_shuts_5 : decode xc_MO_shuts 5 = .ok (.iconst 1, 1) := by decide +kernel
theorem xd_MO_shuts_6 : decode xc_MO_shuts 6 = .ok (.iadd, 1) := by decide +kernel
theorem xd_MO_shuts_7 : decode xc_MO_shuts 7 = .ok (.putfield 72, 3) := by decide +kernel
theorem xd_MO_shuts_10 : decode xc_MO_shuts 10 = .ok (.aload_n 0, 1) := by decide +kernel
theorem xd_MO_shuts_11 : decode xc_MO_shuts 11 = .ok (.invokevirtual 126, 3) := by decide +kernel
theorem xd_MO_shuts_14 : decode xc_MO_shuts 14 = .ok (.aload_n 0, 1) := by decide +kernel
theorem xd_MO_shuts_15 : decode xc_MO_shuts 15 = .ok (.iconst 3, 1) := by decide +kernel
theorem xd_MO_shuts_16 : decode xc_MO_shuts 16 = .ok (.aload_n 0, 1) := by decide +kernel
theorem xd_MO_shuts_17 : decode xc_MO_shuts 17 = .ok (.getfield 114, 3) := by decide +kernel
theorem xd_MO_shuts_20 : decode xc_MO_shuts 20 = .ok (.imul, 1) := by decide +kernel
theorem xd_MO_shuts_21 : decode xc_MO_shuts 21 = .ok (.iconst 3, 1) := by decide +kernel
theorem xd_MO_shuts_22 : decode xc_MO_shuts 22 = .ok (.aload_n 0, 1) := by decide +kernel
theorem xd_MO_shuts_23 : decode xc_MO_shuts 23 = .ok (.getfield 114, 3) := by decide +kernel
theorem xd_MO_shuts_26 : decode xc_MO_shuts 26 = .ok (.imul, 1) := by decide +kernel
theorem xd_MO_shuts_27 : decode xc_MO_shuts 27 = .ok (.iconst 1, 1) := by decide +kernel
theorem xd_MO_shuts_28 : decode xc_MO_shuts 28 = .ok (.isub, 1) := by decide +kernel
theorem xd_MO_shuts_29 : decode xc_MO_shuts 29 = .ok (.invokevirtual 105, 3) := by decide +kernel
theorem xd_MO_shuts_32 : decode xc_MO_shuts 32 = .ok (.aload_n 0, 1) := by decide +kernel
theorem xd_MO_shuts_33 : decode xc_MO_shuts 33 = .ok (.getfield 36, 3) := by decide +kernel
theorem xd_MO_shuts_36 : decode xc_MO_shuts 36 = .ok (.iconst 3, 1) := by decide +kernel
theorem xd_MO_shuts_37 : decode xc_MO_shuts 37 = .ok (.aload_n 0, 1) := by decide +kernel
theorem xd_MO_shuts_38 : decode xc_MO_shuts 38 = .ok (.getfield 114, 3) := by decide +kernel
theorem xd_MO_shuts_41 : decode xc_MO_shuts 41 = .ok (.imul, 1) := by decide +kernel
theorem xd_MO_shuts_42 : decode xc_MO_shuts 42 = .ok (.iconst 1, 1) := by decide +kernel
theorem xd_MO_shuts_43 : decode xc_MO_shuts 43 = .ok (.isub, 1) := by decide +kernel
theorem xd_MO_shuts_44 : decode xc_MO_shuts 44 = .ok (.aload_n 0, 1) := by decide +kernel
theorem xd_MO_shuts_45 : decode xc_MO_shuts 45 = .ok (.getfield 36, 3) := by decide +kernel
theorem xd_MO_shuts_48 : decode xc_MO_shuts 48 = .ok (.iconst 3, 1) := by decide +kernel
theorem xd_MO_shuts_49 : decode xc_MO_shuts 49 = .ok (.aload_n 0, 1) := by decide +kernel
theorem xd_MO_shuts_50 : decode xc_MO_shuts 50 = .ok (.getfield 114, 3) := by decide +kernel
theorem xd_MO_shuts_53 : decode xc_MO_shuts 53 = .ok (.imul, 1) := by decide +kernel
theorem xd_MO_shuts_54 : decode xc_MO_shuts 54 = .ok (.iaload, 1) := by decide +kernel
theorem xd_MO_shuts_55 : decode xc_MO_shuts 55 = .ok (.iastore, 1) := by decide +kernel
theorem xd_MO_shuts_56 : decode xc_MO_shuts 56 = .ok (.aload_n 0, 1) := by decide +kernel
theorem xd_MO_shuts_57 : decode xc_MO_shuts 57 = .ok (.dup, 1) := by decide +kernel
theorem xd_MO_shuts_58 : decode xc_MO_shuts 58 = .ok (.getfield 114, 3) := by decide +kernel
theorem xd_MO_shuts_61 : decode xc_MO_shuts 61 = .ok (.iconst 1, 1) := by decide +kernel
theorem xd_MO_shuts_62 : decode xc_MO_shuts 62 = .ok (.isub, 1) := by decide +kernel
theorem xd_MO_shuts_63 : decode xc_MO_shuts 63 = .ok (.putfield 114, 3) := by decide +kernel
theorem xd_MO_shuts_66 : decode xc_MO_shuts 66 = .ok (.aload_n 0, 1) := by decide +kernel
theorem xd_MO_shuts_67 : decode xc_MO_shuts 67 = .ok (.invokevirtual 136, 3) := by decide +kernel
theorem xd_MO_shuts_70 : decode xc_MO_shuts 70 = .ok (.return_, 1) := by decide +kernel
theorem xd_MO_bar_0 : decode xc_MO_bar 0 = .ok (.aload_n 0, 1) := by decide +kernel
theorem xd_MO_bar_1 : decode xc_MO_bar 1 = .ok (.getfield 39, 3) := by decide +kernel
theorem xd_MO_bar_4 : decode xc_MO_bar 4 = .ok (.aload_n 0, 1) := by decide +kernel
theorem xd_MO_bar_5 : decode xc_MO_bar 5 = .ok (.getfield 114, 3) := by decide +kernel
theorem xd_MO_bar_8 : decode xc_MO_bar 8 = .ok (.baload, 1) := by decide +kernel
theorem xd_MO_bar_9 : decode xc_MO_bar 9 = .ok (.ifCond .eq 24, 3) := by decide +kernel
theorem xd_MO_bar_12 : decode xc_MO_bar 12 = .ok (.aload_n 0, 1) := by decide +kernel
theorem xd_MO_bar_13 : decode xc_MO_bar 13 = .ok (.iconst 3, 1) := by decide +kernel
theorem xd_MO_bar_14 : decode xc_MO_bar 14 = .ok (.aload_n 0, 1) := by decide +kernel
theorem xd_MO_bar_15 : decode xc_MO_bar 15 = .ok (.getfield 114, 3) := by decide +kernel
theorem xd_MO_bar_18 : decode xc_MO_bar 18 = .ok (.imul, 1) := by decide +kernel
theorem xd_MO_bar_19 : decode xc_MO_bar 19 = .ok (.iconst 3, 1) := by decide +kernel
theorem xd_MO_bar_20 : decode xc_MO_bar 20 = .ok (.aload_n 0, 1) := by decide +kernel
theorem xd_MO_bar_21 : decode xc_MO_bar 21 = .ok (.getfield 114, 3) := by decide +kernel
theorem xd_MO_bar_24 : decode xc_MO_bar 24 = .ok (.imul, 1) := by decide +kernel
theorem xd_MO_bar_25 : decode xc_MO_bar 25 = .ok (.iconst 1, 1) := by decide +kernel
theorem xd_MO_bar_26 : decode xc_MO_bar 26 = .ok (.iadd, 1) := by decide +kernel
theorem xd_MO_bar_27 : decode xc_MO_bar 27 = .ok (.invokevirtual 110, 3) := by decide +kernel
theorem xd_MO_bar_30 : decode xc_MO_bar 30 = .ok (.goto 21, 3) := by decide +kernel
theorem xd_MO_bar_33 : decode xc_MO_bar 33 = .ok (.aload_n 0, 1) := by decide +kernel
theorem xd_MO_bar_34 : decode xc_MO_bar 34 = .ok (.iconst 3, 1) := by decide +kernel
theorem xd_MO_bar_35 : decode xc_MO_bar 35 = .ok (.aload_n 0, 1) := by decide +kernel
theorem xd_MO_bar_36 : decode xc_MO_bar 36 = .ok (.getfield 114, 3) := by decide +kernel
theorem xd_MO_bar_39 : decode xc_MO_bar 39 = .ok (.imul, 1) := by decide +kernel
theorem xd_MO_bar_40 : decode xc_MO_bar 40 = .ok (.iconst 1, 1) := by decide +kernel
theorem xd_MO_bar_41 : decode xc_MO_bar 41 = .ok (.iadd, 1) := by decide +kernel
theorem xd_MO_bar_42 : decode xc_MO_bar 42 = .ok (.iconst 3, 1) := by decide +kernel
theorem xd_MO_bar_43 : decode xc_MO_bar 43 = .ok (.aload_n 0, 1) := by decide +kernel
theorem xd_MO_bar_44 : decode xc_MO_bar 44 = .ok (.getfield 114, 3) := by decide +kernel
theorem xd_MO_bar_47 : decode xc_MO_bar 47 = .ok (.imul, 1) := by decide +kernel
theorem xd_MO_bar_48 : decode xc_MO_bar 48 = .ok (.invokevirtual 105, 3) := by decide +kernel
theorem xd_MO_bar_51 : decode xc_MO_bar 51 = .ok (.aload_n 0, 1) := by decide +kernel
theorem xd_MO_bar_52 : decode xc_MO_bar 52 = .ok (.getfield 39, 3) := by decide +kernel
theorem xd_MO_bar_55 : decode xc_MO_bar 55 = .ok (.aload_n 0, 1) := by decide +kernel
theorem xd_MO_bar_56 : decode xc_MO_bar 56 = .ok (.getfield 114, 3) := by decide +kernel
theorem xd_MO_bar_59 : decode xc_MO_bar 59 = .ok (.iconst 1, 1) := by decide +kernel
theorem xd_MO_bar_60 : decode xc_MO_bar 60 = .ok (.bastore, 1) := by decide +kernel
theorem xd_MO_bar_61 : decode xc_MO_bar 61 = .ok (.aload_n 0, 1) := by decide +kernel
theorem xd_MO_bar_62 : decode xc_MO_bar 62 = .ok (.getfield 36, 3) := by decide +kernel
theorem xd_MO_bar_65 : decode xc_MO_bar 65 = .ok (.iconst 3, 1) := by decide +kernel
theorem xd_MO_bar_66 : decode xc_MO_bar 66 = .ok (.aload_n 0, 1) := by decide +kernel
theorem xd_MO_bar_67 : decode xc_MO_bar 67 = .ok (.getfield 114, 3) := by decide +kernel
theorem xd_MO_bar_70 : decode xc_MO_bar 70 = .ok (.imul, 1) := by decide +kernel
theorem xd_MO_bar_71 : decode xc_MO_bar 71 = .ok (.dup2, 1) := by decide +kernel
theorem xd_MO_bar_72 : decode xc_MO_bar 72 = .ok (.iaload, 1) := by decide +kernel
theorem xd_MO_bar_73 : decode xc_MO_bar 73 = .ok (.aload_n 0, 1) := by decide +kernel
theorem xd_MO_bar_74 : decode xc_MO_bar 74 = .ok (.getfield 36, 3) := by decide +kernel
theorem xd_MO_bar_77 : decode xc_MO_bar 77 = .ok (.iconst 3, 1) := by decide +kernel
theorem xd_MO_bar_78 : decode xc_MO_bar 78 = .ok (.aload_n 0, 1) := by decide +kernel
theorem xd_MO_bar_79 : decode xc_MO_bar 79 = .ok (.getfield 114, 3) := by decide +kernel
theorem xd_MO_bar_82 : decode xc_MO_bar 82 = .ok (.imul, 1) := by decide +kernel
theorem xd_MO_bar_83 : decode xc_MO_bar 83 = .ok (.iconst 1, 1) := by decide +kernel
theorem xd_MO_bar_84 : decode xc_MO_bar 84 = .ok (.iadd, 1) := by decide +kernel
theorem xd_MO_bar_85 : decode xc_MO_bar 85 = .ok (.iaload, 1) := by decide +kernel
theorem xd_MO_bar_86 : decode xc_MO_bar 86 = .ok (.iadd, 1) := by decide +kernel
theorem xd_MO_bar_87 : decode xc_MO_bar 87 = .ok (.iastore, 1) := by decide +kernel
theorem xd_MO_bar_88 : decode xc_MO_bar 88 = .ok (.return_, 1) := by decide +kernel
theorem xd_MO_either_0 : decode xc_MO_either 0 = .ok (.iconst 0, 1) := by decide +kernel
theorem xd_MO_either_1 : decode xc_MO_either 1 = .ok (.istore_n 3, 1) := by decide +kernel
theorem xd_MO_either_2 : decode xc_MO_either 2 = .ok (.aload_n 0, 1) := by decide +kernel
theorem xd_MO_either_3 : decode xc_MO_either 3 = .ok (.getfield 92, 3) := by decide +kernel
theorem xd_MO_either_6 : decode xc_MO_either 6 = .ok (.ifCond .eq 76, 3) := by decide +kernel
theorem xd_MO_either_9 : decode xc_MO_either 9 = .ok (.iload_n 3, 1) := by decide +kernel
theorem xd_MO_either_10 : decode xc_MO_either 10 = .ok (.sipush 1024, 3) := by decide +kernel
theorem xd_MO_either_13 : decode xc_MO_either 13 = .ok (.if_icmp .ge 69, 3) := by decide +kernel
theorem xd_MO_either_16 : decode xc_MO_either 16 = .ok (.aload_n 0, 1) := by decide +kernel
theorem xd_MO_either_17 : decode xc_MO_either 17 = .ok (.getfield 33, 3) := by decide +kernel
theorem xd_MO_either_20 : decode xc_MO_either 20 = .ok (.sipush 1024, 3) := by decide +kernel
theorem xd_MO_either_23 : decode xc_MO_either 23 = .ok (.iload_n 2, 1) := by decide +kernel
theorem xd_MO_either_24 : decode xc_MO_either 24 = .ok (.imul, 1) := by decide +kernel
theorem xd_MO_either_25 : decode xc_MO_either 25 = .ok (.iload_n 3, 1) := by decide +kernel
theorem xd_MO_either_26 : decode xc_MO_either 26 = .ok (.iadd, 1) := by decide +kernel
theorem xd_MO_either_27 : decode xc_MO_either 27 = .ok (.iaload, 1) := by decide +kernel
theorem xd_MO_either_28 : decode xc_MO_either 28 = .ok (.istore 4, 2) := by decide +kernel
theorem xd_MO_either_30 : decode xc_MO_either 30 = .ok (.aload_n 0, 1) := by decide +kernel
theorem xd_MO_either_31 : decode xc_MO_either 31 = .ok (.getfield 33, 3) := by decide +kernel
theorem xd_MO_either_34 : decode xc_MO_either 34 = .ok (.sipush 1024, 3) := by decide +kernel
theorem xd_MO_either_37 : decode xc_MO_either 37 = .ok (.iload_n 1, 1) := by decide +kernel
theorem xd_MO_either_38 : decode xc_MO_either 38 = .ok (.imul, 1) := by decide +kernel
theorem xd_MO_either_39 : decode xc_MO_either 39 = .ok (.iload_n 3, 1) := by decide +kernel
theorem xd_MO_either_40 : decode xc_MO_either 40 = .ok (.iadd, 1) := by decide +kernel
theorem xd_MO_either_41 : decode xc_MO_either 41 = .ok (.iload 4, 2) := by decide +kernel
theorem xd_MO_either_43 : decode xc_MO_either 43 = .ok (.aload_n 0, 1) := by decide +kernel
theorem xd_MO_either_44 : decode xc_MO_either 44 = .ok (.getfield 33, 3) := by decide +kernel
theorem xd_MO_either_47 : decode xc_MO_either 47 = .ok (.sipush 1024, 3) := by decide +kernel
theorem xd_MO_either_50 : decode xc_MO_either 50 = .ok (.iload_n 1, 1) := by decide +kernel
theorem xd_MO_either_51 : decode xc_MO_either 51 = .ok (.imul, 1) := by decide +kernel
theorem xd_MO_either_52 : decode xc_MO_either 52 = .ok (.iload_n 3, 1) := by decide +kernel
theorem xd_MO_either_53 : decode xc_MO_either 53 = .ok (.iadd, 1) := by decide +kernel
theorem xd_MO_either_54 : decode xc_MO_either 54 = .ok (.iaload, 1) := by decide +kernel
theorem xd_MO_either_55 : decode xc_MO_either 55 = .ok (.if_icmp .ge 8, 3) := by decide +kernel
theorem xd_MO_either_58 : decode xc_MO_either 58 = .ok (.iload 4, 2) := by decide +kernel
theorem xd_MO_either_60 : decode xc_MO_either 60 = .ok (.goto 15, 3) := by decide +kernel
theorem xd_MO_either_63 : decode xc_MO_either 63 = .ok (.aload_n 0, 1) := by decide +kernel
theorem xd_MO_either_64 : decode xc_MO_either 64 = .ok (.getfield 33, 3) := by decide +kernel
theorem xd_MO_either_67 : decode xc_MO_either 67 = .ok (.sipush 1024, 3) := by decide +kernel
theorem xd_MO_either_70 : decode xc_MO_either 70 = .ok (.iload_n 1, 1) := by decide +kernel
theorem xd_MO_either_71 : decode xc_MO_either 71 = .ok (.imul, 1) := by decide +kernel
theorem xd_MO_either_72 : decode xc_MO_either 72 = .ok (.iload_n 3, 1) := by decide +kernel
theorem xd_MO_either_73 : decode xc_MO_either 73 = .ok (.iadd, 1) := by decide +kernel
theorem xd_MO_either_74 : decode xc_MO_either 74 = .ok (.iaload, 1) := by decide +kernel
theorem xd_MO_either_75 : decode xc_MO_either 75 = .ok (.iastore, 1) := by decide +kernel
theorem xd_MO_either_76 : decode xc_MO_either 76 = .ok (.iinc 3 1, 3) := by decide +kernel
theorem xd_MO_either_79 : decode xc_MO_either 79 = .ok (.goto (-77), 3) := by decide +kernel
theorem xd_MO_either_82 : decode xc_MO_either 82 = .ok (.return_, 1) := by decide +kernel
theorem xd_MO_copy_0 : decode xc_MO_copy 0 = .ok (.iconst 0, 1) := by decide +kernel
theorem xd_MO_copy_1 : decode xc_MO_copy 1 = .ok (.istore_n 3, 1) := by decide +kernel
theorem xd_MO_copy_2 : decode xc_MO_copy 2 = .ok (.aload_n 0, 1) := by decide +kernel
theorem xd_MO_copy_3 : decode xc_MO_copy 3 = .ok (.getfield 92, 3) := by decide +kernel
theorem xd_MO_copy_6 : decode xc_MO_copy 6 = .ok (.ifCond .eq 40, 3) := by decide +kernel
theorem xd_MO_copy_9 : decode xc_MO_copy 9 = .ok (.iload_n 3, 1) := by decide +kernel
theorem xd_MO_copy_10 : decode xc_MO_copy 10 = .ok (.sipush 1024, 3) := by decide +kernel
theorem xd_MO_copy_13 : decode xc_MO_copy 13 = .ok (.if_icmp .ge 33, 3) := by decide +kernel
theorem xd_MO_copy_16 : decode xc_MO_copy 16 = .ok (.aload_n 0, 1) := by decide +kernel
theorem xd_MO_copy_17 : decode xc_MO_copy 17 = .ok (.getfield 33, 3) := by decide +kernel
theorem xd_MO_copy_20 : decode xc_MO_copy 20 = .ok (.sipush 1024, 3) := by decide +kernel
theorem xd_MO_copy_23 : decode xc_MO_copy 23 = .ok (.iload_n 2, 1) := by decide +kernel
theorem xd_MO_copy_24 : decode xc_MO_copy 24 = .ok (.imul, 1) := by decide +kernel
theorem xd_MO_copy_25 : decode xc_MO_copy 25 = .ok (.iload_n 3, 1) := by decide +kernel
theorem xd_MO_copy_26 : decode xc_MO_copy 26 = .ok (.iadd, 1) := by decide +kernel
theorem xd_MO_copy_27 : decode xc_MO_copy 27 = .ok (.aload_n 0, 1) := by decide +kernel
theorem xd_MO_copy_28 : decode xc_MO_copy 28 = .ok (.getfield 33, 3) := by decide +kernel
theorem xd_MO_copy_31 : decode xc_MO_copy 31 = .ok (.sipush 1024, 3) := by decide +kernel
theorem xd_MO_copy_34 : decode xc_MO_copy 34 = .ok (.iload_n 1, 1) := by decide +kernel
theorem xd_MO_copy_35 : decode xc_MO_copy 35 = .ok (.imul, 1) := by decide +kernel
theorem xd_MO_copy_36 : decode xc_MO_copy 36 = .ok (.iload_n 3, 1) := by decide +kernel
theorem xd_MO_copy_37 : decode xc_MO_copy 37 = .ok (.iadd, 1) := by decide +kernel
theorem xd_MO_copy_38 : decode xc_MO_copy 38 = .ok (.iaload, 1) := by decide +kernel
theorem xd_MO_copy_39 : decode xc_MO_copy 39 = .ok (.iastore, 1) := by decide +kernel
theorem xd_MO_copy_40 : decode xc_MO_copy 40 = .ok (.iinc 3 1, 3) := by decide +kernel
theorem xd_MO_copy_43 : decode xc_MO_copy 43 = .ok (.goto (-41), 3) := by decide +kernel
theorem xd_MO_copy_46 : decode xc_MO_copy 46 = .ok (.return_, 1) := by decide +kernel
theorem xd_MO_signs_0 : decode xc_MO_signs 0 = .ok (.iconst 3, 1) := by decide +kernel
theorem xd_MO_signs_1 : decode xc_MO_signs 1 = .ok (.aload_n 0, 1) := by decide +kernel
theorem xd_MO_signs_2 : decode xc_MO_signs 2 = .ok (.getfield 114, 3) := by decide +kernel
theorem xd_MO_signs_5 : decode xc_MO_signs 5 = .ok (.imul, 1) := by decide +kernel
theorem xd_MO_signs_6 : decode xc_MO_signs 6 = .ok (.iconst 2, 1) := by decide +kernel
theorem xd_MO_signs_7 : decode xc_MO_signs 7 = .ok (.iadd, 1) := by decide +kernel
theorem xd_MO_signs_8 : decode xc_MO_signs 8 = .ok (.istore_n 1, 1) := by decide +kernel
theorem xd_MO_signs_9 : decode xc_MO_signs 9 = .ok (.aload_n 0, 1) := by decide +kernel
theorem xd_MO_signs_10 : decode xc_MO_signs 10 = .ok (.invokevirtual 81, 3) := by decide +kernel
theorem xd_MO_signs_13 : decode xc_MO_signs 13 = .ok (.ifCond .eq 122, 3) := by decide +kernel
theorem xd_MO_signs_16 : decode xc_MO_signs 16 = .ok (.aload_n 0, 1) := by decide +kernel
theorem xd_MO_signs_17 : decode xc_MO_signs 17 = .ok (.invokevirtual 85, 3) := by decide +kernel
theorem xd_MO_signs_20 : decode xc_MO_signs 20 = .ok (.bipush 42, 2) := by decide +kernel
theorem xd_MO_signs_22 : decode xc_MO_signs 22 = .ok (.if_icmp .eq 30, 3) := by decide +kernel
theorem xd_MO_signs_25 : decode xc_MO_signs 25 = .ok (.aload_n 0, 1) := by decide +kernel
theorem xd_MO_signs_26 : decode xc_MO_signs 26 = .ok (.invokevirtual 85, 3) := by decide +kernel
theorem xd_MO_signs_29 : decode xc_MO_signs 29 = .ok (.bipush 43, 2) := by decide +kernel
theorem xd_MO_signs_31 : decode xc_MO_signs 31 = .ok (.if_icmp .eq 21, 3) := by decide +kernel
theorem xd_MO_signs_34 : decode xc_MO_signs 34 = .ok (.aload_n 0, 1) := by decide +kernel
theorem xd_MO_signs_35 : decode xc_MO_signs 35 = .ok (.invokevirtual 85, 3) := by decide +kernel
theorem xd_MO_signs_38 : decode xc_MO_signs 38 = .ok (.bipush 63, 2) := by decide +kernel
theorem xd_MO_signs_40 : decode xc_MO_signs 40 = .ok (.if_icmp .eq 12, 3) := by decide +kernel
theorem xd_MO_signs_43 : decode xc_MO_signs 43 = .ok (.aload_n 0, 1) := by decide +kernel
theorem xd_MO_signs_44 : decode xc_MO_signs 44 = .ok (.invokevirtual 85, 3) := by decide +kernel
theorem xd_MO_signs_47 : decode xc_MO_signs 47 = .ok (.bipush 123, 2) := by decide +kernel
theorem xd_MO_signs_49 : decode xc_MO_signs 49 = .ok (.if_icmp .ne 86, 3) := by decide +kernel
theorem xd_MO_signs_52 : decode xc_MO_signs 52 = .ok (.aload_n 0, 1) := by decide +kernel
theorem xd_MO_signs_53 : decode xc_MO_signs 53 = .ok (.invokevirtual 85, 3) := by decide +kernel
theorem xd_MO_signs_56 : decode xc_MO_signs 56 = .ok (.istore_n 2, 1) := by decide +kernel
theorem xd_MO_signs_57 : decode xc_MO_signs 57 = .ok (.aload_n 0, 1) := by decide +kernel
theorem xd_MO_signs_58 : decode xc_MO_signs 58 = .ok (.dup, 1) := by decide +kernel
theorem xd_MO_signs_59 : decode xc_MO_signs 59 = .ok (.getfield 72, 3) := by decide +kernel
theorem xd_MO_signs_62 : decode xc_MO_signs 62 = .ok (.iconst 1, 1) := by decide +kernel
theorem xd_MO_signs_63 : decode xc_MO_signs 63 = .ok (.iadd, 1) := by decide +kernel
theorem xd_MO_signs_64 : decode xc_MO_signs 64 = .ok (.putfield 72, 3) := by decide +kernel
theorem xd_MO_signs_67 : decode xc_MO_signs 67 = .ok (.iload_n 2, 1) := by decide +kernel
theorem xd_MO_signs_68 : decode xc_MO_signs 68 = .ok (.bipush 123, 2) := by decide +kernel
theorem xd_MO_signs_70 : decode xc_MO_signs 70 = .ok (.if_icmp .ne 11, 3) := by decide +kernel
theorem xd_MO_signs_73 : decode xc_MO_signs 73 = .ok (.aload_n 0, 1) := by decide +kernel
theorem xd_MO_signs_74 : decode xc_MO_signs 74 = .ok (.iload_n 1, 1) := by decide +kernel
theorem xd_MO_signs_75 : decode xc_MO_signs 75 = .ok (.invokevirtual 146, 3) := by decide +kernel
theorem xd_MO_signs_78 : decode xc_MO_signs 78 = .ok (.goto 54, 3) := by decide +kernel
theorem xd_MO_signs_81 : decode xc_MO_signs 81 = .ok (.iload_n 2, 1) := by decide +kernel
theorem xd_MO_signs_82 : decode xc_MO_signs 82 = .ok (.bipush 63, 2) := by decide +kernel
theorem xd_MO_signs_84 : decode xc_MO_signs 84 = .ok (.if_icmp .ne 20, 3) := by decide +kernel
theorem xd_MO_signs_87 : decode xc_MO_signs 87 = .ok (.aload_n 0, 1) := by decide +kernel
theorem xd_MO_signs_88 : decode xc_MO_signs 88 = .ok (.bipush 36, 2) := by decide +kernel
theorem xd_MO_signs_90 : decode xc_MO_signs 90 = .ok (.iconst 1, 1) := by decide +kernel
theorem xd_MO_signs_91 : decode xc_MO_signs 91 = .ok (.invokevirtual 97, 3) := by decide +kernel
theorem xd_MO_signs_94 : decode xc_MO_signs 94 = .ok (.aload_n 0, 1) := by decide +kernel
theorem xd_MO_signs_95 : decode xc_MO_signs 95 = .ok (.iload_n 1, 1) := by decide +kernel
theorem xd_MO_signs_96 : decode xc_MO_signs 96 = .ok (.bipush 36, 2) := by decide +kernel
theorem xd_MO_signs_98 : decode xc_MO_signs 98 = .ok (.invokevirtual 110, 3) := by decide +kernel
theorem xd_MO_signs_101 : decode xc_MO_signs 101 = .ok (.goto 31, 3) := by decide +kernel
theorem xd_MO_signs_104 : decode xc_MO_signs 104 = .ok (.aload_n 0, 1) := by decide +kernel
theorem xd_MO_signs_105 : decode xc_MO_signs 105 = .ok (.iload_n 1, 1) := by decide +kernel
theorem xd_MO_signs_106 : decode xc_MO_signs 106 = .ok (.invokevirtual 149, 3) := by decide +kernel
theorem xd_MO_signs_109 : decode xc_MO_signs 109 = .ok (.iload_n 2, 1) := by decide +kernel
theorem xd_MO_signs_110 : decode xc_MO_signs 110 = .ok (.bipush 43, 2) := by decide +kernel
theorem xd_MO_signs_112 : decode xc_MO_signs 112 = .ok (.if_icmp .ne 13, 3) := by decide +kernel
theorem xd_MO_signs_115 : decode xc_MO_signs 115 = .ok (.aload_n 0, 1) := by decide +kernel
theorem xd_MO_signs_116 : decode xc_MO_signs 116 = .ok (.iload_n 1, 1) := by decide +kernel
theorem xd_MO_signs_117 : decode xc_MO_signs 117 = .ok (.bipush 36, 2) := by decide +kernel
theorem xd_MO_signs_119 : decode xc_MO_signs 119 = .ok (.invokevirtual 152, 3) := by decide +kernel
theorem xd_MO_signs_122 : decode xc_MO_signs 122 = .ok (.goto 10, 3) := by decide +kernel
theorem xd_MO_signs_125 : decode xc_MO_signs 125 = .ok (.aload_n 0, 1) := by decide +kernel
theorem xd_MO_signs_126 : decode xc_MO_signs 126 = .ok (.bipush 36, 2) := by decide +kernel
theorem xd_MO_signs_128 : decode xc_MO_signs 128 = .ok (.iload_n 1, 1) := by decide +kernel
theorem xd_MO_signs_129 : decode xc_MO_signs 129 = .ok (.invokevirtual 105, 3) := by decide +kernel
theorem xd_MO_signs_132 : decode xc_MO_signs 132 = .ok (.goto (-123), 3) := by decide +kernel
theorem xd_MO_signs_135 : decode xc_MO_signs 135 = .ok (.aload_n 0, 1) := by decide +kernel
theorem xd_MO_signs_136 : decode xc_MO_signs 136 = .ok (.iload_n 1, 1) := by decide +kernel
theorem xd_MO_signs_137 : decode xc_MO_signs 137 = .ok (.iconst 1, 1) := by decide +kernel
theorem xd_MO_signs_138 : decode xc_MO_signs 138 = .ok (.isub, 1) := by decide +kernel
theorem xd_MO_signs_139 : decode xc_MO_signs 139 = .ok (.iload_n 1, 1) := by decide +kernel
theorem xd_MO_signs_140 : decode xc_MO_signs 140 = .ok (.invokevirtual 152, 3) := by decide +kernel
theorem xd_MO_signs_143 : decode xc_MO_signs 143 = .ok (.aload_n 0, 1) := by decide +kernel
theorem xd_MO_signs_144 : decode xc_MO_signs 144 = .ok (.getfield 36, 3) := by decide +kernel
theorem xd_MO_signs_147 : decode xc_MO_signs 147 = .ok (.iload_n 1, 1) := by decide +kernel
theorem xd_MO_signs_148 : decode xc_MO_signs 148 = .ok (.iconst 1, 1) := by decide +kernel
theorem xd_MO_signs_149 : decode xc_MO_signs 149 = .ok (.isub, 1) := by decide +kernel
theorem xd_MO_signs_150 : decode xc_MO_signs 150 = .ok (.dup2, 1) := by decide +kernel
theorem xd_MO_signs_151 : decode xc_MO_signs 151 = .ok (.iaload, 1) := by decide +kernel
theorem xd_MO_signs_152 : decode xc_MO_signs 152 = .ok (.aload_n 0, 1) := by decide +kernel
theorem xd_MO_signs_153 : decode xc_MO_signs 153 = .ok (.getfield 36, 3) := by decide +kernel
theorem xd_MO_signs_156 : decode xc_MO_signs 156 = .ok (.iload_n 1, 1) := by decide +kernel
theorem xd_MO_signs_157 : decode xc_MO_signs 157 = .ok (.iaload, 1) := by decide +kernel
theorem xd_MO_signs_158 : decode xc_MO_signs 158 = .ok (.iadd, 1) := by decide +kernel
theorem xd_MO_signs_159 : decode xc_MO_signs 159 = .ok (.iastore, 1) := by decide +kernel
theorem xd_MO_signs_160 : decode xc_MO_signs 160 = .ok (.return_, 1) := by decide +kernel
theorem xd_MO_counted_0 : decode xc_MO_counted 0 = .ok (.aload_n 0, 1) := by decide +kernel
theorem xd_MO_counted_1 : decode xc_MO_counted 1 = .ok (.iconst 0, 1) := by decide +kernel
theorem xd_MO_counted_2 : decode xc_MO_counted 2 = .ok (.invokevirtual 155, 3) := by decide +kernel
theorem xd_MO_counted_5 : decode xc_MO_counted 5 = .ok (.istore_n 2, 1) := by decide +kernel
theorem xd_MO_counted_6 : decode xc_MO_counted 6 = .ok (.iload_n 2, 1) := by decide +kernel
theorem xd_MO_counted_7 : decode xc_MO_counted 7 = .ok (.istore_n 3, 1) := by decide +kernel
theorem xd_MO_counted_8 : decode xc_MO_counted 8 = .ok (.aload_n 0, 1) := by decide +kernel
theorem xd_MO_counted_9 : decode xc_MO_counted 9 = .ok (.invokevirtual 81, 3) := by decide +kernel
theorem xd_MO_counted_12 : decode xc_MO_counted 12 = .ok (.ifCond .eq 36, 3) := by decide +kernel
theorem xd_MO_counted_15 : decode xc_MO_counted 15 = .ok (.aload_n 0, 1) := by decide +kernel
theorem xd_MO_counted_16 : decode xc_MO_counted 16 = .ok (.invokevirtual 85, 3) := by decide +kernel
theorem xd_MO_counted_19 : decode xc_MO_counted 19 = .ok (.bipush 44, 2) := by decide +kernel
theorem xd_MO_counted_21 : decode xc_MO_counted 21 = .ok (.if_icmp .ne 27, 3) := by decide +kernel
theorem xd_MO_counted_24 : decode xc_MO_counted 24 = .ok (.aload_n 0, 1) := by decide +kernel
theorem xd_MO_counted_25 : decode xc_MO_counted 25 = .ok (.dup, 1) := by decide +kernel
theorem xd_MO_counted_26 : decode xc_MO_counted 26 = .ok (.getfield 72, 3) := by decide +kernel
theorem xd_MO_counted_29 : decode xc_MO_counted 29 = .ok (.iconst 1, 1) := by decide +kernel
theorem xd_MO_counted_30 : decode xc_MO_counted 30 = .ok (.iadd, 1) := by decide +kernel
theorem xd_MO_counted_31 : decode xc_MO_counted 31 = .ok (.putfield 72, 3) := by decide +kernel
theorem xd_MO_counted_34 : decode xc_MO_counted 34 = .ok (.aload_n 0, 1) := by decide +kernel
theorem xd_MO_counted_35 : decode xc_MO_counted 35 = .ok (.iload_n 2, 1) := by decide +kernel
theorem xd_MO_counted_36 : decode xc_MO_counted 36 = .ok (.ifCond .le 7, 3) := by decide +kernel
theorem xd_MO_counted_39 : decode xc_MO_counted 39 = .ok (.iload_n 2, 1) := by decide +kernel
theorem xd_MO_counted_40 : decode xc_MO_counted 40 = .ok (.goto 4, 3) := by decide +kernel
theorem xd_MO_counted_43 : decode xc_MO_counted 43 = .ok (.iconst 1, 1) := by decide +kernel
theorem xd_MO_counted_44 : decode xc_MO_counted 44 = .ok (.invokevirtual 155, 3) := by decide +kernel
theorem xd_MO_counted_47 : decode xc_MO_counted 47 = .ok (.istore_n 3, 1) := by decide +kernel
theorem xd_MO_counted_48 : decode xc_MO_counted 48 = .ok (.aload_n 0, 1) := by decide +kernel
theorem xd_MO_counted_49 : decode xc_MO_counted 49 = .ok (.invokevirtual 81, 3) := by decide +kernel
theorem xd_MO_counted_52 : decode xc_MO_counted 52 = .ok (.ifCond .eq 11, 3) := by decide +kernel
theorem xd_MO_counted_55 : decode xc_MO_counted 55 = .ok (.iload_n 3, 1) := by decide +kernel
theorem xd_MO_counted_56 : decode xc_MO_counted 56 = .ok (.ifCond .ne 7, 3) := by decide +kernel
theorem xd_MO_counted_59 : decode xc_MO_counted 59 = .ok (.aload_n 0, 1) := by decide +kernel
theorem xd_MO_counted_60 : decode xc_MO_counted 60 = .ok (.invokevirtual 89, 3) := by decide +kernel
theorem xd_MO_counted_63 : decode xc_MO_counted 63 = .ok (.aload_n 0, 1) := by decide +kernel
theorem xd_MO_counted_64 : decode xc_MO_counted 64 = .ok (.bipush 125, 2) := by decide +kernel
theorem xd_MO_counted_66 : decode xc_MO_counted 66 = .ok (.invokevirtual 143, 3) := by decide +kernel
theorem xd_MO_counted_69 : decode xc_MO_counted 69 = .ok (.aload_n 0, 1) := by decide +kernel
theorem xd_MO_counted_70 : decode xc_MO_counted 70 = .ok (.getfield 36, 3) := by decide +kernel
theorem xd_MO_counted_73 : decode xc_MO_counted 73 = .ok (.iload_n 1, 1) := by decide +kernel
theorem xd_MO_counted_74 : decode xc_MO_counted 74 = .ok (.aload_n 0, 1) := by decide +kernel
theorem xd_MO_counted_75 : decode xc_MO_counted 75 = .ok (.getfield 36, 3) := by decide +kernel
theorem xd_MO_counted_78 : decode xc_MO_counted 78 = .ok (.iload_n 1, 1) := by decide +kernel
theorem xd_MO_counted_79 : decode xc_MO_counted 79 = .ok (.iaload, 1) := by decide +kernel
theorem xd_MO_counted_80 : decode xc_MO_counted 80 = .ok (.iload_n 3, 1) := by decide +kernel
theorem xd_MO_counted_81 : decode xc_MO_counted 81 = .ok (.imul, 1) := by decide +kernel
theorem xd_MO_counted_82 : decode xc_MO_counted 82 = .ok (.sipush 1000, 3) := by decide +kernel
theorem xd_MO_counted_85 : decode xc_MO_counted 85 = .ok (.if_icmp .le 9, 3) := by decide +kernel
theorem xd_MO_counted_88 : decode xc_MO_counted 88 = .ok (.sipush 1000, 3) := by decide +kernel
theorem xd_MO_counted_91 : decode xc_MO_counted 91 = .ok (.goto 11, 3) := by decide +kernel
theorem xd_MO_counted_94 : decode xc_MO_counted 94 = .ok (.aload_n 0, 1) := by decide +kernel
theorem xd_MO_counted_95 : decode xc_MO_counted 95 = .ok (.getfield 36, 3) := by decide +kernel
theorem xd_MO_counted_98 : decode xc_MO_counted 98 = .ok (.iload_n 1, 1) := by decide +kernel
theorem xd_MO_counted_99 : decode xc_MO_counted 99 = .ok (.iaload, 1) := by decide +kernel
theorem xd_MO_counted_100 : decode xc_MO_counted 100 = .ok (.iload_n 3, 1) := by decide +kernel
theorem xd_MO_counted_101 : decode xc_MO_counted 101 = .ok (.imul, 1) := by decide +kernel
theorem xd_MO_counted_102 : decode xc_MO_counted 102 = .ok (.iastore, 1) := by decide +kernel
theorem xd_MO_counted_103 : decode xc_MO_counted 103 = .ok (.aload_n 0, 1) := by decide +kernel
theorem xd_MO_counted_104 : decode xc_MO_counted 104 = .ok (.iload_n 1, 1) := by decide +kernel
theorem xd_MO_counted_105 : decode xc_MO_counted 105 = .ok (.bipush 38, 2) := by decide +kernel
theorem xd_MO_counted_107 : decode xc_MO_counted 107 = .ok (.invokevirtual 105, 3) := by decide +kernel
theorem xd_MO_counted_110 : decode xc_MO_counted 110 = .ok (.aload_n 0, 1) := by decide +kernel
theorem xd_MO_counted_111 : decode xc_MO_counted 111 = .ok (.bipush 36, 2) := by decide +kernel
theorem xd_MO_counted_113 : decode xc_MO_counted 113 = .ok (.iconst 1, 1) := by decide +kernel
theorem xd_MO_counted_114 : decode xc_MO_counted 114 = .ok (.invokevirtual 97, 3) := by decide +kernel
theorem xd_MO_counted_117 : decode xc_MO_counted 117 = .ok (.aload_n 0, 1) := by decide +kernel
theorem xd_MO_counted_118 : decode xc_MO_counted 118 = .ok (.bipush 38, 2) := by decide +kernel
theorem xd_MO_counted_120 : decode xc_MO_counted 120 = .ok (.bipush 36, 2) := by decide +kernel
theorem xd_MO_counted_122 : decode xc_MO_counted 122 = .ok (.invokevirtual 110, 3) := by decide +kernel
theorem xd_MO_counted_125 : decode xc_MO_counted 125 = .ok (.aload_n 0, 1) := by decide +kernel
theorem xd_MO_counted_126 : decode xc_MO_counted 126 = .ok (.bipush 37, 2) := by decide +kernel
theorem xd_MO_counted_128 : decode xc_MO_counted 128 = .ok (.iconst 1, 1) := by decide +kernel
theorem xd_MO_counted_129 : decode xc_MO_counted 129 = .ok (.invokevirtual 97, 3) := by decide +kernel
theorem xd_MO_counted_132 : decode xc_MO_counted 132 = .ok (.iconst 0, 1) := by decide +kernel
theorem xd_MO_counted_133 : decode xc_MO_counted 133 = .ok (.istore 4, 2) := by decide +kernel
theorem xd_MO_counted_135 : decode xc_MO_counted 135 = .ok (.iload 4, 2) := by decide +kernel
theorem xd_MO_counted_137 : decode xc_MO_counted 137 = .ok (.iload_n 3, 1) := by decide +kernel
theorem xd_MO_counted_138 : decode xc_MO_counted 138 = .ok (.if_icmp .ge 34, 3) := by decide +kernel
theorem xd_MO_counted_141 : decode xc_MO_counted 141 = .ok (.aload_n 0, 1) := by decide +kernel
theorem xd_MO_counted_142 : decode xc_MO_counted 142 = .ok (.getfield 92, 3) := by decide +kernel
theorem xd_MO_counted_145 : decode xc_MO_counted 145 = .ok (.ifCond .eq 27, 3) := by decide +kernel
theorem xd_MO_counted_148 : decode xc_MO_counted 148 = .ok (.aload_n 0, 1) := by decide +kernel
theorem xd_MO_counted_149 : decode xc_MO_counted 149 = .ok (.bipush 37, 2) := by decide +kernel
theorem xd_MO_counted_151 : decode xc_MO_counted 151 = .ok (.iload 4, 2) := by decide +kernel
theorem xd_MO_counted_153 : decode xc_MO_counted 153 = .ok (.iload_n 2, 1) := by decide +kernel
theorem xd_MO_counted_154 : decode xc_MO_counted 154 = .ok (.if_icmp .ge 7, 3) := by decide +kernel
theorem xd_MO_counted_157 : decode xc_MO_counted 157 = .ok (.iload_n 1, 1) := by decide +kernel
theorem xd_MO_counted_158 : decode xc_MO_counted 158 = .ok (.goto 5, 3) := by decide +kernel
theorem xd_MO_counted_161 : decode xc_MO_counted 161 = .ok (.bipush 38, 2) := by decide +kernel
theorem xd_MO_counted_163 : decode xc_MO_counted 163 = .ok (.invokevirtual 152, 3) := by decide +kernel
theorem xd_MO_counted_166 : decode xc_MO_counted 166 = .ok (.iinc 4 1, 3) := by decide +kernel
theorem xd_MO_counted_169 : decode xc_MO_counted 169 = .ok (.goto (-34), 3) := by decide +kernel
theorem xd_MO_counted_172 : decode xc_MO_counted 172 = .ok (.aload_n 0, 1) := by decide +kernel
theorem xd_MO_counted_173 : decode xc_MO_counted 173 = .ok (.bipush 37, 2) := by decide +kernel
theorem xd_MO_counted_175 : decode xc_MO_counted 175 = .ok (.iload_n 1, 1) := by decide +kernel
theorem xd_MO_counted_176 : decode xc_MO_counted 176 = .ok (.invokevirtual 105, 3) := by decide +kernel
theorem xd_MO_counted_179 : decode xc_MO_counted 179 = .ok (.return_, 1) := by decide +kernel
theorem xd_MO_digit_0 : decode xc_MO_digit 0 = .ok (.aload_n 0, 1) := by decide +kernel
theorem xd_MO_digit_1 : decode xc_MO_digit 1 = .ok (.invokevirtual 85, 3) := by decide +kernel
theorem xd_MO_digit_4 : decode xc_MO_digit 4 = .ok (.bipush 48, 2) := by decide +kernel
theorem xd_MO_digit_6 : decode xc_MO_digit 6 = .ok (.isub, 1) := by decide +kernel
theorem xd_MO_digit_7 : decode xc_MO_digit 7 = .ok (.istore_n 2, 1) := by decide +kernel
theorem xd_MO_digit_8 : decode xc_MO_digit 8 = .ok (.aload_n 0, 1) := by decide +kernel
theorem xd_MO_digit_9 : decode xc_MO_digit 9 = .ok (.invokevirtual 81, 3) := by decide +kernel
theorem xd_MO_digit_12 : decode xc_MO_digit 12 = .ok (.ifCond .eq 18, 3) := by decide +kernel
theorem xd_MO_digit_15 : decode xc_MO_digit 15 = .ok (.iload_n 2, 1) := by decide +kernel
theorem xd_MO_digit_16 : decode xc_MO_digit 16 = .ok (.iload_n 1, 1) := by decide +kernel
theorem xd_MO_digit_17 : decode xc_MO_digit 17 = .ok (.if_icmp .lt 9, 3) := by decide +kernel
theorem xd_MO_digit_20 : decode xc_MO_digit 20 = .ok (.iload_n 2, 1) := by decide +kernel
theorem xd_MO_digit_21 : decode xc_MO_digit 21 = .ok (.bipush 9, 2) := by decide +kernel
theorem xd_MO_digit_23 : decode xc_MO_digit 23 = .ok (.if_icmp .le 7, 3) := by decide +kernel
theorem xd_MO_digit_26 : decode xc_MO_digit 26 = .ok (.aload_n 0, 1) := by decide +kernel
theorem xd_MO_digit_27 : decode xc_MO_digit 27 = .ok (.invokevirtual 89, 3) := by decide +kernel
theorem xd_MO_digit_30 : decode xc_MO_digit 30 = .ok (.aload_n 0, 1) := by decide +kernel
theorem xd_MO_digit_31 : decode xc_MO_digit 31 = .ok (.invokevirtual 81, 3) := by decide +kernel
theorem xd_MO_digit_34 : decode xc_MO_digit 34 = .ok (.ifCond .eq 13, 3) := by decide +kernel
theorem xd_MO_digit_37 : decode xc_MO_digit 37 = .ok (.aload_n 0, 1) := by decide +kernel
theorem xd_MO_digit_38 : decode xc_MO_digit 38 = .ok (.dup, 1) := by decide +kernel
theorem xd_MO_digit_39 : decode xc_MO_digit 39 = .ok (.getfield 72, 3) := by decide +kernel
theorem xd_MO_digit_42 : decode xc_MO_digit 42 = .ok (.iconst 1, 1) := by decide +kernel
theorem xd_MO_digit_43 : decode xc_MO_digit 43 = .ok (.iadd, 1) := by decide +kernel
theorem xd_MO_digit_44 : decode xc_MO_digit 44 = .ok (.putfield 72, 3) := by decide +kernel
theorem xd_MO_digit_47 : decode xc_MO_digit 47 = .ok (.aload_n 0, 1) := by decide +kernel
theorem xd_MO_digit_48 : decode xc_MO_digit 48 = .ok (.invokevirtual 81, 3) := by decide +kernel
theorem xd_MO_digit_51 : decode xc_MO_digit 51 = .ok (.ifCond .eq 7, 3) := by decide +kernel
theorem xd_MO_digit_54 : decode xc_MO_digit 54 = .ok (.iload_n 2, 1) := by decide +kernel
theorem xd_MO_digit_55 : decode xc_MO_digit 55 = .ok (.goto 4, 3) := by decide +kernel
theorem xd_MO_digit_58 : decode xc_MO_digit 58 = .ok (.iconst 1, 1) := by decide +kernel
theorem xd_MO_digit_59 : decode xc_MO_digit 59 = .ok (.ireturn, 1) := by decide +kernel
theorem xd_MO_must_0 : decode xc_MO_must 0 = .ok (.aload_n 0, 1) := by decide +kernel
theorem xd_MO_must_1 : decode xc_MO_must 1 = .ok (.invokevirtual 81, 3) := by decide +kernel
theorem xd_MO_must_4 : decode xc_MO_must 4 = .ok (.ifCond .eq 15, 3) := by decide +kernel
theorem xd_MO_must_7 : decode xc_MO_must 7 = .ok (.aload_n 0, 1) := by decide +kernel
theorem xd_MO_must_8 : decode xc_MO_must 8 = .ok (.invokevirtual 85, 3) := by decide +kernel
theorem xd_MO_must_11 : decode xc_MO_must 11 = .ok (.iload_n 1, 1) := by decide +kernel
theorem xd_MO_must_12 : decode xc_MO_must 12 = .ok (.if_icmp .eq 7, 3) := by decide +kernel
theorem xd_MO_must_15 : decode xc_MO_must 15 = .ok (.aload_n 0, 1) := by decide +kernel
theorem xd_MO_must_16 : decode xc_MO_must 16 = .ok (.invokevirtual 89, 3) := by decide +kernel
theorem xd_MO_must_19 : decode xc_MO_must 19 = .ok (.aload_n 0, 1) := by decide +kernel
theorem xd_MO_must_20 : decode xc_MO_must 20 = .ok (.invokevirtual 81, 3) := by decide +kernel
theorem xd_MO_must_23 : decode xc_MO_must 23 = .ok (.ifCond .eq 13, 3) := by decide +kernel
theorem xd_MO_must_26 : decode xc_MO_must 26 = .ok (.aload_n 0, 1) := by decide +kernel
theorem xd_MO_must_27 : decode xc_MO_must 27 = .ok (.dup, 1) := by decide +kernel
theorem xd_MO_must_28 : decode xc_MO_must 28 = .ok (.getfield 72, 3) := by decide +kernel
theorem xd_MO_must_31 : decode xc_MO_must 31 = .ok (.iconst 1, 1) := by decide +kernel
theorem xd_MO_must_32 : decode xc_MO_must 32 = .ok (.iadd, 1) := by decide +kernel
theorem xd_MO_must_33 : decode xc_MO_must 33 = .ok (.putfield 72, 3) := by decide +kernel
theorem xd_MO_must_36 : decode xc_MO_must 36 = .ok (.return_, 1) := by decide +kernel

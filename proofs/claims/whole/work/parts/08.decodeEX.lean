theorem xd_EX_init_0 : decode xc_EX_init 0 = .ok (.aload_n 0, 1) := by decide +kernel
theorem xd_EX_init_1 : decode xc_EX_init 1 = .ok (.invokespecial 5, 3) := by decide +kernel
theorem xd_EX_init_4 : decode xc_EX_init 4 = .ok (.aload_n 0, 1) := by decide +kernel
theorem xd_EX_init_5 : decode xc_EX_init 5 = .ok (.sipush 203, 3) := by decide +kernel
theorem xd_EX_init_8 : decode xc_EX_init 8 = .ok (.newarray .int, 2) := by decide +kernel
theorem xd_EX_init_10 : decode xc_EX_init 10 = .ok (.putfield 11, 3) := by decide +kernel
theorem xd_EX_init_13 : decode xc_EX_init 13 = .ok (.aload_n 0, 1) := by decide +kernel
theorem xd_EX_init_14 : decode xc_EX_init 14 = .ok (.iconst 0, 1) := by decide +kernel
theorem xd_EX_init_15 : decode xc_EX_init 15 = .ok (.putfield 15, 3) := by decide +kernel
theorem xd_EX_init_18 : decode xc_EX_init 18 = .ok (.aload_n 0, 1) := by decide +kernel
theorem xd_EX_init_19 : decode xc_EX_init 19 = .ok (.iconst 0, 1) := by decide +kernel
theorem xd_EX_init_20 : decode xc_EX_init 20 = .ok (.putfield 19, 3) := by decide +kernel
theorem xd_EX_init_23 : decode xc_EX_init 23 = .ok (.aload_n 0, 1) := by decide +kernel
theorem xd_EX_init_24 : decode xc_EX_init 24 = .ok (.getfield 11, 3) := by decide +kernel
theorem xd_EX_init_27 : decode xc_EX_init 27 = .ok (.iconst 0, 1) := by decide +kernel
theorem xd_EX_init_28 : decode xc_EX_init 28 = .ok (.iconst 1, 1) := by decide +kernel
theorem xd_EX_init_29 : decode xc_EX_init 29 = .ok (.iastore, 1) := by decide +kernel
theorem xd_EX_init_30 : decode xc_EX_init 30 = .ok (.aload_n 0, 1) := by decide +kernel
theorem xd_EX_init_31 : decode xc_EX_init 31 = .ok (.iconst 1, 1) := by decide +kernel
theorem xd_EX_init_32 : decode xc_EX_init 32 = .ok (.putfield 15, 3) := by decide +kernel
theorem xd_EX_init_35 : decode xc_EX_init 35 = .ok (.return_, 1) := by decide +kernel
theorem xd_EX_clear_0 : decode xc_EX_clear 0 = .ok (.aload_n 0, 1) := by decide +kernel
theorem xd_EX_clear_1 : decode xc_EX_clear 1 = .ok (.iconst 0, 1) := by decide +kernel
theorem xd_EX_clear_2 : decode xc_EX_clear 2 = .ok (.putfield 15, 3) := by decide +kernel
theorem xd_EX_clear_5 : decode xc_EX_clear 5 = .ok (.aload_n 0, 1) := by decide +kernel
theorem xd_EX_clear_6 : decode xc_EX_clear 6 = .ok (.iconst 0, 1) := by decide +kernel
theorem xd_EX_clear_7 : decode xc_EX_clear 7 = .ok (.putfield 19, 3) := by decide +kernel
theorem xd_EX_clear_10 : decode xc_EX_clear 10 = .ok (.return_, 1) := by decide +kernel
theorem xd_EX_append_0 : decode xc_EX_append 0 = .ok (.aload_n 0, 1) := by decide +kernel
theorem xd_EX_append_1 : decode xc_EX_append 1 = .ok (.getfield 15, 3) := by decide +kernel
theorem xd_EX_append_4 : decode xc_EX_append 4 = .ok (.sipush 203, 3) := by decide +kernel
theorem xd_EX_append_7 : decode xc_EX_append 7 = .ok (.if_icmp .ge 27, 3) := by decide +kernel
theorem xd_EX_append_10 : decode xc_EX_append 10 = .ok (.aload_n 0, 1) := by decide +kernel
theorem xd_EX_append_11 : decode xc_EX_append 11 = .ok (.getfield 11, 3) := by decide +kernel
theorem xd_EX_append_14 : decode xc_EX_append 14 = .ok (.aload_n 0, 1) := by decide +kernel
theorem xd_EX_append_15 : decode xc_EX_append 15 = .ok (.getfield 15, 3) := by decide +kernel
theorem xd_EX_append_18 : decode xc_EX_append 18 = .ok (.iload_n 1, 1) := by decide +kernel
theorem xd_EX_append_19 : decode xc_EX_append 19 = .ok (.iload_n 2, 1) := by decide +kernel
theorem xd_EX_append_20 : decode xc_EX_append 20 = .ok (.iconst 4, 1) := by decide +kernel
theorem xd_EX_append_21 : decode xc_EX_append 21 = .ok (.ishl, 1) := by decide +kernel
theorem xd_EX_append_22 : decode xc_EX_append 22 = .ok (.ior, 1) := by decide +kernel
theorem xd_EX_append_23 : decode xc_EX_append 23 = .ok (.iastore, 1) := by decide +kernel
theorem xd_EX_append_24 : decode xc_EX_append 24 = .ok (.aload_n 0, 1) := by decide +kernel
theorem xd_EX_append_25 : decode xc_EX_append 25 = .ok (.dup, 1) := by decide +kernel
theorem xd_EX_append_26 : decode xc_EX_append 26 = .ok (.getfield 15, 3) := by decide +kernel
theorem xd_EX_append_29 : decode xc_EX_append 29 = .ok (.iconst 1, 1) := by decide +kernel
theorem xd_EX_append_30 : decode xc_EX_append 30 = .ok (.iadd, 1) := by decide +kernel
theorem xd_EX_append_31 : decode xc_EX_append 31 = .ok (.putfield 15, 3) := by decide +kernel
theorem xd_EX_append_34 : decode xc_EX_append 34 = .ok (.return_, 1) := by decide +kernel
theorem xd_EX_makeEmptyRow_0 : decode xc_EX_makeEmptyRow 0 = .ok (.aload_n 0, 1) := by decide +kernel
theorem xd_EX_makeEmptyRow_1 : decode xc_EX_makeEmptyRow 1 = .ok (.invokevirtual 22, 3) := by decide +kernel
theorem xd_EX_makeEmptyRow_4 : decode xc_EX_makeEmptyRow 4 = .ok (.aload_n 0, 1) := by decide +kernel
theorem xd_EX_makeEmptyRow_5 : decode xc_EX_makeEmptyRow 5 = .ok (.iconst 1, 1) := by decide +kernel
theorem xd_EX_makeEmptyRow_6 : decode xc_EX_makeEmptyRow 6 = .ok (.iconst 0, 1) := by decide +kernel
theorem xd_EX_makeEmptyRow_7 : decode xc_EX_makeEmptyRow 7 = .ok (.invokevirtual 25, 3) := by decide +kernel
theorem xd_EX_makeEmptyRow_10 : decode xc_EX_makeEmptyRow 10 = .ok (.return_, 1) := by decide +kernel

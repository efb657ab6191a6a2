theorem d_Search_init_0 : decode b_Search_init 0 = .ok (.aload_n 0, 1) := by decide +kernel
theorem d_Search_init_1 : decode b_Search_init 1 = .ok (.invokespecial 3, 3) := by decide +kernel
theorem d_Search_init_4 : decode b_Search_init 4 = .ok (.aload_n 0, 1) := by decide +kernel
theorem d_Search_init_5 : decode b_Search_init 5 = .ok (.bipush (64), 2) := by decide +kernel
theorem d_Search_init_7 : decode b_Search_init 7 = .ok (.newarray .int, 2) := by decide +kernel
theorem d_Search_init_9 : decode b_Search_init 9 = .ok (.putfield 9, 3) := by decide +kernel
theorem d_Search_init_12 : decode b_Search_init 12 = .ok (.aload_n 0, 1) := by decide +kernel
theorem d_Search_init_13 : decode b_Search_init 13 = .ok (.invokevirtual 15, 3) := by decide +kernel
theorem d_Search_init_16 : decode b_Search_init 16 = .ok (.return_, 1) := by decide +kernel
theorem d_Search_forget_0 : decode b_Search_forget 0 = .ok (.aload_n 0, 1) := by decide +kernel
theorem d_Search_forget_1 : decode b_Search_forget 1 = .ok (.aconst_null, 1) := by decide +kernel
theorem d_Search_forget_2 : decode b_Search_forget 2 = .ok (.putfield 18, 3) := by decide +kernel
theorem d_Search_forget_5 : decode b_Search_forget 5 = .ok (.aload_n 0, 1) := by decide +kernel
theorem d_Search_forget_6 : decode b_Search_forget 6 = .ok (.iconst 0, 1) := by decide +kernel
theorem d_Search_forget_7 : decode b_Search_forget 7 = .ok (.putfield 22, 3) := by decide +kernel
theorem d_Search_forget_10 : decode b_Search_forget 10 = .ok (.aload_n 0, 1) := by decide +kernel
theorem d_Search_forget_11 : decode b_Search_forget 11 = .ok (.iconst (-1), 1) := by decide +kernel
theorem d_Search_forget_12 : decode b_Search_forget 12 = .ok (.putfield 26, 3) := by decide +kernel
theorem d_Search_forget_15 : decode b_Search_forget 15 = .ok (.aload_n 0, 1) := by decide +kernel
theorem d_Search_forget_16 : decode b_Search_forget 16 = .ok (.iconst (-1), 1) := by decide +kernel
theorem d_Search_forget_17 : decode b_Search_forget 17 = .ok (.putfield 30, 3) := by decide +kernel
theorem d_Search_forget_20 : decode b_Search_forget 20 = .ok (.aload_n 0, 1) := by decide +kernel
theorem d_Search_forget_21 : decode b_Search_forget 21 = .ok (.ldc2_w 35, 3) := by decide +kernel
theorem d_Search_forget_24 : decode b_Search_forget 24 = .ok (.putfield 37, 3) := by decide +kernel
theorem d_Search_forget_27 : decode b_Search_forget 27 = .ok (.aload_n 0, 1) := by decide +kernel
theorem d_Search_forget_28 : decode b_Search_forget 28 = .ok (.iconst 0, 1) := by decide +kernel
theorem d_Search_forget_29 : decode b_Search_forget 29 = .ok (.putfield 41, 3) := by decide +kernel
theorem d_Search_forget_32 : decode b_Search_forget 32 = .ok (.aload_n 0, 1) := by decide +kernel
theorem d_Search_forget_33 : decode b_Search_forget 33 = .ok (.iconst 0, 1) := by decide +kernel
theorem d_Search_forget_34 : decode b_Search_forget 34 = .ok (.putfield 44, 3) := by decide +kernel
theorem d_Search_forget_37 : decode b_Search_forget 37 = .ok (.return_, 1) := by decide +kernel
theorem d_Search_begin_0 : decode b_Search_begin 0 = .ok (.aload_n 0, 1) := by decide +kernel
theorem d_Search_begin_1 : decode b_Search_begin 1 = .ok (.invokevirtual 15, 3) := by decide +kernel
theorem d_Search_begin_4 : decode b_Search_begin 4 = .ok (.aload_n 0, 1) := by decide +kernel
theorem d_Search_begin_5 : decode b_Search_begin 5 = .ok (.aload_n 1, 1) := by decide +kernel
theorem d_Search_begin_6 : decode b_Search_begin 6 = .ok (.putfield 18, 3) := by decide +kernel
theorem d_Search_begin_9 : decode b_Search_begin 9 = .ok (.aload_n 0, 1) := by decide +kernel
theorem d_Search_begin_10 : decode b_Search_begin 10 = .ok (.iconst 1, 1) := by decide +kernel
theorem d_Search_begin_11 : decode b_Search_begin 11 = .ok (.putfield 22, 3) := by decide +kernel
theorem d_Search_begin_14 : decode b_Search_begin 14 = .ok (.iconst 0, 1) := by decide +kernel
theorem d_Search_begin_15 : decode b_Search_begin 15 = .ok (.istore_n 3, 1) := by decide +kernel
theorem d_Search_begin_16 : decode b_Search_begin 16 = .ok (.iload_n 3, 1) := by decide +kernel
theorem d_Search_begin_17 : decode b_Search_begin 17 = .ok (.aload_n 2, 1) := by decide +kernel
theorem d_Search_begin_18 : decode b_Search_begin 18 = .ok (.getfield 47, 3) := by decide +kernel
theorem d_Search_begin_21 : decode b_Search_begin 21 = .ok (.if_icmp .gt (67), 3) := by decide +kernel
theorem d_Search_begin_24 : decode b_Search_begin 24 = .ok (.iconst 0, 1) := by decide +kernel
theorem d_Search_begin_25 : decode b_Search_begin 25 = .ok (.istore 4, 2) := by decide +kernel
theorem d_Search_begin_27 : decode b_Search_begin 27 = .ok (.iload 4, 2) := by decide +kernel
theorem d_Search_begin_29 : decode b_Search_begin 29 = .ok (.aload_n 2, 1) := by decide +kernel
theorem d_Search_begin_30 : decode b_Search_begin 30 = .ok (.getfield 52, 3) := by decide +kernel
theorem d_Search_begin_33 : decode b_Search_begin 33 = .ok (.if_icmp .ge (49), 3) := by decide +kernel
theorem d_Search_begin_36 : decode b_Search_begin 36 = .ok (.aload_n 0, 1) := by decide +kernel
theorem d_Search_begin_37 : decode b_Search_begin 37 = .ok (.getfield 44, 3) := by decide +kernel
theorem d_Search_begin_40 : decode b_Search_begin 40 = .ok (.bipush (64), 2) := by decide +kernel
theorem d_Search_begin_42 : decode b_Search_begin 42 = .ok (.if_icmp .ge (34), 3) := by decide +kernel
theorem d_Search_begin_45 : decode b_Search_begin 45 = .ok (.aload_n 2, 1) := by decide +kernel
theorem d_Search_begin_46 : decode b_Search_begin 46 = .ok (.iload 4, 2) := by decide +kernel
theorem d_Search_begin_48 : decode b_Search_begin 48 = .ok (.invokevirtual 55, 3) := by decide +kernel
theorem d_Search_begin_51 : decode b_Search_begin 51 = .ok (.iload_n 3, 1) := by decide +kernel
theorem d_Search_begin_52 : decode b_Search_begin 52 = .ok (.if_icmp .ne (24), 3) := by decide +kernel
theorem d_Search_begin_55 : decode b_Search_begin 55 = .ok (.aload_n 0, 1) := by decide +kernel
theorem d_Search_begin_56 : decode b_Search_begin 56 = .ok (.getfield 9, 3) := by decide +kernel
theorem d_Search_begin_59 : decode b_Search_begin 59 = .ok (.aload_n 0, 1) := by decide +kernel
theorem d_Search_begin_60 : decode b_Search_begin 60 = .ok (.getfield 44, 3) := by decide +kernel
theorem d_Search_begin_63 : decode b_Search_begin 63 = .ok (.iload 4, 2) := by decide +kernel
theorem d_Search_begin_65 : decode b_Search_begin 65 = .ok (.iastore, 1) := by decide +kernel
theorem d_Search_begin_66 : decode b_Search_begin 66 = .ok (.aload_n 0, 1) := by decide +kernel
theorem d_Search_begin_67 : decode b_Search_begin 67 = .ok (.dup, 1) := by decide +kernel
theorem d_Search_begin_68 : decode b_Search_begin 68 = .ok (.getfield 44, 3) := by decide +kernel
theorem d_Search_begin_71 : decode b_Search_begin 71 = .ok (.iconst 1, 1) := by decide +kernel
theorem d_Search_begin_72 : decode b_Search_begin 72 = .ok (.iadd, 1) := by decide +kernel
theorem d_Search_begin_73 : decode b_Search_begin 73 = .ok (.putfield 44, 3) := by decide +kernel
theorem d_Search_begin_76 : decode b_Search_begin 76 = .ok (.iinc 4 (1), 3) := by decide +kernel
theorem d_Search_begin_79 : decode b_Search_begin 79 = .ok (.goto (-52), 3) := by decide +kernel
theorem d_Search_begin_82 : decode b_Search_begin 82 = .ok (.iinc 3 (1), 3) := by decide +kernel
theorem d_Search_begin_85 : decode b_Search_begin 85 = .ok (.goto (-69), 3) := by decide +kernel
theorem d_Search_begin_88 : decode b_Search_begin 88 = .ok (.return_, 1) := by decide +kernel

theorem d_Feeds_init_0 : decode b_Feeds_init 0 = .ok (.aload_n 0, 1) := by decide +kernel
theorem d_Feeds_init_1 : decode b_Feeds_init 1 = .ok (.invokespecial 3, 3) := by decide +kernel
theorem d_Feeds_init_4 : decode b_Feeds_init 4 = .ok (.aload_n 0, 1) := by decide +kernel
theorem d_Feeds_init_5 : decode b_Feeds_init 5 = .ok (.iconst 4, 1) := by decide +kernel
theorem d_Feeds_init_6 : decode b_Feeds_init 6 = .ok (.anewarray 9, 3) := by decide +kernel
theorem d_Feeds_init_9 : decode b_Feeds_init 9 = .ok (.putfield 11, 3) := by decide +kernel
theorem d_Feeds_init_12 : decode b_Feeds_init 12 = .ok (.iconst 0, 1) := by decide +kernel
theorem d_Feeds_init_13 : decode b_Feeds_init 13 = .ok (.istore_n 1, 1) := by decide +kernel
theorem d_Feeds_init_14 : decode b_Feeds_init 14 = .ok (.iload_n 1, 1) := by decide +kernel
theorem d_Feeds_init_15 : decode b_Feeds_init 15 = .ok (.iconst 4, 1) := by decide +kernel
theorem d_Feeds_init_16 : decode b_Feeds_init 16 = .ok (.if_icmp .ge (22), 3) := by decide +kernel
theorem d_Feeds_init_19 : decode b_Feeds_init 19 = .ok (.aload_n 0, 1) := by decide +kernel
theorem d_Feeds_init_20 : decode b_Feeds_init 20 = .ok (.getfield 11, 3) := by decide +kernel
theorem d_Feeds_init_23 : decode b_Feeds_init 23 = .ok (.iload_n 1, 1) := by decide +kernel
theorem d_Feeds_init_24 : decode b_Feeds_init 24 = .ok (.new 9, 3) := by decide +kernel
theorem d_Feeds_init_27 : decode b_Feeds_init 27 = .ok (.dup, 1) := by decide +kernel
theorem d_Feeds_init_28 : decode b_Feeds_init 28 = .ok (.invokespecial 17, 3) := by decide +kernel
theorem d_Feeds_init_31 : decode b_Feeds_init 31 = .ok (.aastore, 1) := by decide +kernel
theorem d_Feeds_init_32 : decode b_Feeds_init 32 = .ok (.iinc 1 (1), 3) := by decide +kernel
theorem d_Feeds_init_35 : decode b_Feeds_init 35 = .ok (.goto (-21), 3) := by decide +kernel
theorem d_Feeds_init_38 : decode b_Feeds_init 38 = .ok (.return_, 1) := by decide +kernel
theorem d_Feeds_forget_0 : decode b_Feeds_forget 0 = .ok (.aload_n 0, 1) := by decide +kernel
theorem d_Feeds_forget_1 : decode b_Feeds_forget 1 = .ok (.iconst 0, 1) := by decide +kernel
theorem d_Feeds_forget_2 : decode b_Feeds_forget 2 = .ok (.putfield 18, 3) := by decide +kernel
theorem d_Feeds_forget_5 : decode b_Feeds_forget 5 = .ok (.return_, 1) := by decide +kernel
theorem d_Feeds_find_0 : decode b_Feeds_find 0 = .ok (.iconst 0, 1) := by decide +kernel
theorem d_Feeds_find_1 : decode b_Feeds_find 1 = .ok (.istore_n 3, 1) := by decide +kernel
theorem d_Feeds_find_2 : decode b_Feeds_find 2 = .ok (.iload_n 3, 1) := by decide +kernel
theorem d_Feeds_find_3 : decode b_Feeds_find 3 = .ok (.aload_n 0, 1) := by decide +kernel
theorem d_Feeds_find_4 : decode b_Feeds_find 4 = .ok (.getfield 18, 3) := by decide +kernel
theorem d_Feeds_find_7 : decode b_Feeds_find 7 = .ok (.if_icmp .ge (30), 3) := by decide +kernel
theorem d_Feeds_find_10 : decode b_Feeds_find 10 = .ok (.aload_n 0, 1) := by decide +kernel
theorem d_Feeds_find_11 : decode b_Feeds_find 11 = .ok (.getfield 11, 3) := by decide +kernel
theorem d_Feeds_find_14 : decode b_Feeds_find 14 = .ok (.iload_n 3, 1) := by decide +kernel
theorem d_Feeds_find_15 : decode b_Feeds_find 15 = .ok (.aaload, 1) := by decide +kernel
theorem d_Feeds_find_16 : decode b_Feeds_find 16 = .ok (.getfield 22, 3) := by decide +kernel
theorem d_Feeds_find_19 : decode b_Feeds_find 19 = .ok (.lload_n 1, 1) := by decide +kernel
theorem d_Feeds_find_20 : decode b_Feeds_find 20 = .ok (.lcmp, 1) := by decide +kernel
theorem d_Feeds_find_21 : decode b_Feeds_find 21 = .ok (.ifCond .ne (10), 3) := by decide +kernel
theorem d_Feeds_find_24 : decode b_Feeds_find 24 = .ok (.aload_n 0, 1) := by decide +kernel
theorem d_Feeds_find_25 : decode b_Feeds_find 25 = .ok (.getfield 11, 3) := by decide +kernel
theorem d_Feeds_find_28 : decode b_Feeds_find 28 = .ok (.iload_n 3, 1) := by decide +kernel
theorem d_Feeds_find_29 : decode b_Feeds_find 29 = .ok (.aaload, 1) := by decide +kernel
theorem d_Feeds_find_30 : decode b_Feeds_find 30 = .ok (.areturn, 1) := by decide +kernel
theorem d_Feeds_find_31 : decode b_Feeds_find 31 = .ok (.iinc 3 (1), 3) := by decide +kernel
theorem d_Feeds_find_34 : decode b_Feeds_find 34 = .ok (.goto (-32), 3) := by decide +kernel
theorem d_Feeds_find_37 : decode b_Feeds_find 37 = .ok (.aconst_null, 1) := by decide +kernel
theorem d_Feeds_find_38 : decode b_Feeds_find 38 = .ok (.areturn, 1) := by decide +kernel
theorem d_Feeds_findOrOpen_0 : decode b_Feeds_findOrOpen 0 = .ok (.aload_n 0, 1) := by decide +kernel
theorem d_Feeds_findOrOpen_1 : decode b_Feeds_findOrOpen 1 = .ok (.lload_n 1, 1) := by decide +kernel
theorem d_Feeds_findOrOpen_2 : decode b_Feeds_findOrOpen 2 = .ok (.invokevirtual 26, 3) := by decide +kernel
theorem d_Feeds_findOrOpen_5 : decode b_Feeds_findOrOpen 5 = .ok (.astore_n 3, 1) := by decide +kernel
theorem d_Feeds_findOrOpen_6 : decode b_Feeds_findOrOpen 6 = .ok (.aload_n 3, 1) := by decide +kernel
theorem d_Feeds_findOrOpen_7 : decode b_Feeds_findOrOpen 7 = .ok (.ifnonnull (11), 3) := by decide +kernel
theorem d_Feeds_findOrOpen_10 : decode b_Feeds_findOrOpen 10 = .ok (.aload_n 0, 1) := by decide +kernel
theorem d_Feeds_findOrOpen_11 : decode b_Feeds_findOrOpen 11 = .ok (.getfield 18, 3) := by decide +kernel
theorem d_Feeds_findOrOpen_14 : decode b_Feeds_findOrOpen 14 = .ok (.iconst 4, 1) := by decide +kernel
theorem d_Feeds_findOrOpen_15 : decode b_Feeds_findOrOpen 15 = .ok (.if_icmp .lt (5), 3) := by decide +kernel
theorem d_Feeds_findOrOpen_18 : decode b_Feeds_findOrOpen 18 = .ok (.aload_n 3, 1) := by decide +kernel
theorem d_Feeds_findOrOpen_19 : decode b_Feeds_findOrOpen 19 = .ok (.areturn, 1) := by decide +kernel
theorem d_Feeds_findOrOpen_20 : decode b_Feeds_findOrOpen 20 = .ok (.aload_n 0, 1) := by decide +kernel
theorem d_Feeds_findOrOpen_21 : decode b_Feeds_findOrOpen 21 = .ok (.getfield 11, 3) := by decide +kernel
theorem d_Feeds_findOrOpen_24 : decode b_Feeds_findOrOpen 24 = .ok (.aload_n 0, 1) := by decide +kernel
theorem d_Feeds_findOrOpen_25 : decode b_Feeds_findOrOpen 25 = .ok (.getfield 18, 3) := by decide +kernel
theorem d_Feeds_findOrOpen_28 : decode b_Feeds_findOrOpen 28 = .ok (.aaload, 1) := by decide +kernel
theorem d_Feeds_findOrOpen_29 : decode b_Feeds_findOrOpen 29 = .ok (.astore_n 3, 1) := by decide +kernel
theorem d_Feeds_findOrOpen_30 : decode b_Feeds_findOrOpen 30 = .ok (.aload_n 0, 1) := by decide +kernel
theorem d_Feeds_findOrOpen_31 : decode b_Feeds_findOrOpen 31 = .ok (.dup, 1) := by decide +kernel
theorem d_Feeds_findOrOpen_32 : decode b_Feeds_findOrOpen 32 = .ok (.getfield 18, 3) := by decide +kernel
theorem d_Feeds_findOrOpen_35 : decode b_Feeds_findOrOpen 35 = .ok (.iconst 1, 1) := by decide +kernel
theorem d_Feeds_findOrOpen_36 : decode b_Feeds_findOrOpen 36 = .ok (.iadd, 1) := by decide +kernel
theorem d_Feeds_findOrOpen_37 : decode b_Feeds_findOrOpen 37 = .ok (.putfield 18, 3) := by decide +kernel
theorem d_Feeds_findOrOpen_40 : decode b_Feeds_findOrOpen 40 = .ok (.aload_n 3, 1) := by decide +kernel
theorem d_Feeds_findOrOpen_41 : decode b_Feeds_findOrOpen 41 = .ok (.lload_n 1, 1) := by decide +kernel
theorem d_Feeds_findOrOpen_42 : decode b_Feeds_findOrOpen 42 = .ok (.invokevirtual 30, 3) := by decide +kernel
theorem d_Feeds_findOrOpen_45 : decode b_Feeds_findOrOpen 45 = .ok (.aload_n 3, 1) := by decide +kernel
theorem d_Feeds_findOrOpen_46 : decode b_Feeds_findOrOpen 46 = .ok (.areturn, 1) := by decide +kernel

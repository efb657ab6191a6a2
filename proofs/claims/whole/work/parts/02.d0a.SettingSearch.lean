theorem d_SettingSearch_init_0 : decode b_SettingSearch_init 0 = .ok (.aload_n 0, 1) := by decide +kernel
theorem d_SettingSearch_init_1 : decode b_SettingSearch_init 1 = .ok (.invokespecial 3, 3) := by decide +kernel
theorem d_SettingSearch_init_4 : decode b_SettingSearch_init 4 = .ok (.aload_n 0, 1) := by decide +kernel
theorem d_SettingSearch_init_5 : decode b_SettingSearch_init 5 = .ok (.new 9, 3) := by decide +kernel
theorem d_SettingSearch_init_8 : decode b_SettingSearch_init 8 = .ok (.dup, 1) := by decide +kernel
theorem d_SettingSearch_init_9 : decode b_SettingSearch_init 9 = .ok (.invokespecial 11, 3) := by decide +kernel
theorem d_SettingSearch_init_12 : decode b_SettingSearch_init 12 = .ok (.putfield 12, 3) := by decide +kernel
theorem d_SettingSearch_init_15 : decode b_SettingSearch_init 15 = .ok (.aload_n 0, 1) := by decide +kernel
theorem d_SettingSearch_init_16 : decode b_SettingSearch_init 16 = .ok (.new 16, 3) := by decide +kernel
theorem d_SettingSearch_init_19 : decode b_SettingSearch_init 19 = .ok (.dup, 1) := by decide +kernel
theorem d_SettingSearch_init_20 : decode b_SettingSearch_init 20 = .ok (.invokespecial 18, 3) := by decide +kernel
theorem d_SettingSearch_init_23 : decode b_SettingSearch_init 23 = .ok (.putfield 19, 3) := by decide +kernel
theorem d_SettingSearch_init_26 : decode b_SettingSearch_init 26 = .ok (.aload_n 0, 1) := by decide +kernel
theorem d_SettingSearch_init_27 : decode b_SettingSearch_init 27 = .ok (.bipush (9), 2) := by decide +kernel
theorem d_SettingSearch_init_29 : decode b_SettingSearch_init 29 = .ok (.newarray .int, 2) := by decide +kernel
theorem d_SettingSearch_init_31 : decode b_SettingSearch_init 31 = .ok (.putfield 23, 3) := by decide +kernel
theorem d_SettingSearch_init_34 : decode b_SettingSearch_init 34 = .ok (.aload_n 0, 1) := by decide +kernel
theorem d_SettingSearch_init_35 : decode b_SettingSearch_init 35 = .ok (.new 27, 3) := by decide +kernel
theorem d_SettingSearch_init_38 : decode b_SettingSearch_init 38 = .ok (.dup, 1) := by decide +kernel
theorem d_SettingSearch_init_39 : decode b_SettingSearch_init 39 = .ok (.invokespecial 29, 3) := by decide +kernel
theorem d_SettingSearch_init_42 : decode b_SettingSearch_init 42 = .ok (.putfield 30, 3) := by decide +kernel
theorem d_SettingSearch_init_45 : decode b_SettingSearch_init 45 = .ok (.aload_n 0, 1) := by decide +kernel
theorem d_SettingSearch_init_46 : decode b_SettingSearch_init 46 = .ok (.new 34, 3) := by decide +kernel
theorem d_SettingSearch_init_49 : decode b_SettingSearch_init 49 = .ok (.dup, 1) := by decide +kernel
theorem d_SettingSearch_init_50 : decode b_SettingSearch_init 50 = .ok (.invokespecial 36, 3) := by decide +kernel
theorem d_SettingSearch_init_53 : decode b_SettingSearch_init 53 = .ok (.putfield 37, 3) := by decide +kernel
theorem d_SettingSearch_init_56 : decode b_SettingSearch_init 56 = .ok (.aload_n 0, 1) := by decide +kernel
theorem d_SettingSearch_init_57 : decode b_SettingSearch_init 57 = .ok (.bipush (64), 2) := by decide +kernel
theorem d_SettingSearch_init_59 : decode b_SettingSearch_init 59 = .ok (.newarray .int, 2) := by decide +kernel
theorem d_SettingSearch_init_61 : decode b_SettingSearch_init 61 = .ok (.putfield 41, 3) := by decide +kernel
theorem d_SettingSearch_init_64 : decode b_SettingSearch_init 64 = .ok (.return_, 1) := by decide +kernel
theorem d_SettingSearch_machine_0 : decode b_SettingSearch_machine 0 = .ok (.aload_n 0, 1) := by decide +kernel
theorem d_SettingSearch_machine_1 : decode b_SettingSearch_machine 1 = .ok (.getfield 37, 3) := by decide +kernel
theorem d_SettingSearch_machine_4 : decode b_SettingSearch_machine 4 = .ok (.getfield 44, 3) := by decide +kernel
theorem d_SettingSearch_machine_7 : decode b_SettingSearch_machine 7 = .ok (.ifCond .ne (14), 3) := by decide +kernel
theorem d_SettingSearch_machine_10 : decode b_SettingSearch_machine 10 = .ok (.aload_n 0, 1) := by decide +kernel
theorem d_SettingSearch_machine_11 : decode b_SettingSearch_machine 11 = .ok (.getfield 12, 3) := by decide +kernel
theorem d_SettingSearch_machine_14 : decode b_SettingSearch_machine 14 = .ok (.iload_n 1, 1) := by decide +kernel
theorem d_SettingSearch_machine_15 : decode b_SettingSearch_machine 15 = .ok (.invokevirtual 48, 3) := by decide +kernel
theorem d_SettingSearch_machine_18 : decode b_SettingSearch_machine 18 = .ok (.ifCond .ne (5), 3) := by decide +kernel
theorem d_SettingSearch_machine_21 : decode b_SettingSearch_machine 21 = .ok (.iconst (-1), 1) := by decide +kernel
theorem d_SettingSearch_machine_22 : decode b_SettingSearch_machine 22 = .ok (.ireturn, 1) := by decide +kernel
theorem d_SettingSearch_machine_23 : decode b_SettingSearch_machine 23 = .ok (.aload_n 0, 1) := by decide +kernel
theorem d_SettingSearch_machine_24 : decode b_SettingSearch_machine 24 = .ok (.getfield 30, 3) := by decide +kernel
theorem d_SettingSearch_machine_27 : decode b_SettingSearch_machine 27 = .ok (.invokevirtual 52, 3) := by decide +kernel
theorem d_SettingSearch_machine_30 : decode b_SettingSearch_machine 30 = .ok (.aload_n 0, 1) := by decide +kernel
theorem d_SettingSearch_machine_31 : decode b_SettingSearch_machine 31 = .ok (.getfield 37, 3) := by decide +kernel
theorem d_SettingSearch_machine_34 : decode b_SettingSearch_machine 34 = .ok (.invokevirtual 55, 3) := by decide +kernel
theorem d_SettingSearch_machine_37 : decode b_SettingSearch_machine 37 = .ok (.aload_n 0, 1) := by decide +kernel
theorem d_SettingSearch_machine_38 : decode b_SettingSearch_machine 38 = .ok (.getfield 12, 3) := by decide +kernel
theorem d_SettingSearch_machine_41 : decode b_SettingSearch_machine 41 = .ok (.getfield 56, 3) := by decide +kernel
theorem d_SettingSearch_machine_44 : decode b_SettingSearch_machine 44 = .ok (.iconst 1, 1) := by decide +kernel
theorem d_SettingSearch_machine_45 : decode b_SettingSearch_machine 45 = .ok (.isub, 1) := by decide +kernel
theorem d_SettingSearch_machine_46 : decode b_SettingSearch_machine 46 = .ok (.ireturn, 1) := by decide +kernel
theorem d_SettingSearch_worth_0 : decode b_SettingSearch_worth 0 = .ok (.iload_n 1, 1) := by decide +kernel
theorem d_SettingSearch_worth_1 : decode b_SettingSearch_worth 1 = .ok (.iload_n 2, 1) := by decide +kernel
theorem d_SettingSearch_worth_2 : decode b_SettingSearch_worth 2 = .ok (.invokestatic 60, 3) := by decide +kernel
theorem d_SettingSearch_worth_5 : decode b_SettingSearch_worth 5 = .ok (.istore 4, 2) := by decide +kernel
theorem d_SettingSearch_worth_7 : decode b_SettingSearch_worth 7 = .ok (.aload_n 0, 1) := by decide +kernel
theorem d_SettingSearch_worth_8 : decode b_SettingSearch_worth 8 = .ok (.getfield 37, 3) := by decide +kernel
theorem d_SettingSearch_worth_11 : decode b_SettingSearch_worth 11 = .ok (.getfield 44, 3) := by decide +kernel
theorem d_SettingSearch_worth_14 : decode b_SettingSearch_worth 14 = .ok (.ifCond .ne (23), 3) := by decide +kernel
theorem d_SettingSearch_worth_17 : decode b_SettingSearch_worth 17 = .ok (.iload 4, 2) := by decide +kernel
theorem d_SettingSearch_worth_19 : decode b_SettingSearch_worth 19 = .ok (.iconst (-1), 1) := by decide +kernel
theorem d_SettingSearch_worth_20 : decode b_SettingSearch_worth 20 = .ok (.if_icmp .eq (17), 3) := by decide +kernel
theorem d_SettingSearch_worth_23 : decode b_SettingSearch_worth 23 = .ok (.iload_n 3, 1) := by decide +kernel
theorem d_SettingSearch_worth_24 : decode b_SettingSearch_worth 24 = .ok (.sipush (-1000), 3) := by decide +kernel
theorem d_SettingSearch_worth_27 : decode b_SettingSearch_worth 27 = .ok (.if_icmp .lt (10), 3) := by decide +kernel
theorem d_SettingSearch_worth_30 : decode b_SettingSearch_worth 30 = .ok (.iload_n 3, 1) := by decide +kernel
theorem d_SettingSearch_worth_31 : decode b_SettingSearch_worth 31 = .ok (.sipush (1000), 3) := by decide +kernel
theorem d_SettingSearch_worth_34 : decode b_SettingSearch_worth 34 = .ok (.if_icmp .le (5), 3) := by decide +kernel
theorem d_SettingSearch_worth_37 : decode b_SettingSearch_worth 37 = .ok (.iconst 0, 1) := by decide +kernel
theorem d_SettingSearch_worth_38 : decode b_SettingSearch_worth 38 = .ok (.ireturn, 1) := by decide +kernel
theorem d_SettingSearch_worth_39 : decode b_SettingSearch_worth 39 = .ok (.aload_n 0, 1) := by decide +kernel
theorem d_SettingSearch_worth_40 : decode b_SettingSearch_worth 40 = .ok (.getfield 23, 3) := by decide +kernel
theorem d_SettingSearch_worth_43 : decode b_SettingSearch_worth 43 = .ok (.iload 4, 2) := by decide +kernel
theorem d_SettingSearch_worth_45 : decode b_SettingSearch_worth 45 = .ok (.iload_n 3, 1) := by decide +kernel
theorem d_SettingSearch_worth_46 : decode b_SettingSearch_worth 46 = .ok (.iastore, 1) := by decide +kernel
theorem d_SettingSearch_worth_47 : decode b_SettingSearch_worth 47 = .ok (.iconst 1, 1) := by decide +kernel
theorem d_SettingSearch_worth_48 : decode b_SettingSearch_worth 48 = .ok (.ireturn, 1) := by decide +kernel
theorem d_SettingSearch_purity_0 : decode b_SettingSearch_purity 0 = .ok (.aload_n 0, 1) := by decide +kernel
theorem d_SettingSearch_purity_1 : decode b_SettingSearch_purity 1 = .ok (.getfield 37, 3) := by decide +kernel
theorem d_SettingSearch_purity_4 : decode b_SettingSearch_purity 4 = .ok (.getfield 44, 3) := by decide +kernel
theorem d_SettingSearch_purity_7 : decode b_SettingSearch_purity 7 = .ok (.ifCond .ne (12), 3) := by decide +kernel
theorem d_SettingSearch_purity_10 : decode b_SettingSearch_purity 10 = .ok (.iload_n 1, 1) := by decide +kernel
theorem d_SettingSearch_purity_11 : decode b_SettingSearch_purity 11 = .ok (.iload_n 2, 1) := by decide +kernel
theorem d_SettingSearch_purity_12 : decode b_SettingSearch_purity 12 = .ok (.invokestatic 60, 3) := by decide +kernel
theorem d_SettingSearch_purity_15 : decode b_SettingSearch_purity 15 = .ok (.iconst (-1), 1) := by decide +kernel
theorem d_SettingSearch_purity_16 : decode b_SettingSearch_purity 16 = .ok (.if_icmp .ne (5), 3) := by decide +kernel
theorem d_SettingSearch_purity_19 : decode b_SettingSearch_purity 19 = .ok (.iconst (-1), 1) := by decide +kernel
theorem d_SettingSearch_purity_20 : decode b_SettingSearch_purity 20 = .ok (.ireturn, 1) := by decide +kernel
theorem d_SettingSearch_purity_21 : decode b_SettingSearch_purity 21 = .ok (.aload_n 0, 1) := by decide +kernel
theorem d_SettingSearch_purity_22 : decode b_SettingSearch_purity 22 = .ok (.getfield 19, 3) := by decide +kernel
theorem d_SettingSearch_purity_25 : decode b_SettingSearch_purity 25 = .ok (.iload_n 1, 1) := by decide +kernel
theorem d_SettingSearch_purity_26 : decode b_SettingSearch_purity 26 = .ok (.iload_n 2, 1) := by decide +kernel
theorem d_SettingSearch_purity_27 : decode b_SettingSearch_purity 27 = .ok (.iload_n 3, 1) := by decide +kernel
theorem d_SettingSearch_purity_28 : decode b_SettingSearch_purity 28 = .ok (.iload 4, 2) := by decide +kernel
theorem d_SettingSearch_purity_30 : decode b_SettingSearch_purity 30 = .ok (.invokevirtual 64, 3) := by decide +kernel
theorem d_SettingSearch_purity_33 : decode b_SettingSearch_purity 33 = .ok (.ireturn, 1) := by decide +kernel
theorem d_SettingSearch_most_0 : decode b_SettingSearch_most 0 = .ok (.aload_n 0, 1) := by decide +kernel
theorem d_SettingSearch_most_1 : decode b_SettingSearch_most 1 = .ok (.getfield 37, 3) := by decide +kernel
theorem d_SettingSearch_most_4 : decode b_SettingSearch_most 4 = .ok (.getfield 44, 3) := by decide +kernel
theorem d_SettingSearch_most_7 : decode b_SettingSearch_most 7 = .ok (.ifCond .ne (25), 3) := by decide +kernel
theorem d_SettingSearch_most_10 : decode b_SettingSearch_most 10 = .ok (.aload_n 0, 1) := by decide +kernel
theorem d_SettingSearch_most_11 : decode b_SettingSearch_most 11 = .ok (.getfield 12, 3) := by decide +kernel
theorem d_SettingSearch_most_14 : decode b_SettingSearch_most 14 = .ok (.iload_n 1, 1) := by decide +kernel
theorem d_SettingSearch_most_15 : decode b_SettingSearch_most 15 = .ok (.invokevirtual 68, 3) := by decide +kernel
theorem d_SettingSearch_most_18 : decode b_SettingSearch_most 18 = .ok (.ifCond .eq (14), 3) := by decide +kernel
theorem d_SettingSearch_most_21 : decode b_SettingSearch_most 21 = .ok (.iload_n 2, 1) := by decide +kernel
theorem d_SettingSearch_most_22 : decode b_SettingSearch_most 22 = .ok (.iconst (-1), 1) := by decide +kernel
theorem d_SettingSearch_most_23 : decode b_SettingSearch_most 23 = .ok (.if_icmp .lt (9), 3) := by decide +kernel
theorem d_SettingSearch_most_26 : decode b_SettingSearch_most 26 = .ok (.iload_n 2, 1) := by decide +kernel
theorem d_SettingSearch_most_27 : decode b_SettingSearch_most 27 = .ok (.ldc 71, 2) := by decide +kernel
theorem d_SettingSearch_most_29 : decode b_SettingSearch_most 29 = .ok (.if_icmp .le (5), 3) := by decide +kernel
theorem d_SettingSearch_most_32 : decode b_SettingSearch_most 32 = .ok (.iconst 0, 1) := by decide +kernel
theorem d_SettingSearch_most_33 : decode b_SettingSearch_most 33 = .ok (.ireturn, 1) := by decide +kernel
theorem d_SettingSearch_most_34 : decode b_SettingSearch_most 34 = .ok (.aload_n 0, 1) := by decide +kernel
theorem d_SettingSearch_most_35 : decode b_SettingSearch_most 35 = .ok (.getfield 19, 3) := by decide +kernel
theorem d_SettingSearch_most_38 : decode b_SettingSearch_most 38 = .ok (.getfield 72, 3) := by decide +kernel
theorem d_SettingSearch_most_41 : decode b_SettingSearch_most 41 = .ok (.iload_n 1, 1) := by decide +kernel
theorem d_SettingSearch_most_42 : decode b_SettingSearch_most 42 = .ok (.iload_n 2, 1) := by decide +kernel
theorem d_SettingSearch_most_43 : decode b_SettingSearch_most 43 = .ok (.iastore, 1) := by decide +kernel
theorem d_SettingSearch_most_44 : decode b_SettingSearch_most 44 = .ok (.iconst 1, 1) := by decide +kernel
theorem d_SettingSearch_most_45 : decode b_SettingSearch_most 45 = .ok (.ireturn, 1) := by decide +kernel
theorem d_SettingSearch_feed_0 : decode b_SettingSearch_feed 0 = .ok (.aload_n 0, 1) := by decide +kernel
theorem d_SettingSearch_feed_1 : decode b_SettingSearch_feed 1 = .ok (.getfield 37, 3) := by decide +kernel
theorem d_SettingSearch_feed_4 : decode b_SettingSearch_feed 4 = .ok (.getfield 44, 3) := by decide +kernel
theorem d_SettingSearch_feed_7 : decode b_SettingSearch_feed 7 = .ok (.ifCond .ne (27), 3) := by decide +kernel
theorem d_SettingSearch_feed_10 : decode b_SettingSearch_feed 10 = .ok (.lload_n 1, 1) := by decide +kernel
theorem d_SettingSearch_feed_11 : decode b_SettingSearch_feed 11 = .ok (.lconst 1, 1) := by decide +kernel
theorem d_SettingSearch_feed_12 : decode b_SettingSearch_feed 12 = .ok (.lcmp, 1) := by decide +kernel
theorem d_SettingSearch_feed_13 : decode b_SettingSearch_feed 13 = .ok (.ifCond .lt (21), 3) := by decide +kernel
theorem d_SettingSearch_feed_16 : decode b_SettingSearch_feed 16 = .ok (.lload_n 1, 1) := by decide +kernel
theorem d_SettingSearch_feed_17 : decode b_SettingSearch_feed 17 = .ok (.ldc2_w 75, 3) := by decide +kernel
theorem d_SettingSearch_feed_20 : decode b_SettingSearch_feed 20 = .ok (.lcmp, 1) := by decide +kernel
theorem d_SettingSearch_feed_21 : decode b_SettingSearch_feed 21 = .ok (.ifCond .gt (13), 3) := by decide +kernel
theorem d_SettingSearch_feed_24 : decode b_SettingSearch_feed 24 = .ok (.aload_n 0, 1) := by decide +kernel
theorem d_SettingSearch_feed_25 : decode b_SettingSearch_feed 25 = .ok (.getfield 12, 3) := by decide +kernel
theorem d_SettingSearch_feed_28 : decode b_SettingSearch_feed 28 = .ok (.getfield 56, 3) := by decide +kernel
theorem d_SettingSearch_feed_31 : decode b_SettingSearch_feed 31 = .ok (.ifCond .ne (5), 3) := by decide +kernel
theorem d_SettingSearch_feed_34 : decode b_SettingSearch_feed 34 = .ok (.iconst 0, 1) := by decide +kernel
theorem d_SettingSearch_feed_35 : decode b_SettingSearch_feed 35 = .ok (.ireturn, 1) := by decide +kernel
theorem d_SettingSearch_feed_36 : decode b_SettingSearch_feed 36 = .ok (.aload_n 0, 1) := by decide +kernel
theorem d_SettingSearch_feed_37 : decode b_SettingSearch_feed 37 = .ok (.getfield 30, 3) := by decide +kernel
theorem d_SettingSearch_feed_40 : decode b_SettingSearch_feed 40 = .ok (.lload_n 1, 1) := by decide +kernel
theorem d_SettingSearch_feed_41 : decode b_SettingSearch_feed 41 = .ok (.invokevirtual 77, 3) := by decide +kernel
theorem d_SettingSearch_feed_44 : decode b_SettingSearch_feed 44 = .ok (.astore_n 3, 1) := by decide +kernel
theorem d_SettingSearch_feed_45 : decode b_SettingSearch_feed 45 = .ok (.aload_n 3, 1) := by decide +kernel
theorem d_SettingSearch_feed_46 : decode b_SettingSearch_feed 46 = .ok (.ifnonnull (5), 3) := by decide +kernel
theorem d_SettingSearch_feed_49 : decode b_SettingSearch_feed 49 = .ok (.iconst 0, 1) := by decide +kernel
theorem d_SettingSearch_feed_50 : decode b_SettingSearch_feed 50 = .ok (.ireturn, 1) := by decide +kernel
theorem d_SettingSearch_feed_51 : decode b_SettingSearch_feed 51 = .ok (.aload_n 0, 1) := by decide +kernel
theorem d_SettingSearch_feed_52 : decode b_SettingSearch_feed 52 = .ok (.getfield 37, 3) := by decide +kernel
theorem d_SettingSearch_feed_55 : decode b_SettingSearch_feed 55 = .ok (.aload_n 3, 1) := by decide +kernel
theorem d_SettingSearch_feed_56 : decode b_SettingSearch_feed 56 = .ok (.aload_n 0, 1) := by decide +kernel
theorem d_SettingSearch_feed_57 : decode b_SettingSearch_feed 57 = .ok (.getfield 12, 3) := by decide +kernel
theorem d_SettingSearch_feed_60 : decode b_SettingSearch_feed 60 = .ok (.invokevirtual 81, 3) := by decide +kernel
theorem d_SettingSearch_feed_63 : decode b_SettingSearch_feed 63 = .ok (.iconst 1, 1) := by decide +kernel
theorem d_SettingSearch_feed_64 : decode b_SettingSearch_feed 64 = .ok (.ireturn, 1) := by decide +kernel
theorem d_SettingSearch_next_0 : decode b_SettingSearch_next 0 = .ok (.aload_n 0, 1) := by decide +kernel
theorem d_SettingSearch_next_1 : decode b_SettingSearch_next 1 = .ok (.getfield 37, 3) := by decide +kernel
theorem d_SettingSearch_next_4 : decode b_SettingSearch_next 4 = .ok (.getfield 85, 3) := by decide +kernel
theorem d_SettingSearch_next_7 : decode b_SettingSearch_next 7 = .ok (.astore_n 1, 1) := by decide +kernel
theorem d_SettingSearch_next_8 : decode b_SettingSearch_next 8 = .ok (.aload_n 0, 1) := by decide +kernel
theorem d_SettingSearch_next_9 : decode b_SettingSearch_next 9 = .ok (.getfield 37, 3) := by decide +kernel
theorem d_SettingSearch_next_12 : decode b_SettingSearch_next 12 = .ok (.getfield 44, 3) := by decide +kernel
theorem d_SettingSearch_next_15 : decode b_SettingSearch_next 15 = .ok (.ifCond .eq (7), 3) := by decide +kernel
theorem d_SettingSearch_next_18 : decode b_SettingSearch_next 18 = .ok (.aload_n 1, 1) := by decide +kernel
theorem d_SettingSearch_next_19 : decode b_SettingSearch_next 19 = .ok (.ifnonnull (5), 3) := by decide +kernel
theorem d_SettingSearch_next_22 : decode b_SettingSearch_next 22 = .ok (.iconst (-1), 1) := by decide +kernel
theorem d_SettingSearch_next_23 : decode b_SettingSearch_next 23 = .ok (.ireturn, 1) := by decide +kernel
theorem d_SettingSearch_next_24 : decode b_SettingSearch_next 24 = .ok (.aload_n 0, 1) := by decide +kernel
theorem d_SettingSearch_next_25 : decode b_SettingSearch_next 25 = .ok (.getfield 37, 3) := by decide +kernel
theorem d_SettingSearch_next_28 : decode b_SettingSearch_next 28 = .ok (.getfield 89, 3) := by decide +kernel
theorem d_SettingSearch_next_31 : decode b_SettingSearch_next 31 = .ok (.iconst (-1), 1) := by decide +kernel
theorem d_SettingSearch_next_32 : decode b_SettingSearch_next 32 = .ok (.if_icmp .eq (22), 3) := by decide +kernel
theorem d_SettingSearch_next_35 : decode b_SettingSearch_next 35 = .ok (.aload_n 1, 1) := by decide +kernel
theorem d_SettingSearch_next_36 : decode b_SettingSearch_next 36 = .ok (.aload_n 0, 1) := by decide +kernel
theorem d_SettingSearch_next_37 : decode b_SettingSearch_next 37 = .ok (.getfield 37, 3) := by decide +kernel
theorem d_SettingSearch_next_40 : decode b_SettingSearch_next 40 = .ok (.getfield 89, 3) := by decide +kernel
theorem d_SettingSearch_next_43 : decode b_SettingSearch_next 43 = .ok (.invokevirtual 92, 3) := by decide +kernel
theorem d_SettingSearch_next_46 : decode b_SettingSearch_next 46 = .ok (.aload_n 0, 1) := by decide +kernel
theorem d_SettingSearch_next_47 : decode b_SettingSearch_next 47 = .ok (.getfield 37, 3) := by decide +kernel
theorem d_SettingSearch_next_50 : decode b_SettingSearch_next 50 = .ok (.iconst (-1), 1) := by decide +kernel
theorem d_SettingSearch_next_51 : decode b_SettingSearch_next 51 = .ok (.putfield 89, 3) := by decide +kernel
theorem d_SettingSearch_next_54 : decode b_SettingSearch_next 54 = .ok (.aload_n 0, 1) := by decide +kernel
theorem d_SettingSearch_next_55 : decode b_SettingSearch_next 55 = .ok (.aload_n 1, 1) := by decide +kernel
theorem d_SettingSearch_next_56 : decode b_SettingSearch_next 56 = .ok (.invokevirtual 98, 3) := by decide +kernel
theorem d_SettingSearch_next_59 : decode b_SettingSearch_next 59 = .ok (.ireturn, 1) := by decide +kernel
theorem d_SettingSearch_asked_0 : decode b_SettingSearch_asked 0 = .ok (.aload_n 0, 1) := by decide +kernel
theorem d_SettingSearch_asked_1 : decode b_SettingSearch_asked 1 = .ok (.getfield 12, 3) := by decide +kernel
theorem d_SettingSearch_asked_4 : decode b_SettingSearch_asked 4 = .ok (.aload_n 0, 1) := by decide +kernel
theorem d_SettingSearch_asked_5 : decode b_SettingSearch_asked 5 = .ok (.getfield 37, 3) := by decide +kernel
theorem d_SettingSearch_asked_8 : decode b_SettingSearch_asked 8 = .ok (.getfield 89, 3) := by decide +kernel
theorem d_SettingSearch_asked_11 : decode b_SettingSearch_asked 11 = .ok (.iload_n 1, 1) := by decide +kernel
theorem d_SettingSearch_asked_12 : decode b_SettingSearch_asked 12 = .ok (.invokevirtual 102, 3) := by decide +kernel
theorem d_SettingSearch_asked_15 : decode b_SettingSearch_asked 15 = .ok (.ireturn, 1) := by decide +kernel
theorem d_SettingSearch_answer_0 : decode b_SettingSearch_answer 0 = .ok (.aload_n 0, 1) := by decide +kernel
theorem d_SettingSearch_answer_1 : decode b_SettingSearch_answer 1 = .ok (.getfield 37, 3) := by decide +kernel
theorem d_SettingSearch_answer_4 : decode b_SettingSearch_answer 4 = .ok (.getfield 85, 3) := by decide +kernel
theorem d_SettingSearch_answer_7 : decode b_SettingSearch_answer 7 = .ok (.astore 5, 2) := by decide +kernel
theorem d_SettingSearch_answer_9 : decode b_SettingSearch_answer 9 = .ok (.iload_n 1, 1) := by decide +kernel
theorem d_SettingSearch_answer_10 : decode b_SettingSearch_answer 10 = .ok (.iload_n 2, 1) := by decide +kernel
theorem d_SettingSearch_answer_11 : decode b_SettingSearch_answer 11 = .ok (.invokestatic 60, 3) := by decide +kernel
theorem d_SettingSearch_answer_14 : decode b_SettingSearch_answer 14 = .ok (.istore 6, 2) := by decide +kernel
theorem d_SettingSearch_answer_16 : decode b_SettingSearch_answer 16 = .ok (.aload_n 0, 1) := by decide +kernel
theorem d_SettingSearch_answer_17 : decode b_SettingSearch_answer 17 = .ok (.getfield 37, 3) := by decide +kernel
theorem d_SettingSearch_answer_20 : decode b_SettingSearch_answer 20 = .ok (.getfield 89, 3) := by decide +kernel
theorem d_SettingSearch_answer_23 : decode b_SettingSearch_answer 23 = .ok (.iconst (-1), 1) := by decide +kernel
theorem d_SettingSearch_answer_24 : decode b_SettingSearch_answer 24 = .ok (.if_icmp .eq (14), 3) := by decide +kernel
theorem d_SettingSearch_answer_27 : decode b_SettingSearch_answer 27 = .ok (.aload 5, 2) := by decide +kernel
theorem d_SettingSearch_answer_29 : decode b_SettingSearch_answer 29 = .ok (.ifnull (9), 3) := by decide +kernel
theorem d_SettingSearch_answer_32 : decode b_SettingSearch_answer 32 = .ok (.iload 6, 2) := by decide +kernel
theorem d_SettingSearch_answer_34 : decode b_SettingSearch_answer 34 = .ok (.iconst (-1), 1) := by decide +kernel
theorem d_SettingSearch_answer_35 : decode b_SettingSearch_answer 35 = .ok (.if_icmp .ne (5), 3) := by decide +kernel
theorem d_SettingSearch_answer_38 : decode b_SettingSearch_answer 38 = .ok (.iconst 0, 1) := by decide +kernel
theorem d_SettingSearch_answer_39 : decode b_SettingSearch_answer 39 = .ok (.ireturn, 1) := by decide +kernel
theorem d_SettingSearch_answer_40 : decode b_SettingSearch_answer 40 = .ok (.aload 5, 2) := by decide +kernel
theorem d_SettingSearch_answer_42 : decode b_SettingSearch_answer 42 = .ok (.aload_n 0, 1) := by decide +kernel
theorem d_SettingSearch_answer_43 : decode b_SettingSearch_answer 43 = .ok (.getfield 37, 3) := by decide +kernel
theorem d_SettingSearch_answer_46 : decode b_SettingSearch_answer 46 = .ok (.getfield 89, 3) := by decide +kernel
theorem d_SettingSearch_answer_49 : decode b_SettingSearch_answer 49 = .ok (.iload 6, 2) := by decide +kernel
theorem d_SettingSearch_answer_51 : decode b_SettingSearch_answer 51 = .ok (.lload_n 3, 1) := by decide +kernel
theorem d_SettingSearch_answer_52 : decode b_SettingSearch_answer 52 = .ok (.invokevirtual 105, 3) := by decide +kernel
theorem d_SettingSearch_answer_55 : decode b_SettingSearch_answer 55 = .ok (.ireturn, 1) := by decide +kernel
theorem d_SettingSearch_load_0 : decode b_SettingSearch_load 0 = .ok (.aload_n 0, 1) := by decide +kernel
theorem d_SettingSearch_load_1 : decode b_SettingSearch_load 1 = .ok (.getfield 37, 3) := by decide +kernel
theorem d_SettingSearch_load_4 : decode b_SettingSearch_load 4 = .ok (.getfield 85, 3) := by decide +kernel
theorem d_SettingSearch_load_7 : decode b_SettingSearch_load 7 = .ok (.astore_n 3, 1) := by decide +kernel
theorem d_SettingSearch_load_8 : decode b_SettingSearch_load 8 = .ok (.aload_n 0, 1) := by decide +kernel
theorem d_SettingSearch_load_9 : decode b_SettingSearch_load 9 = .ok (.getfield 37, 3) := by decide +kernel
theorem d_SettingSearch_load_12 : decode b_SettingSearch_load 12 = .ok (.getfield 89, 3) := by decide +kernel
theorem d_SettingSearch_load_15 : decode b_SettingSearch_load 15 = .ok (.iconst (-1), 1) := by decide +kernel
theorem d_SettingSearch_load_16 : decode b_SettingSearch_load 16 = .ok (.if_icmp .eq (18), 3) := by decide +kernel
theorem d_SettingSearch_load_19 : decode b_SettingSearch_load 19 = .ok (.aload_n 3, 1) := by decide +kernel
theorem d_SettingSearch_load_20 : decode b_SettingSearch_load 20 = .ok (.ifnull (14), 3) := by decide +kernel
theorem d_SettingSearch_load_23 : decode b_SettingSearch_load 23 = .ok (.aload_n 0, 1) := by decide +kernel
theorem d_SettingSearch_load_24 : decode b_SettingSearch_load 24 = .ok (.getfield 12, 3) := by decide +kernel
theorem d_SettingSearch_load_27 : decode b_SettingSearch_load 27 = .ok (.iload_n 1, 1) := by decide +kernel
theorem d_SettingSearch_load_28 : decode b_SettingSearch_load 28 = .ok (.invokevirtual 68, 3) := by decide +kernel
theorem d_SettingSearch_load_31 : decode b_SettingSearch_load 31 = .ok (.ifCond .ne (5), 3) := by decide +kernel
theorem d_SettingSearch_load_34 : decode b_SettingSearch_load 34 = .ok (.iconst 0, 1) := by decide +kernel
theorem d_SettingSearch_load_35 : decode b_SettingSearch_load 35 = .ok (.ireturn, 1) := by decide +kernel
theorem d_SettingSearch_load_36 : decode b_SettingSearch_load 36 = .ok (.aload_n 3, 1) := by decide +kernel
theorem d_SettingSearch_load_37 : decode b_SettingSearch_load 37 = .ok (.aload_n 0, 1) := by decide +kernel
theorem d_SettingSearch_load_38 : decode b_SettingSearch_load 38 = .ok (.getfield 37, 3) := by decide +kernel
theorem d_SettingSearch_load_41 : decode b_SettingSearch_load 41 = .ok (.getfield 89, 3) := by decide +kernel
theorem d_SettingSearch_load_44 : decode b_SettingSearch_load 44 = .ok (.iload_n 1, 1) := by decide +kernel
theorem d_SettingSearch_load_45 : decode b_SettingSearch_load 45 = .ok (.iload_n 2, 1) := by decide +kernel
theorem d_SettingSearch_load_46 : decode b_SettingSearch_load 46 = .ok (.invokevirtual 109, 3) := by decide +kernel
theorem d_SettingSearch_load_49 : decode b_SettingSearch_load 49 = .ok (.ireturn, 1) := by decide +kernel
theorem d_SettingSearch_best_0 : decode b_SettingSearch_best 0 = .ok (.aload_n 0, 1) := by decide +kernel
theorem d_SettingSearch_best_1 : decode b_SettingSearch_best 1 = .ok (.getfield 12, 3) := by decide +kernel
theorem d_SettingSearch_best_4 : decode b_SettingSearch_best 4 = .ok (.aload_n 0, 1) := by decide +kernel
theorem d_SettingSearch_best_5 : decode b_SettingSearch_best 5 = .ok (.getfield 37, 3) := by decide +kernel
theorem d_SettingSearch_best_8 : decode b_SettingSearch_best 8 = .ok (.getfield 113, 3) := by decide +kernel
theorem d_SettingSearch_best_11 : decode b_SettingSearch_best 11 = .ok (.iload_n 1, 1) := by decide +kernel
theorem d_SettingSearch_best_12 : decode b_SettingSearch_best 12 = .ok (.invokevirtual 102, 3) := by decide +kernel
theorem d_SettingSearch_best_15 : decode b_SettingSearch_best 15 = .ok (.ireturn, 1) := by decide +kernel
theorem d_SettingSearch_sum_0 : decode b_SettingSearch_sum 0 = .ok (.aload_n 0, 1) := by decide +kernel
theorem d_SettingSearch_sum_1 : decode b_SettingSearch_sum 1 = .ok (.getfield 37, 3) := by decide +kernel
theorem d_SettingSearch_sum_4 : decode b_SettingSearch_sum 4 = .ok (.getfield 116, 3) := by decide +kernel
theorem d_SettingSearch_sum_7 : decode b_SettingSearch_sum 7 = .ok (.lreturn, 1) := by decide +kernel
theorem d_SettingSearch_bound_0 : decode b_SettingSearch_bound 0 = .ok (.aload_n 0, 1) := by decide +kernel
theorem d_SettingSearch_bound_1 : decode b_SettingSearch_bound 1 = .ok (.getfield 37, 3) := by decide +kernel
theorem d_SettingSearch_bound_4 : decode b_SettingSearch_bound 4 = .ok (.getfield 85, 3) := by decide +kernel
theorem d_SettingSearch_bound_7 : decode b_SettingSearch_bound 7 = .ok (.astore_n 1, 1) := by decide +kernel
theorem d_SettingSearch_bound_8 : decode b_SettingSearch_bound 8 = .ok (.aload_n 1, 1) := by decide +kernel
theorem d_SettingSearch_bound_9 : decode b_SettingSearch_bound 9 = .ok (.ifnonnull (9), 3) := by decide +kernel
theorem d_SettingSearch_bound_12 : decode b_SettingSearch_bound 12 = .ok (.ldc2_w 120, 3) := by decide +kernel
theorem d_SettingSearch_bound_15 : decode b_SettingSearch_bound 15 = .ok (.goto (8), 3) := by decide +kernel
theorem d_SettingSearch_bound_18 : decode b_SettingSearch_bound 18 = .ok (.aload_n 0, 1) := by decide +kernel
theorem d_SettingSearch_bound_19 : decode b_SettingSearch_bound 19 = .ok (.aload_n 1, 1) := by decide +kernel
theorem d_SettingSearch_bound_20 : decode b_SettingSearch_bound 20 = .ok (.invokevirtual 122, 3) := by decide +kernel
theorem d_SettingSearch_bound_23 : decode b_SettingSearch_bound 23 = .ok (.lreturn, 1) := by decide +kernel
theorem d_SettingSearch_proved_0 : decode b_SettingSearch_proved 0 = .ok (.aload_n 0, 1) := by decide +kernel
theorem d_SettingSearch_proved_1 : decode b_SettingSearch_proved 1 = .ok (.getfield 37, 3) := by decide +kernel
theorem d_SettingSearch_proved_4 : decode b_SettingSearch_proved 4 = .ok (.getfield 85, 3) := by decide +kernel
theorem d_SettingSearch_proved_7 : decode b_SettingSearch_proved 7 = .ok (.ifnull (17), 3) := by decide +kernel
theorem d_SettingSearch_proved_10 : decode b_SettingSearch_proved 10 = .ok (.aload_n 0, 1) := by decide +kernel
theorem d_SettingSearch_proved_11 : decode b_SettingSearch_proved 11 = .ok (.getfield 37, 3) := by decide +kernel
theorem d_SettingSearch_proved_14 : decode b_SettingSearch_proved 14 = .ok (.getfield 44, 3) := by decide +kernel
theorem d_SettingSearch_proved_17 : decode b_SettingSearch_proved 17 = .ok (.ifCond .ne (7), 3) := by decide +kernel
theorem d_SettingSearch_proved_20 : decode b_SettingSearch_proved 20 = .ok (.iconst 1, 1) := by decide +kernel
theorem d_SettingSearch_proved_21 : decode b_SettingSearch_proved 21 = .ok (.goto (4), 3) := by decide +kernel
theorem d_SettingSearch_proved_24 : decode b_SettingSearch_proved 24 = .ok (.iconst 0, 1) := by decide +kernel
theorem d_SettingSearch_proved_25 : decode b_SettingSearch_proved 25 = .ok (.ireturn, 1) := by decide +kernel
theorem d_SettingSearch_changes_0 : decode b_SettingSearch_changes 0 = .ok (.aload_n 0, 1) := by decide +kernel
theorem d_SettingSearch_changes_1 : decode b_SettingSearch_changes 1 = .ok (.getfield 37, 3) := by decide +kernel
theorem d_SettingSearch_changes_4 : decode b_SettingSearch_changes 4 = .ok (.getfield 113, 3) := by decide +kernel
theorem d_SettingSearch_changes_7 : decode b_SettingSearch_changes 7 = .ok (.iconst (-1), 1) := by decide +kernel
theorem d_SettingSearch_changes_8 : decode b_SettingSearch_changes 8 = .ok (.if_icmp .ne (7), 3) := by decide +kernel
theorem d_SettingSearch_changes_11 : decode b_SettingSearch_changes 11 = .ok (.iconst (-1), 1) := by decide +kernel
theorem d_SettingSearch_changes_12 : decode b_SettingSearch_changes 12 = .ok (.goto (17), 3) := by decide +kernel
theorem d_SettingSearch_changes_15 : decode b_SettingSearch_changes 15 = .ok (.aload_n 0, 1) := by decide +kernel
theorem d_SettingSearch_changes_16 : decode b_SettingSearch_changes 16 = .ok (.getfield 12, 3) := by decide +kernel
theorem d_SettingSearch_changes_19 : decode b_SettingSearch_changes 19 = .ok (.aload_n 0, 1) := by decide +kernel
theorem d_SettingSearch_changes_20 : decode b_SettingSearch_changes 20 = .ok (.getfield 37, 3) := by decide +kernel
theorem d_SettingSearch_changes_23 : decode b_SettingSearch_changes 23 = .ok (.getfield 113, 3) := by decide +kernel
theorem d_SettingSearch_changes_26 : decode b_SettingSearch_changes 26 = .ok (.invokevirtual 126, 3) := by decide +kernel
theorem d_SettingSearch_changes_29 : decode b_SettingSearch_changes 29 = .ok (.ireturn, 1) := by decide +kernel
theorem d_SettingSearch_take_0 : decode b_SettingSearch_take 0 = .ok (.aload_n 0, 1) := by decide +kernel
theorem d_SettingSearch_take_1 : decode b_SettingSearch_take 1 = .ok (.getfield 37, 3) := by decide +kernel
theorem d_SettingSearch_take_4 : decode b_SettingSearch_take 4 = .ok (.getfield 44, 3) := by decide +kernel
theorem d_SettingSearch_take_7 : decode b_SettingSearch_take 7 = .ok (.ifCond .ne (14), 3) := by decide +kernel
theorem d_SettingSearch_take_10 : decode b_SettingSearch_take 10 = .ok (.aload_n 0, 1) := by decide +kernel
theorem d_SettingSearch_take_11 : decode b_SettingSearch_take 11 = .ok (.getfield 37, 3) := by decide +kernel
theorem d_SettingSearch_take_14 : decode b_SettingSearch_take 14 = .ok (.getfield 113, 3) := by decide +kernel
theorem d_SettingSearch_take_17 : decode b_SettingSearch_take 17 = .ok (.iconst (-1), 1) := by decide +kernel
theorem d_SettingSearch_take_18 : decode b_SettingSearch_take 18 = .ok (.if_icmp .ne (5), 3) := by decide +kernel
theorem d_SettingSearch_take_21 : decode b_SettingSearch_take 21 = .ok (.iconst (-1), 1) := by decide +kernel
theorem d_SettingSearch_take_22 : decode b_SettingSearch_take 22 = .ok (.ireturn, 1) := by decide +kernel
theorem d_SettingSearch_take_23 : decode b_SettingSearch_take 23 = .ok (.aload_n 0, 1) := by decide +kernel
theorem d_SettingSearch_take_24 : decode b_SettingSearch_take 24 = .ok (.getfield 12, 3) := by decide +kernel
theorem d_SettingSearch_take_27 : decode b_SettingSearch_take 27 = .ok (.aload_n 0, 1) := by decide +kernel
theorem d_SettingSearch_take_28 : decode b_SettingSearch_take 28 = .ok (.getfield 37, 3) := by decide +kernel
theorem d_SettingSearch_take_31 : decode b_SettingSearch_take 31 = .ok (.getfield 113, 3) := by decide +kernel
theorem d_SettingSearch_take_34 : decode b_SettingSearch_take 34 = .ok (.invokevirtual 126, 3) := by decide +kernel
theorem d_SettingSearch_take_37 : decode b_SettingSearch_take 37 = .ok (.istore_n 1, 1) := by decide +kernel
theorem d_SettingSearch_take_38 : decode b_SettingSearch_take 38 = .ok (.aload_n 0, 1) := by decide +kernel
theorem d_SettingSearch_take_39 : decode b_SettingSearch_take 39 = .ok (.getfield 12, 3) := by decide +kernel
theorem d_SettingSearch_take_42 : decode b_SettingSearch_take 42 = .ok (.aload_n 0, 1) := by decide +kernel
theorem d_SettingSearch_take_43 : decode b_SettingSearch_take 43 = .ok (.getfield 37, 3) := by decide +kernel
theorem d_SettingSearch_take_46 : decode b_SettingSearch_take 46 = .ok (.getfield 113, 3) := by decide +kernel
theorem d_SettingSearch_take_49 : decode b_SettingSearch_take 49 = .ok (.invokevirtual 130, 3) := by decide +kernel
theorem d_SettingSearch_take_52 : decode b_SettingSearch_take 52 = .ok (.iload_n 1, 1) := by decide +kernel
theorem d_SettingSearch_take_53 : decode b_SettingSearch_take 53 = .ok (.ireturn, 1) := by decide +kernel
theorem d_SettingSearch_kept_0 : decode b_SettingSearch_kept 0 = .ok (.aload_n 0, 1) := by decide +kernel
theorem d_SettingSearch_kept_1 : decode b_SettingSearch_kept 1 = .ok (.getfield 30, 3) := by decide +kernel
theorem d_SettingSearch_kept_4 : decode b_SettingSearch_kept 4 = .ok (.lload_n 1, 1) := by decide +kernel
theorem d_SettingSearch_kept_5 : decode b_SettingSearch_kept 5 = .ok (.invokevirtual 133, 3) := by decide +kernel
theorem d_SettingSearch_kept_8 : decode b_SettingSearch_kept 8 = .ok (.astore_n 3, 1) := by decide +kernel
theorem d_SettingSearch_kept_9 : decode b_SettingSearch_kept 9 = .ok (.aload_n 3, 1) := by decide +kernel
theorem d_SettingSearch_kept_10 : decode b_SettingSearch_kept 10 = .ok (.ifnonnull (7), 3) := by decide +kernel
theorem d_SettingSearch_kept_13 : decode b_SettingSearch_kept 13 = .ok (.iconst 0, 1) := by decide +kernel
theorem d_SettingSearch_kept_14 : decode b_SettingSearch_kept 14 = .ok (.goto (7), 3) := by decide +kernel
theorem d_SettingSearch_kept_17 : decode b_SettingSearch_kept 17 = .ok (.aload_n 3, 1) := by decide +kernel
theorem d_SettingSearch_kept_18 : decode b_SettingSearch_kept 18 = .ok (.getfield 136, 3) := by decide +kernel
theorem d_SettingSearch_kept_21 : decode b_SettingSearch_kept 21 = .ok (.ireturn, 1) := by decide +kernel
theorem d_SettingSearch_clash_0 : decode b_SettingSearch_clash 0 = .ok (.aload_n 0, 1) := by decide +kernel
theorem d_SettingSearch_clash_1 : decode b_SettingSearch_clash 1 = .ok (.getfield 37, 3) := by decide +kernel
theorem d_SettingSearch_clash_4 : decode b_SettingSearch_clash 4 = .ok (.getfield 85, 3) := by decide +kernel
theorem d_SettingSearch_clash_7 : decode b_SettingSearch_clash 7 = .ok (.astore_n 2, 1) := by decide +kernel
theorem d_SettingSearch_clash_8 : decode b_SettingSearch_clash 8 = .ok (.aload_n 0, 1) := by decide +kernel
theorem d_SettingSearch_clash_9 : decode b_SettingSearch_clash 9 = .ok (.getfield 37, 3) := by decide +kernel
theorem d_SettingSearch_clash_12 : decode b_SettingSearch_clash 12 = .ok (.getfield 44, 3) := by decide +kernel
theorem d_SettingSearch_clash_15 : decode b_SettingSearch_clash 15 = .ok (.ifCond .ne (7), 3) := by decide +kernel
theorem d_SettingSearch_clash_18 : decode b_SettingSearch_clash 18 = .ok (.aload_n 2, 1) := by decide +kernel
theorem d_SettingSearch_clash_19 : decode b_SettingSearch_clash 19 = .ok (.ifnonnull (5), 3) := by decide +kernel
theorem d_SettingSearch_clash_22 : decode b_SettingSearch_clash 22 = .ok (.iconst (-1), 1) := by decide +kernel
theorem d_SettingSearch_clash_23 : decode b_SettingSearch_clash 23 = .ok (.ireturn, 1) := by decide +kernel
theorem d_SettingSearch_clash_24 : decode b_SettingSearch_clash 24 = .ok (.aload_n 0, 1) := by decide +kernel
theorem d_SettingSearch_clash_25 : decode b_SettingSearch_clash 25 = .ok (.aload_n 2, 1) := by decide +kernel
theorem d_SettingSearch_clash_26 : decode b_SettingSearch_clash 26 = .ok (.invokevirtual 137, 3) := by decide +kernel
theorem d_SettingSearch_clash_29 : decode b_SettingSearch_clash 29 = .ok (.iload_n 1, 1) := by decide +kernel
theorem d_SettingSearch_clash_30 : decode b_SettingSearch_clash 30 = .ok (.invokestatic 140, 3) := by decide +kernel
theorem d_SettingSearch_clash_33 : decode b_SettingSearch_clash 33 = .ok (.ireturn, 1) := by decide +kernel
theorem d_SettingSearch_room_0 : decode b_SettingSearch_room 0 = .ok (.aload_n 0, 1) := by decide +kernel
theorem d_SettingSearch_room_1 : decode b_SettingSearch_room 1 = .ok (.getfield 37, 3) := by decide +kernel
theorem d_SettingSearch_room_4 : decode b_SettingSearch_room 4 = .ok (.getfield 85, 3) := by decide +kernel
theorem d_SettingSearch_room_7 : decode b_SettingSearch_room 7 = .ok (.astore_n 2, 1) := by decide +kernel
theorem d_SettingSearch_room_8 : decode b_SettingSearch_room 8 = .ok (.aload_n 0, 1) := by decide +kernel
theorem d_SettingSearch_room_9 : decode b_SettingSearch_room 9 = .ok (.getfield 37, 3) := by decide +kernel
theorem d_SettingSearch_room_12 : decode b_SettingSearch_room 12 = .ok (.getfield 44, 3) := by decide +kernel
theorem d_SettingSearch_room_15 : decode b_SettingSearch_room 15 = .ok (.ifCond .ne (18), 3) := by decide +kernel
theorem d_SettingSearch_room_18 : decode b_SettingSearch_room 18 = .ok (.aload_n 2, 1) := by decide +kernel
theorem d_SettingSearch_room_19 : decode b_SettingSearch_room 19 = .ok (.ifnull (14), 3) := by decide +kernel
theorem d_SettingSearch_room_22 : decode b_SettingSearch_room 22 = .ok (.aload_n 0, 1) := by decide +kernel
theorem d_SettingSearch_room_23 : decode b_SettingSearch_room 23 = .ok (.getfield 12, 3) := by decide +kernel
theorem d_SettingSearch_room_26 : decode b_SettingSearch_room 26 = .ok (.iload_n 1, 1) := by decide +kernel
theorem d_SettingSearch_room_27 : decode b_SettingSearch_room 27 = .ok (.invokevirtual 68, 3) := by decide +kernel
theorem d_SettingSearch_room_30 : decode b_SettingSearch_room 30 = .ok (.ifCond .ne (7), 3) := by decide +kernel
theorem d_SettingSearch_room_33 : decode b_SettingSearch_room 33 = .ok (.ldc2_w 145, 3) := by decide +kernel
theorem d_SettingSearch_room_36 : decode b_SettingSearch_room 36 = .ok (.lreturn, 1) := by decide +kernel
theorem d_SettingSearch_room_37 : decode b_SettingSearch_room 37 = .ok (.aload_n 0, 1) := by decide +kernel
theorem d_SettingSearch_room_38 : decode b_SettingSearch_room 38 = .ok (.getfield 19, 3) := by decide +kernel
theorem d_SettingSearch_room_41 : decode b_SettingSearch_room 41 = .ok (.invokevirtual 147, 3) := by decide +kernel
theorem d_SettingSearch_room_44 : decode b_SettingSearch_room 44 = .ok (.istore_n 3, 1) := by decide +kernel
theorem d_SettingSearch_room_45 : decode b_SettingSearch_room 45 = .ok (.aload_n 0, 1) := by decide +kernel
theorem d_SettingSearch_room_46 : decode b_SettingSearch_room 46 = .ok (.aload_n 2, 1) := by decide +kernel
theorem d_SettingSearch_room_47 : decode b_SettingSearch_room 47 = .ok (.iload_n 3, 1) := by decide +kernel
theorem d_SettingSearch_room_48 : decode b_SettingSearch_room 48 = .ok (.invokevirtual 151, 3) := by decide +kernel
theorem d_SettingSearch_room_51 : decode b_SettingSearch_room 51 = .ok (.lstore 4, 2) := by decide +kernel
theorem d_SettingSearch_room_53 : decode b_SettingSearch_room 53 = .ok (.lload 4, 2) := by decide +kernel
theorem d_SettingSearch_room_55 : decode b_SettingSearch_room 55 = .ok (.ldc2_w 145, 3) := by decide +kernel
theorem d_SettingSearch_room_58 : decode b_SettingSearch_room 58 = .ok (.lcmp, 1) := by decide +kernel
theorem d_SettingSearch_room_59 : decode b_SettingSearch_room 59 = .ok (.ifCond .ne (7), 3) := by decide +kernel
theorem d_SettingSearch_room_62 : decode b_SettingSearch_room 62 = .ok (.ldc2_w 145, 3) := by decide +kernel
theorem d_SettingSearch_room_65 : decode b_SettingSearch_room 65 = .ok (.lreturn, 1) := by decide +kernel
theorem d_SettingSearch_room_66 : decode b_SettingSearch_room 66 = .ok (.aload_n 0, 1) := by decide +kernel
theorem d_SettingSearch_room_67 : decode b_SettingSearch_room 67 = .ok (.aload_n 2, 1) := by decide +kernel
theorem d_SettingSearch_room_68 : decode b_SettingSearch_room 68 = .ok (.iload_n 3, 1) := by decide +kernel
theorem d_SettingSearch_room_69 : decode b_SettingSearch_room 69 = .ok (.iconst 1, 1) := by decide +kernel
theorem d_SettingSearch_room_70 : decode b_SettingSearch_room 70 = .ok (.iconst 4, 1) := by decide +kernel
theorem d_SettingSearch_room_71 : decode b_SettingSearch_room 71 = .ok (.iload_n 1, 1) := by decide +kernel
theorem d_SettingSearch_room_72 : decode b_SettingSearch_room 72 = .ok (.iadd, 1) := by decide +kernel
theorem d_SettingSearch_room_73 : decode b_SettingSearch_room 73 = .ok (.ishl, 1) := by decide +kernel
theorem d_SettingSearch_room_74 : decode b_SettingSearch_room 74 = .ok (.iconst (-1), 1) := by decide +kernel
theorem d_SettingSearch_room_75 : decode b_SettingSearch_room 75 = .ok (.ixor, 1) := by decide +kernel
theorem d_SettingSearch_room_76 : decode b_SettingSearch_room 76 = .ok (.iand, 1) := by decide +kernel

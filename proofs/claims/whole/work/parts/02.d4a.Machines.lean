theorem d_Machines_init_0 : decode b_Machines_init 0 = .ok (.aload_n 0, 1) := by decide +kernel
theorem d_Machines_init_1 : decode b_Machines_init 1 = .ok (.invokespecial 3, 3) := by decide +kernel
theorem d_Machines_init_4 : decode b_Machines_init 4 = .ok (.aload_n 0, 1) := by decide +kernel
theorem d_Machines_init_5 : decode b_Machines_init 5 = .ok (.iconst 1, 1) := by decide +kernel
theorem d_Machines_init_6 : decode b_Machines_init 6 = .ok (.putfield 9, 3) := by decide +kernel
theorem d_Machines_init_9 : decode b_Machines_init 9 = .ok (.aload_n 0, 1) := by decide +kernel
theorem d_Machines_init_10 : decode b_Machines_init 10 = .ok (.iconst 5, 1) := by decide +kernel
theorem d_Machines_init_11 : decode b_Machines_init 11 = .ok (.newarray .int, 2) := by decide +kernel
theorem d_Machines_init_13 : decode b_Machines_init 13 = .ok (.putfield 15, 3) := by decide +kernel
theorem d_Machines_init_16 : decode b_Machines_init 16 = .ok (.aload_n 0, 1) := by decide +kernel
theorem d_Machines_init_17 : decode b_Machines_init 17 = .ok (.iconst 5, 1) := by decide +kernel
theorem d_Machines_init_18 : decode b_Machines_init 18 = .ok (.newarray .int, 2) := by decide +kernel
theorem d_Machines_init_20 : decode b_Machines_init 20 = .ok (.putfield 19, 3) := by decide +kernel
theorem d_Machines_init_23 : decode b_Machines_init 23 = .ok (.aload_n 0, 1) := by decide +kernel
theorem d_Machines_init_24 : decode b_Machines_init 24 = .ok (.sipush (320), 3) := by decide +kernel
theorem d_Machines_init_27 : decode b_Machines_init 27 = .ok (.newarray .int, 2) := by decide +kernel
theorem d_Machines_init_29 : decode b_Machines_init 29 = .ok (.putfield 22, 3) := by decide +kernel
theorem d_Machines_init_32 : decode b_Machines_init 32 = .ok (.return_, 1) := by decide +kernel
theorem d_Machines_has_0 : decode b_Machines_has 0 = .ok (.iload_n 1, 1) := by decide +kernel
theorem d_Machines_has_1 : decode b_Machines_has 1 = .ok (.ifCond .lt (15), 3) := by decide +kernel
theorem d_Machines_has_4 : decode b_Machines_has 4 = .ok (.iload_n 1, 1) := by decide +kernel
theorem d_Machines_has_5 : decode b_Machines_has 5 = .ok (.aload_n 0, 1) := by decide +kernel
theorem d_Machines_has_6 : decode b_Machines_has 6 = .ok (.getfield 25, 3) := by decide +kernel
theorem d_Machines_has_9 : decode b_Machines_has 9 = .ok (.if_icmp .ge (7), 3) := by decide +kernel
theorem d_Machines_has_12 : decode b_Machines_has 12 = .ok (.iconst 1, 1) := by decide +kernel
theorem d_Machines_has_13 : decode b_Machines_has 13 = .ok (.goto (4), 3) := by decide +kernel
theorem d_Machines_has_16 : decode b_Machines_has 16 = .ok (.iconst 0, 1) := by decide +kernel
theorem d_Machines_has_17 : decode b_Machines_has 17 = .ok (.ireturn, 1) := by decide +kernel
theorem d_Machines_add_0 : decode b_Machines_add 0 = .ok (.aload_n 0, 1) := by decide +kernel
theorem d_Machines_add_1 : decode b_Machines_add 1 = .ok (.getfield 25, 3) := by decide +kernel
theorem d_Machines_add_4 : decode b_Machines_add 4 = .ok (.iconst 5, 1) := by decide +kernel
theorem d_Machines_add_5 : decode b_Machines_add 5 = .ok (.if_icmp .ge (24), 3) := by decide +kernel
theorem d_Machines_add_8 : decode b_Machines_add 8 = .ok (.iload_n 1, 1) := by decide +kernel
theorem d_Machines_add_9 : decode b_Machines_add 9 = .ok (.iconst 1, 1) := by decide +kernel
theorem d_Machines_add_10 : decode b_Machines_add 10 = .ok (.if_icmp .lt (19), 3) := by decide +kernel
theorem d_Machines_add_13 : decode b_Machines_add 13 = .ok (.iload_n 1, 1) := by decide +kernel
theorem d_Machines_add_14 : decode b_Machines_add 14 = .ok (.iconst 4, 1) := by decide +kernel
theorem d_Machines_add_15 : decode b_Machines_add 15 = .ok (.if_icmp .gt (14), 3) := by decide +kernel
theorem d_Machines_add_18 : decode b_Machines_add 18 = .ok (.aload_n 0, 1) := by decide +kernel
theorem d_Machines_add_19 : decode b_Machines_add 19 = .ok (.getfield 9, 3) := by decide +kernel
theorem d_Machines_add_22 : decode b_Machines_add 22 = .ok (.iload_n 1, 1) := by decide +kernel
theorem d_Machines_add_23 : decode b_Machines_add 23 = .ok (.imul, 1) := by decide +kernel
theorem d_Machines_add_24 : decode b_Machines_add 24 = .ok (.bipush (64), 2) := by decide +kernel
theorem d_Machines_add_26 : decode b_Machines_add 26 = .ok (.if_icmp .le (5), 3) := by decide +kernel
theorem d_Machines_add_29 : decode b_Machines_add 29 = .ok (.iconst 0, 1) := by decide +kernel
theorem d_Machines_add_30 : decode b_Machines_add 30 = .ok (.ireturn, 1) := by decide +kernel
theorem d_Machines_add_31 : decode b_Machines_add 31 = .ok (.aload_n 0, 1) := by decide +kernel
theorem d_Machines_add_32 : decode b_Machines_add 32 = .ok (.getfield 15, 3) := by decide +kernel
theorem d_Machines_add_35 : decode b_Machines_add 35 = .ok (.aload_n 0, 1) := by decide +kernel
theorem d_Machines_add_36 : decode b_Machines_add 36 = .ok (.getfield 25, 3) := by decide +kernel
theorem d_Machines_add_39 : decode b_Machines_add 39 = .ok (.iload_n 1, 1) := by decide +kernel
theorem d_Machines_add_40 : decode b_Machines_add 40 = .ok (.iastore, 1) := by decide +kernel
theorem d_Machines_add_41 : decode b_Machines_add 41 = .ok (.aload_n 0, 1) := by decide +kernel
theorem d_Machines_add_42 : decode b_Machines_add 42 = .ok (.getfield 19, 3) := by decide +kernel
theorem d_Machines_add_45 : decode b_Machines_add 45 = .ok (.aload_n 0, 1) := by decide +kernel
theorem d_Machines_add_46 : decode b_Machines_add 46 = .ok (.getfield 25, 3) := by decide +kernel
theorem d_Machines_add_49 : decode b_Machines_add 49 = .ok (.iconst 0, 1) := by decide +kernel
theorem d_Machines_add_50 : decode b_Machines_add 50 = .ok (.iastore, 1) := by decide +kernel
theorem d_Machines_add_51 : decode b_Machines_add 51 = .ok (.aload_n 0, 1) := by decide +kernel
theorem d_Machines_add_52 : decode b_Machines_add 52 = .ok (.dup, 1) := by decide +kernel
theorem d_Machines_add_53 : decode b_Machines_add 53 = .ok (.getfield 25, 3) := by decide +kernel
theorem d_Machines_add_56 : decode b_Machines_add 56 = .ok (.iconst 1, 1) := by decide +kernel
theorem d_Machines_add_57 : decode b_Machines_add 57 = .ok (.iadd, 1) := by decide +kernel
theorem d_Machines_add_58 : decode b_Machines_add 58 = .ok (.putfield 25, 3) := by decide +kernel
theorem d_Machines_add_61 : decode b_Machines_add 61 = .ok (.aload_n 0, 1) := by decide +kernel
theorem d_Machines_add_62 : decode b_Machines_add 62 = .ok (.dup, 1) := by decide +kernel
theorem d_Machines_add_63 : decode b_Machines_add 63 = .ok (.getfield 9, 3) := by decide +kernel
theorem d_Machines_add_66 : decode b_Machines_add 66 = .ok (.iload_n 1, 1) := by decide +kernel
theorem d_Machines_add_67 : decode b_Machines_add 67 = .ok (.imul, 1) := by decide +kernel
theorem d_Machines_add_68 : decode b_Machines_add 68 = .ok (.putfield 9, 3) := by decide +kernel
theorem d_Machines_add_71 : decode b_Machines_add 71 = .ok (.aload_n 0, 1) := by decide +kernel
theorem d_Machines_add_72 : decode b_Machines_add 72 = .ok (.invokevirtual 28, 3) := by decide +kernel
theorem d_Machines_add_75 : decode b_Machines_add 75 = .ok (.iconst 1, 1) := by decide +kernel
theorem d_Machines_add_76 : decode b_Machines_add 76 = .ok (.ireturn, 1) := by decide +kernel
theorem d_Machines_fillTable_0 : decode b_Machines_fillTable 0 = .ok (.iconst 1, 1) := by decide +kernel
theorem d_Machines_fillTable_1 : decode b_Machines_fillTable 1 = .ok (.istore_n 1, 1) := by decide +kernel
theorem d_Machines_fillTable_2 : decode b_Machines_fillTable 2 = .ok (.iload_n 1, 1) := by decide +kernel
theorem d_Machines_fillTable_3 : decode b_Machines_fillTable 3 = .ok (.aload_n 0, 1) := by decide +kernel
theorem d_Machines_fillTable_4 : decode b_Machines_fillTable 4 = .ok (.getfield 9, 3) := by decide +kernel
theorem d_Machines_fillTable_7 : decode b_Machines_fillTable 7 = .ok (.if_icmp .ge (82), 3) := by decide +kernel
theorem d_Machines_fillTable_10 : decode b_Machines_fillTable 10 = .ok (.iconst 1, 1) := by decide +kernel
theorem d_Machines_fillTable_11 : decode b_Machines_fillTable 11 = .ok (.istore_n 2, 1) := by decide +kernel
theorem d_Machines_fillTable_12 : decode b_Machines_fillTable 12 = .ok (.aload_n 0, 1) := by decide +kernel
theorem d_Machines_fillTable_13 : decode b_Machines_fillTable 13 = .ok (.getfield 25, 3) := by decide +kernel
theorem d_Machines_fillTable_16 : decode b_Machines_fillTable 16 = .ok (.iconst 1, 1) := by decide +kernel
theorem d_Machines_fillTable_17 : decode b_Machines_fillTable 17 = .ok (.isub, 1) := by decide +kernel
theorem d_Machines_fillTable_18 : decode b_Machines_fillTable 18 = .ok (.istore_n 3, 1) := by decide +kernel
theorem d_Machines_fillTable_19 : decode b_Machines_fillTable 19 = .ok (.iload_n 3, 1) := by decide +kernel
theorem d_Machines_fillTable_20 : decode b_Machines_fillTable 20 = .ok (.ifCond .lt (63), 3) := by decide +kernel
theorem d_Machines_fillTable_23 : decode b_Machines_fillTable 23 = .ok (.aload_n 0, 1) := by decide +kernel
theorem d_Machines_fillTable_24 : decode b_Machines_fillTable 24 = .ok (.getfield 22, 3) := by decide +kernel
theorem d_Machines_fillTable_27 : decode b_Machines_fillTable 27 = .ok (.iload_n 1, 1) := by decide +kernel
theorem d_Machines_fillTable_28 : decode b_Machines_fillTable 28 = .ok (.iconst 1, 1) := by decide +kernel
theorem d_Machines_fillTable_29 : decode b_Machines_fillTable 29 = .ok (.isub, 1) := by decide +kernel
theorem d_Machines_fillTable_30 : decode b_Machines_fillTable 30 = .ok (.iconst 5, 1) := by decide +kernel
theorem d_Machines_fillTable_31 : decode b_Machines_fillTable 31 = .ok (.imul, 1) := by decide +kernel
theorem d_Machines_fillTable_32 : decode b_Machines_fillTable 32 = .ok (.iload_n 3, 1) := by decide +kernel
theorem d_Machines_fillTable_33 : decode b_Machines_fillTable 33 = .ok (.iadd, 1) := by decide +kernel
theorem d_Machines_fillTable_34 : decode b_Machines_fillTable 34 = .ok (.iaload, 1) := by decide +kernel
theorem d_Machines_fillTable_35 : decode b_Machines_fillTable 35 = .ok (.iload_n 2, 1) := by decide +kernel
theorem d_Machines_fillTable_36 : decode b_Machines_fillTable 36 = .ok (.iadd, 1) := by decide +kernel
theorem d_Machines_fillTable_37 : decode b_Machines_fillTable 37 = .ok (.istore 4, 2) := by decide +kernel
theorem d_Machines_fillTable_39 : decode b_Machines_fillTable 39 = .ok (.iload 4, 2) := by decide +kernel
theorem d_Machines_fillTable_41 : decode b_Machines_fillTable 41 = .ok (.aload_n 0, 1) := by decide +kernel
theorem d_Machines_fillTable_42 : decode b_Machines_fillTable 42 = .ok (.getfield 15, 3) := by decide +kernel
theorem d_Machines_fillTable_45 : decode b_Machines_fillTable 45 = .ok (.iload_n 3, 1) := by decide +kernel
theorem d_Machines_fillTable_46 : decode b_Machines_fillTable 46 = .ok (.iaload, 1) := by decide +kernel
theorem d_Machines_fillTable_47 : decode b_Machines_fillTable 47 = .ok (.if_icmp .ne (7), 3) := by decide +kernel
theorem d_Machines_fillTable_50 : decode b_Machines_fillTable 50 = .ok (.iconst 1, 1) := by decide +kernel
theorem d_Machines_fillTable_51 : decode b_Machines_fillTable 51 = .ok (.goto (4), 3) := by decide +kernel
theorem d_Machines_fillTable_54 : decode b_Machines_fillTable 54 = .ok (.iconst 0, 1) := by decide +kernel
theorem d_Machines_fillTable_55 : decode b_Machines_fillTable 55 = .ok (.istore_n 2, 1) := by decide +kernel
theorem d_Machines_fillTable_56 : decode b_Machines_fillTable 56 = .ok (.aload_n 0, 1) := by decide +kernel
theorem d_Machines_fillTable_57 : decode b_Machines_fillTable 57 = .ok (.getfield 22, 3) := by decide +kernel
theorem d_Machines_fillTable_60 : decode b_Machines_fillTable 60 = .ok (.iload_n 1, 1) := by decide +kernel
theorem d_Machines_fillTable_61 : decode b_Machines_fillTable 61 = .ok (.iconst 5, 1) := by decide +kernel
theorem d_Machines_fillTable_62 : decode b_Machines_fillTable 62 = .ok (.imul, 1) := by decide +kernel
theorem d_Machines_fillTable_63 : decode b_Machines_fillTable 63 = .ok (.iload_n 3, 1) := by decide +kernel
theorem d_Machines_fillTable_64 : decode b_Machines_fillTable 64 = .ok (.iadd, 1) := by decide +kernel
theorem d_Machines_fillTable_65 : decode b_Machines_fillTable 65 = .ok (.iload_n 2, 1) := by decide +kernel
theorem d_Machines_fillTable_66 : decode b_Machines_fillTable 66 = .ok (.iconst 1, 1) := by decide +kernel
theorem d_Machines_fillTable_67 : decode b_Machines_fillTable 67 = .ok (.if_icmp .ne (7), 3) := by decide +kernel
theorem d_Machines_fillTable_70 : decode b_Machines_fillTable 70 = .ok (.iconst 0, 1) := by decide +kernel
theorem d_Machines_fillTable_71 : decode b_Machines_fillTable 71 = .ok (.goto (5), 3) := by decide +kernel
theorem d_Machines_fillTable_74 : decode b_Machines_fillTable 74 = .ok (.iload 4, 2) := by decide +kernel
theorem d_Machines_fillTable_76 : decode b_Machines_fillTable 76 = .ok (.iastore, 1) := by decide +kernel
theorem d_Machines_fillTable_77 : decode b_Machines_fillTable 77 = .ok (.iinc 3 (-1), 3) := by decide +kernel
theorem d_Machines_fillTable_80 : decode b_Machines_fillTable 80 = .ok (.goto (-61), 3) := by decide +kernel
theorem d_Machines_fillTable_83 : decode b_Machines_fillTable 83 = .ok (.iinc 1 (1), 3) := by decide +kernel
theorem d_Machines_fillTable_86 : decode b_Machines_fillTable 86 = .ok (.goto (-84), 3) := by decide +kernel
theorem d_Machines_fillTable_89 : decode b_Machines_fillTable 89 = .ok (.return_, 1) := by decide +kernel
theorem d_Machines_settingIn_0 : decode b_Machines_settingIn 0 = .ok (.iload_n 1, 1) := by decide +kernel
theorem d_Machines_settingIn_1 : decode b_Machines_settingIn 1 = .ok (.ifCond .lt (19), 3) := by decide +kernel
theorem d_Machines_settingIn_4 : decode b_Machines_settingIn 4 = .ok (.iload_n 1, 1) := by decide +kernel
theorem d_Machines_settingIn_5 : decode b_Machines_settingIn 5 = .ok (.aload_n 0, 1) := by decide +kernel
theorem d_Machines_settingIn_6 : decode b_Machines_settingIn 6 = .ok (.getfield 9, 3) := by decide +kernel
theorem d_Machines_settingIn_9 : decode b_Machines_settingIn 9 = .ok (.if_icmp .ge (11), 3) := by decide +kernel
theorem d_Machines_settingIn_12 : decode b_Machines_settingIn 12 = .ok (.aload_n 0, 1) := by decide +kernel
theorem d_Machines_settingIn_13 : decode b_Machines_settingIn 13 = .ok (.iload_n 2, 1) := by decide +kernel
theorem d_Machines_settingIn_14 : decode b_Machines_settingIn 14 = .ok (.invokevirtual 31, 3) := by decide +kernel
theorem d_Machines_settingIn_17 : decode b_Machines_settingIn 17 = .ok (.ifCond .ne (5), 3) := by decide +kernel
theorem d_Machines_settingIn_20 : decode b_Machines_settingIn 20 = .ok (.iconst (-1), 1) := by decide +kernel
theorem d_Machines_settingIn_21 : decode b_Machines_settingIn 21 = .ok (.ireturn, 1) := by decide +kernel
theorem d_Machines_settingIn_22 : decode b_Machines_settingIn 22 = .ok (.aload_n 0, 1) := by decide +kernel
theorem d_Machines_settingIn_23 : decode b_Machines_settingIn 23 = .ok (.getfield 22, 3) := by decide +kernel
theorem d_Machines_settingIn_26 : decode b_Machines_settingIn 26 = .ok (.iload_n 1, 1) := by decide +kernel
theorem d_Machines_settingIn_27 : decode b_Machines_settingIn 27 = .ok (.iconst 5, 1) := by decide +kernel
theorem d_Machines_settingIn_28 : decode b_Machines_settingIn 28 = .ok (.imul, 1) := by decide +kernel
theorem d_Machines_settingIn_29 : decode b_Machines_settingIn 29 = .ok (.iload_n 2, 1) := by decide +kernel
theorem d_Machines_settingIn_30 : decode b_Machines_settingIn 30 = .ok (.iadd, 1) := by decide +kernel
theorem d_Machines_settingIn_31 : decode b_Machines_settingIn 31 = .ok (.iaload, 1) := by decide +kernel
theorem d_Machines_settingIn_32 : decode b_Machines_settingIn 32 = .ok (.ireturn, 1) := by decide +kernel
theorem d_Machines_changesOf_0 : decode b_Machines_changesOf 0 = .ok (.iconst 0, 1) := by decide +kernel
theorem d_Machines_changesOf_1 : decode b_Machines_changesOf 1 = .ok (.istore_n 2, 1) := by decide +kernel
theorem d_Machines_changesOf_2 : decode b_Machines_changesOf 2 = .ok (.iconst 0, 1) := by decide +kernel
theorem d_Machines_changesOf_3 : decode b_Machines_changesOf 3 = .ok (.istore_n 3, 1) := by decide +kernel
theorem d_Machines_changesOf_4 : decode b_Machines_changesOf 4 = .ok (.iload_n 3, 1) := by decide +kernel
theorem d_Machines_changesOf_5 : decode b_Machines_changesOf 5 = .ok (.aload_n 0, 1) := by decide +kernel
theorem d_Machines_changesOf_6 : decode b_Machines_changesOf 6 = .ok (.getfield 25, 3) := by decide +kernel
theorem d_Machines_changesOf_9 : decode b_Machines_changesOf 9 = .ok (.if_icmp .ge (27), 3) := by decide +kernel
theorem d_Machines_changesOf_12 : decode b_Machines_changesOf 12 = .ok (.aload_n 0, 1) := by decide +kernel
theorem d_Machines_changesOf_13 : decode b_Machines_changesOf 13 = .ok (.iload_n 1, 1) := by decide +kernel
theorem d_Machines_changesOf_14 : decode b_Machines_changesOf 14 = .ok (.iload_n 3, 1) := by decide +kernel
theorem d_Machines_changesOf_15 : decode b_Machines_changesOf 15 = .ok (.invokevirtual 35, 3) := by decide +kernel
theorem d_Machines_changesOf_18 : decode b_Machines_changesOf 18 = .ok (.aload_n 0, 1) := by decide +kernel
theorem d_Machines_changesOf_19 : decode b_Machines_changesOf 19 = .ok (.getfield 19, 3) := by decide +kernel
theorem d_Machines_changesOf_22 : decode b_Machines_changesOf 22 = .ok (.iload_n 3, 1) := by decide +kernel
theorem d_Machines_changesOf_23 : decode b_Machines_changesOf 23 = .ok (.iaload, 1) := by decide +kernel
theorem d_Machines_changesOf_24 : decode b_Machines_changesOf 24 = .ok (.if_icmp .eq (6), 3) := by decide +kernel
theorem d_Machines_changesOf_27 : decode b_Machines_changesOf 27 = .ok (.iinc 2 (1), 3) := by decide +kernel
theorem d_Machines_changesOf_30 : decode b_Machines_changesOf 30 = .ok (.iinc 3 (1), 3) := by decide +kernel
theorem d_Machines_changesOf_33 : decode b_Machines_changesOf 33 = .ok (.goto (-29), 3) := by decide +kernel
theorem d_Machines_changesOf_36 : decode b_Machines_changesOf 36 = .ok (.iload_n 2, 1) := by decide +kernel
theorem d_Machines_changesOf_37 : decode b_Machines_changesOf 37 = .ok (.ireturn, 1) := by decide +kernel
theorem d_Machines_become_0 : decode b_Machines_become 0 = .ok (.iconst 0, 1) := by decide +kernel
theorem d_Machines_become_1 : decode b_Machines_become 1 = .ok (.istore_n 2, 1) := by decide +kernel
theorem d_Machines_become_2 : decode b_Machines_become 2 = .ok (.iload_n 2, 1) := by decide +kernel
theorem d_Machines_become_3 : decode b_Machines_become 3 = .ok (.aload_n 0, 1) := by decide +kernel
theorem d_Machines_become_4 : decode b_Machines_become 4 = .ok (.getfield 25, 3) := by decide +kernel
theorem d_Machines_become_7 : decode b_Machines_become 7 = .ok (.if_icmp .ge (21), 3) := by decide +kernel
theorem d_Machines_become_10 : decode b_Machines_become 10 = .ok (.aload_n 0, 1) := by decide +kernel
theorem d_Machines_become_11 : decode b_Machines_become 11 = .ok (.getfield 19, 3) := by decide +kernel
theorem d_Machines_become_14 : decode b_Machines_become 14 = .ok (.iload_n 2, 1) := by decide +kernel
theorem d_Machines_become_15 : decode b_Machines_become 15 = .ok (.aload_n 0, 1) := by decide +kernel
theorem d_Machines_become_16 : decode b_Machines_become 16 = .ok (.iload_n 1, 1) := by decide +kernel
theorem d_Machines_become_17 : decode b_Machines_become 17 = .ok (.iload_n 2, 1) := by decide +kernel
theorem d_Machines_become_18 : decode b_Machines_become 18 = .ok (.invokevirtual 35, 3) := by decide +kernel
theorem d_Machines_become_21 : decode b_Machines_become 21 = .ok (.iastore, 1) := by decide +kernel
theorem d_Machines_become_22 : decode b_Machines_become 22 = .ok (.iinc 2 (1), 3) := by decide +kernel
theorem d_Machines_become_25 : decode b_Machines_become 25 = .ok (.goto (-23), 3) := by decide +kernel
theorem d_Machines_become_28 : decode b_Machines_become 28 = .ok (.return_, 1) := by decide +kernel

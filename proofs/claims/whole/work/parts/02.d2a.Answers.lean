theorem d_Answers_init_0 : decode b_Answers_init 0 = .ok (.aload_n 0, 1) := by decide +kernel
theorem d_Answers_init_1 : decode b_Answers_init 1 = .ok (.invokespecial 3, 3) := by decide +kernel
theorem d_Answers_init_4 : decode b_Answers_init 4 = .ok (.aload_n 0, 1) := by decide +kernel
theorem d_Answers_init_5 : decode b_Answers_init 5 = .ok (.bipush (64), 2) := by decide +kernel
theorem d_Answers_init_7 : decode b_Answers_init 7 = .ok (.newarray .boolean, 2) := by decide +kernel
theorem d_Answers_init_9 : decode b_Answers_init 9 = .ok (.putfield 9, 3) := by decide +kernel
theorem d_Answers_init_12 : decode b_Answers_init 12 = .ok (.aload_n 0, 1) := by decide +kernel
theorem d_Answers_init_13 : decode b_Answers_init 13 = .ok (.sipush (576), 3) := by decide +kernel
theorem d_Answers_init_16 : decode b_Answers_init 16 = .ok (.newarray .int, 2) := by decide +kernel
theorem d_Answers_init_18 : decode b_Answers_init 18 = .ok (.putfield 15, 3) := by decide +kernel
theorem d_Answers_init_21 : decode b_Answers_init 21 = .ok (.aload_n 0, 1) := by decide +kernel
theorem d_Answers_init_22 : decode b_Answers_init 22 = .ok (.sipush (320), 3) := by decide +kernel
theorem d_Answers_init_25 : decode b_Answers_init 25 = .ok (.newarray .int, 2) := by decide +kernel
theorem d_Answers_init_27 : decode b_Answers_init 27 = .ok (.putfield 19, 3) := by decide +kernel
theorem d_Answers_init_30 : decode b_Answers_init 30 = .ok (.return_, 1) := by decide +kernel
theorem d_Answers_open_0 : decode b_Answers_open 0 = .ok (.aload_n 0, 1) := by decide +kernel
theorem d_Answers_open_1 : decode b_Answers_open 1 = .ok (.lload_n 1, 1) := by decide +kernel
theorem d_Answers_open_2 : decode b_Answers_open 2 = .ok (.putfield 22, 3) := by decide +kernel
theorem d_Answers_open_5 : decode b_Answers_open 5 = .ok (.aload_n 0, 1) := by decide +kernel
theorem d_Answers_open_6 : decode b_Answers_open 6 = .ok (.iconst 0, 1) := by decide +kernel
theorem d_Answers_open_7 : decode b_Answers_open 7 = .ok (.putfield 26, 3) := by decide +kernel
theorem d_Answers_open_10 : decode b_Answers_open 10 = .ok (.iconst 0, 1) := by decide +kernel
theorem d_Answers_open_11 : decode b_Answers_open 11 = .ok (.istore_n 3, 1) := by decide +kernel
theorem d_Answers_open_12 : decode b_Answers_open 12 = .ok (.iload_n 3, 1) := by decide +kernel
theorem d_Answers_open_13 : decode b_Answers_open 13 = .ok (.bipush (64), 2) := by decide +kernel
theorem d_Answers_open_15 : decode b_Answers_open 15 = .ok (.if_icmp .ge (16), 3) := by decide +kernel
theorem d_Answers_open_18 : decode b_Answers_open 18 = .ok (.aload_n 0, 1) := by decide +kernel
theorem d_Answers_open_19 : decode b_Answers_open 19 = .ok (.getfield 9, 3) := by decide +kernel
theorem d_Answers_open_22 : decode b_Answers_open 22 = .ok (.iload_n 3, 1) := by decide +kernel
theorem d_Answers_open_23 : decode b_Answers_open 23 = .ok (.iconst 0, 1) := by decide +kernel
theorem d_Answers_open_24 : decode b_Answers_open 24 = .ok (.bastore, 1) := by decide +kernel
theorem d_Answers_open_25 : decode b_Answers_open 25 = .ok (.iinc 3 (1), 3) := by decide +kernel
theorem d_Answers_open_28 : decode b_Answers_open 28 = .ok (.goto (-16), 3) := by decide +kernel
theorem d_Answers_open_31 : decode b_Answers_open 31 = .ok (.return_, 1) := by decide +kernel
theorem d_Answers_clearRow_0 : decode b_Answers_clearRow 0 = .ok (.iload_n 1, 1) := by decide +kernel
theorem d_Answers_clearRow_1 : decode b_Answers_clearRow 1 = .ok (.invokestatic 30, 3) := by decide +kernel
theorem d_Answers_clearRow_4 : decode b_Answers_clearRow 4 = .ok (.ifCond .ne (4), 3) := by decide +kernel
theorem d_Answers_clearRow_7 : decode b_Answers_clearRow 7 = .ok (.return_, 1) := by decide +kernel
theorem d_Answers_clearRow_8 : decode b_Answers_clearRow 8 = .ok (.iconst 0, 1) := by decide +kernel
theorem d_Answers_clearRow_9 : decode b_Answers_clearRow 9 = .ok (.istore_n 2, 1) := by decide +kernel
theorem d_Answers_clearRow_10 : decode b_Answers_clearRow 10 = .ok (.iload_n 2, 1) := by decide +kernel
theorem d_Answers_clearRow_11 : decode b_Answers_clearRow 11 = .ok (.bipush (9), 2) := by decide +kernel
theorem d_Answers_clearRow_13 : decode b_Answers_clearRow 13 = .ok (.if_icmp .ge (21), 3) := by decide +kernel
theorem d_Answers_clearRow_16 : decode b_Answers_clearRow 16 = .ok (.aload_n 0, 1) := by decide +kernel
theorem d_Answers_clearRow_17 : decode b_Answers_clearRow 17 = .ok (.getfield 15, 3) := by decide +kernel
theorem d_Answers_clearRow_20 : decode b_Answers_clearRow 20 = .ok (.iload_n 1, 1) := by decide +kernel
theorem d_Answers_clearRow_21 : decode b_Answers_clearRow 21 = .ok (.bipush (9), 2) := by decide +kernel
theorem d_Answers_clearRow_23 : decode b_Answers_clearRow 23 = .ok (.imul, 1) := by decide +kernel
theorem d_Answers_clearRow_24 : decode b_Answers_clearRow 24 = .ok (.iload_n 2, 1) := by decide +kernel
theorem d_Answers_clearRow_25 : decode b_Answers_clearRow 25 = .ok (.iadd, 1) := by decide +kernel
theorem d_Answers_clearRow_26 : decode b_Answers_clearRow 26 = .ok (.iconst 0, 1) := by decide +kernel
theorem d_Answers_clearRow_27 : decode b_Answers_clearRow 27 = .ok (.iastore, 1) := by decide +kernel
theorem d_Answers_clearRow_28 : decode b_Answers_clearRow 28 = .ok (.iinc 2 (1), 3) := by decide +kernel
theorem d_Answers_clearRow_31 : decode b_Answers_clearRow 31 = .ok (.goto (-21), 3) := by decide +kernel
theorem d_Answers_clearRow_34 : decode b_Answers_clearRow 34 = .ok (.iconst 0, 1) := by decide +kernel
theorem d_Answers_clearRow_35 : decode b_Answers_clearRow 35 = .ok (.istore_n 2, 1) := by decide +kernel
theorem d_Answers_clearRow_36 : decode b_Answers_clearRow 36 = .ok (.iload_n 2, 1) := by decide +kernel
theorem d_Answers_clearRow_37 : decode b_Answers_clearRow 37 = .ok (.iconst 5, 1) := by decide +kernel
theorem d_Answers_clearRow_38 : decode b_Answers_clearRow 38 = .ok (.if_icmp .ge (20), 3) := by decide +kernel
theorem d_Answers_clearRow_41 : decode b_Answers_clearRow 41 = .ok (.aload_n 0, 1) := by decide +kernel
theorem d_Answers_clearRow_42 : decode b_Answers_clearRow 42 = .ok (.getfield 19, 3) := by decide +kernel
theorem d_Answers_clearRow_45 : decode b_Answers_clearRow 45 = .ok (.iload_n 1, 1) := by decide +kernel
theorem d_Answers_clearRow_46 : decode b_Answers_clearRow 46 = .ok (.iconst 5, 1) := by decide +kernel
theorem d_Answers_clearRow_47 : decode b_Answers_clearRow 47 = .ok (.imul, 1) := by decide +kernel
theorem d_Answers_clearRow_48 : decode b_Answers_clearRow 48 = .ok (.iload_n 2, 1) := by decide +kernel
theorem d_Answers_clearRow_49 : decode b_Answers_clearRow 49 = .ok (.iadd, 1) := by decide +kernel
theorem d_Answers_clearRow_50 : decode b_Answers_clearRow 50 = .ok (.iconst 0, 1) := by decide +kernel
theorem d_Answers_clearRow_51 : decode b_Answers_clearRow 51 = .ok (.iastore, 1) := by decide +kernel
theorem d_Answers_clearRow_52 : decode b_Answers_clearRow 52 = .ok (.iinc 2 (1), 3) := by decide +kernel
theorem d_Answers_clearRow_55 : decode b_Answers_clearRow 55 = .ok (.goto (-19), 3) := by decide +kernel
theorem d_Answers_clearRow_58 : decode b_Answers_clearRow 58 = .ok (.return_, 1) := by decide +kernel
theorem d_Answers_knows_0 : decode b_Answers_knows 0 = .ok (.iload_n 1, 1) := by decide +kernel
theorem d_Answers_knows_1 : decode b_Answers_knows 1 = .ok (.invokestatic 30, 3) := by decide +kernel
theorem d_Answers_knows_4 : decode b_Answers_knows 4 = .ok (.ifCond .eq (16), 3) := by decide +kernel
theorem d_Answers_knows_7 : decode b_Answers_knows 7 = .ok (.aload_n 0, 1) := by decide +kernel
theorem d_Answers_knows_8 : decode b_Answers_knows 8 = .ok (.getfield 9, 3) := by decide +kernel
theorem d_Answers_knows_11 : decode b_Answers_knows 11 = .ok (.iload_n 1, 1) := by decide +kernel
theorem d_Answers_knows_12 : decode b_Answers_knows 12 = .ok (.baload, 1) := by decide +kernel
theorem d_Answers_knows_13 : decode b_Answers_knows 13 = .ok (.ifCond .eq (7), 3) := by decide +kernel
theorem d_Answers_knows_16 : decode b_Answers_knows 16 = .ok (.iconst 1, 1) := by decide +kernel
theorem d_Answers_knows_17 : decode b_Answers_knows 17 = .ok (.goto (4), 3) := by decide +kernel
theorem d_Answers_knows_20 : decode b_Answers_knows 20 = .ok (.iconst 0, 1) := by decide +kernel
theorem d_Answers_knows_21 : decode b_Answers_knows 21 = .ok (.ireturn, 1) := by decide +kernel
theorem d_Answers_keep_0 : decode b_Answers_keep 0 = .ok (.iload_n 1, 1) := by decide +kernel
theorem d_Answers_keep_1 : decode b_Answers_keep 1 = .ok (.invokestatic 30, 3) := by decide +kernel
theorem d_Answers_keep_4 : decode b_Answers_keep 4 = .ok (.ifCond .eq (29), 3) := by decide +kernel
theorem d_Answers_keep_7 : decode b_Answers_keep 7 = .ok (.aload_n 0, 1) := by decide +kernel
theorem d_Answers_keep_8 : decode b_Answers_keep 8 = .ok (.getfield 9, 3) := by decide +kernel
theorem d_Answers_keep_11 : decode b_Answers_keep 11 = .ok (.iload_n 1, 1) := by decide +kernel
theorem d_Answers_keep_12 : decode b_Answers_keep 12 = .ok (.baload, 1) := by decide +kernel
theorem d_Answers_keep_13 : decode b_Answers_keep 13 = .ok (.ifCond .ne (20), 3) := by decide +kernel
theorem d_Answers_keep_16 : decode b_Answers_keep 16 = .ok (.aload_n 0, 1) := by decide +kernel
theorem d_Answers_keep_17 : decode b_Answers_keep 17 = .ok (.getfield 9, 3) := by decide +kernel
theorem d_Answers_keep_20 : decode b_Answers_keep 20 = .ok (.iload_n 1, 1) := by decide +kernel
theorem d_Answers_keep_21 : decode b_Answers_keep 21 = .ok (.iconst 1, 1) := by decide +kernel
theorem d_Answers_keep_22 : decode b_Answers_keep 22 = .ok (.bastore, 1) := by decide +kernel
theorem d_Answers_keep_23 : decode b_Answers_keep 23 = .ok (.aload_n 0, 1) := by decide +kernel
theorem d_Answers_keep_24 : decode b_Answers_keep 24 = .ok (.dup, 1) := by decide +kernel
theorem d_Answers_keep_25 : decode b_Answers_keep 25 = .ok (.getfield 26, 3) := by decide +kernel
theorem d_Answers_keep_28 : decode b_Answers_keep 28 = .ok (.iconst 1, 1) := by decide +kernel
theorem d_Answers_keep_29 : decode b_Answers_keep 29 = .ok (.iadd, 1) := by decide +kernel
theorem d_Answers_keep_30 : decode b_Answers_keep 30 = .ok (.putfield 26, 3) := by decide +kernel
theorem d_Answers_keep_33 : decode b_Answers_keep 33 = .ok (.return_, 1) := by decide +kernel
theorem d_Answers_tellGrams_0 : decode b_Answers_tellGrams 0 = .ok (.iload_n 1, 1) := by decide +kernel
theorem d_Answers_tellGrams_1 : decode b_Answers_tellGrams 1 = .ok (.invokestatic 30, 3) := by decide +kernel
theorem d_Answers_tellGrams_4 : decode b_Answers_tellGrams 4 = .ok (.ifCond .eq (28), 3) := by decide +kernel
theorem d_Answers_tellGrams_7 : decode b_Answers_tellGrams 7 = .ok (.iload_n 2, 1) := by decide +kernel
theorem d_Answers_tellGrams_8 : decode b_Answers_tellGrams 8 = .ok (.ifCond .lt (24), 3) := by decide +kernel
theorem d_Answers_tellGrams_11 : decode b_Answers_tellGrams 11 = .ok (.iload_n 2, 1) := by decide +kernel
theorem d_Answers_tellGrams_12 : decode b_Answers_tellGrams 12 = .ok (.bipush (9), 2) := by decide +kernel
theorem d_Answers_tellGrams_14 : decode b_Answers_tellGrams 14 = .ok (.if_icmp .ge (18), 3) := by decide +kernel
theorem d_Answers_tellGrams_17 : decode b_Answers_tellGrams 17 = .ok (.lload_n 3, 1) := by decide +kernel
theorem d_Answers_tellGrams_18 : decode b_Answers_tellGrams 18 = .ok (.lconst 0, 1) := by decide +kernel
theorem d_Answers_tellGrams_19 : decode b_Answers_tellGrams 19 = .ok (.lcmp, 1) := by decide +kernel
theorem d_Answers_tellGrams_20 : decode b_Answers_tellGrams 20 = .ok (.ifCond .lt (12), 3) := by decide +kernel
theorem d_Answers_tellGrams_23 : decode b_Answers_tellGrams 23 = .ok (.lload_n 3, 1) := by decide +kernel
theorem d_Answers_tellGrams_24 : decode b_Answers_tellGrams 24 = .ok (.aload_n 0, 1) := by decide +kernel
theorem d_Answers_tellGrams_25 : decode b_Answers_tellGrams 25 = .ok (.getfield 22, 3) := by decide +kernel
theorem d_Answers_tellGrams_28 : decode b_Answers_tellGrams 28 = .ok (.lcmp, 1) := by decide +kernel
theorem d_Answers_tellGrams_29 : decode b_Answers_tellGrams 29 = .ok (.ifCond .le (5), 3) := by decide +kernel
theorem d_Answers_tellGrams_32 : decode b_Answers_tellGrams 32 = .ok (.iconst 0, 1) := by decide +kernel
theorem d_Answers_tellGrams_33 : decode b_Answers_tellGrams 33 = .ok (.ireturn, 1) := by decide +kernel
theorem d_Answers_tellGrams_34 : decode b_Answers_tellGrams 34 = .ok (.lconst 0, 1) := by decide +kernel
theorem d_Answers_tellGrams_35 : decode b_Answers_tellGrams 35 = .ok (.lstore 5, 2) := by decide +kernel
theorem d_Answers_tellGrams_37 : decode b_Answers_tellGrams 37 = .ok (.iconst 0, 1) := by decide +kernel
theorem d_Answers_tellGrams_38 : decode b_Answers_tellGrams 38 = .ok (.istore 7, 2) := by decide +kernel
theorem d_Answers_tellGrams_40 : decode b_Answers_tellGrams 40 = .ok (.iload 7, 2) := by decide +kernel
theorem d_Answers_tellGrams_42 : decode b_Answers_tellGrams 42 = .ok (.bipush (9), 2) := by decide +kernel
theorem d_Answers_tellGrams_44 : decode b_Answers_tellGrams 44 = .ok (.if_icmp .ge (33), 3) := by decide +kernel
theorem d_Answers_tellGrams_47 : decode b_Answers_tellGrams 47 = .ok (.iload 7, 2) := by decide +kernel
theorem d_Answers_tellGrams_49 : decode b_Answers_tellGrams 49 = .ok (.iload_n 2, 1) := by decide +kernel
theorem d_Answers_tellGrams_50 : decode b_Answers_tellGrams 50 = .ok (.if_icmp .eq (21), 3) := by decide +kernel
theorem d_Answers_tellGrams_53 : decode b_Answers_tellGrams 53 = .ok (.lload 5, 2) := by decide +kernel
theorem d_Answers_tellGrams_55 : decode b_Answers_tellGrams 55 = .ok (.aload_n 0, 1) := by decide +kernel
theorem d_Answers_tellGrams_56 : decode b_Answers_tellGrams 56 = .ok (.getfield 15, 3) := by decide +kernel
theorem d_Answers_tellGrams_59 : decode b_Answers_tellGrams 59 = .ok (.iload_n 1, 1) := by decide +kernel
theorem d_Answers_tellGrams_60 : decode b_Answers_tellGrams 60 = .ok (.bipush (9), 2) := by decide +kernel
theorem d_Answers_tellGrams_62 : decode b_Answers_tellGrams 62 = .ok (.imul, 1) := by decide +kernel
theorem d_Answers_tellGrams_63 : decode b_Answers_tellGrams 63 = .ok (.iload 7, 2) := by decide +kernel
theorem d_Answers_tellGrams_65 : decode b_Answers_tellGrams 65 = .ok (.iadd, 1) := by decide +kernel
theorem d_Answers_tellGrams_66 : decode b_Answers_tellGrams 66 = .ok (.iaload, 1) := by decide +kernel
theorem d_Answers_tellGrams_67 : decode b_Answers_tellGrams 67 = .ok (.i2l, 1) := by decide +kernel
theorem d_Answers_tellGrams_68 : decode b_Answers_tellGrams 68 = .ok (.ladd, 1) := by decide +kernel
theorem d_Answers_tellGrams_69 : decode b_Answers_tellGrams 69 = .ok (.lstore 5, 2) := by decide +kernel
theorem d_Answers_tellGrams_71 : decode b_Answers_tellGrams 71 = .ok (.iinc 7 (1), 3) := by decide +kernel
theorem d_Answers_tellGrams_74 : decode b_Answers_tellGrams 74 = .ok (.goto (-34), 3) := by decide +kernel
theorem d_Answers_tellGrams_77 : decode b_Answers_tellGrams 77 = .ok (.lload 5, 2) := by decide +kernel
theorem d_Answers_tellGrams_79 : decode b_Answers_tellGrams 79 = .ok (.lload_n 3, 1) := by decide +kernel
theorem d_Answers_tellGrams_80 : decode b_Answers_tellGrams 80 = .ok (.ladd, 1) := by decide +kernel
theorem d_Answers_tellGrams_81 : decode b_Answers_tellGrams 81 = .ok (.aload_n 0, 1) := by decide +kernel
theorem d_Answers_tellGrams_82 : decode b_Answers_tellGrams 82 = .ok (.getfield 22, 3) := by decide +kernel
theorem d_Answers_tellGrams_85 : decode b_Answers_tellGrams 85 = .ok (.lcmp, 1) := by decide +kernel
theorem d_Answers_tellGrams_86 : decode b_Answers_tellGrams 86 = .ok (.ifCond .le (5), 3) := by decide +kernel
theorem d_Answers_tellGrams_89 : decode b_Answers_tellGrams 89 = .ok (.iconst 0, 1) := by decide +kernel
theorem d_Answers_tellGrams_90 : decode b_Answers_tellGrams 90 = .ok (.ireturn, 1) := by decide +kernel
theorem d_Answers_tellGrams_91 : decode b_Answers_tellGrams 91 = .ok (.aload_n 0, 1) := by decide +kernel
theorem d_Answers_tellGrams_92 : decode b_Answers_tellGrams 92 = .ok (.getfield 15, 3) := by decide +kernel
theorem d_Answers_tellGrams_95 : decode b_Answers_tellGrams 95 = .ok (.iload_n 1, 1) := by decide +kernel
theorem d_Answers_tellGrams_96 : decode b_Answers_tellGrams 96 = .ok (.bipush (9), 2) := by decide +kernel
theorem d_Answers_tellGrams_98 : decode b_Answers_tellGrams 98 = .ok (.imul, 1) := by decide +kernel
theorem d_Answers_tellGrams_99 : decode b_Answers_tellGrams 99 = .ok (.iload_n 2, 1) := by decide +kernel
theorem d_Answers_tellGrams_100 : decode b_Answers_tellGrams 100 = .ok (.iadd, 1) := by decide +kernel
theorem d_Answers_tellGrams_101 : decode b_Answers_tellGrams 101 = .ok (.lload_n 3, 1) := by decide +kernel
theorem d_Answers_tellGrams_102 : decode b_Answers_tellGrams 102 = .ok (.l2i, 1) := by decide +kernel
theorem d_Answers_tellGrams_103 : decode b_Answers_tellGrams 103 = .ok (.iastore, 1) := by decide +kernel
theorem d_Answers_tellGrams_104 : decode b_Answers_tellGrams 104 = .ok (.iconst 1, 1) := by decide +kernel
theorem d_Answers_tellGrams_105 : decode b_Answers_tellGrams 105 = .ok (.ireturn, 1) := by decide +kernel
theorem d_Answers_tellLoad_0 : decode b_Answers_tellLoad 0 = .ok (.iload_n 1, 1) := by decide +kernel
theorem d_Answers_tellLoad_1 : decode b_Answers_tellLoad 1 = .ok (.invokestatic 30, 3) := by decide +kernel
theorem d_Answers_tellLoad_4 : decode b_Answers_tellLoad 4 = .ok (.ifCond .eq (22), 3) := by decide +kernel
theorem d_Answers_tellLoad_7 : decode b_Answers_tellLoad 7 = .ok (.iload_n 2, 1) := by decide +kernel
theorem d_Answers_tellLoad_8 : decode b_Answers_tellLoad 8 = .ok (.ifCond .lt (18), 3) := by decide +kernel
theorem d_Answers_tellLoad_11 : decode b_Answers_tellLoad 11 = .ok (.iload_n 2, 1) := by decide +kernel
theorem d_Answers_tellLoad_12 : decode b_Answers_tellLoad 12 = .ok (.iconst 5, 1) := by decide +kernel
theorem d_Answers_tellLoad_13 : decode b_Answers_tellLoad 13 = .ok (.if_icmp .ge (13), 3) := by decide +kernel
theorem d_Answers_tellLoad_16 : decode b_Answers_tellLoad 16 = .ok (.iload_n 3, 1) := by decide +kernel
theorem d_Answers_tellLoad_17 : decode b_Answers_tellLoad 17 = .ok (.ifCond .lt (9), 3) := by decide +kernel
theorem d_Answers_tellLoad_20 : decode b_Answers_tellLoad 20 = .ok (.iload_n 3, 1) := by decide +kernel
theorem d_Answers_tellLoad_21 : decode b_Answers_tellLoad 21 = .ok (.ldc 34, 2) := by decide +kernel
theorem d_Answers_tellLoad_23 : decode b_Answers_tellLoad 23 = .ok (.if_icmp .le (5), 3) := by decide +kernel
theorem d_Answers_tellLoad_26 : decode b_Answers_tellLoad 26 = .ok (.iconst 0, 1) := by decide +kernel
theorem d_Answers_tellLoad_27 : decode b_Answers_tellLoad 27 = .ok (.ireturn, 1) := by decide +kernel
theorem d_Answers_tellLoad_28 : decode b_Answers_tellLoad 28 = .ok (.aload_n 0, 1) := by decide +kernel
theorem d_Answers_tellLoad_29 : decode b_Answers_tellLoad 29 = .ok (.getfield 19, 3) := by decide +kernel
theorem d_Answers_tellLoad_32 : decode b_Answers_tellLoad 32 = .ok (.iload_n 1, 1) := by decide +kernel
theorem d_Answers_tellLoad_33 : decode b_Answers_tellLoad 33 = .ok (.iconst 5, 1) := by decide +kernel
theorem d_Answers_tellLoad_34 : decode b_Answers_tellLoad 34 = .ok (.imul, 1) := by decide +kernel
theorem d_Answers_tellLoad_35 : decode b_Answers_tellLoad 35 = .ok (.iload_n 2, 1) := by decide +kernel
theorem d_Answers_tellLoad_36 : decode b_Answers_tellLoad 36 = .ok (.iadd, 1) := by decide +kernel
theorem d_Answers_tellLoad_37 : decode b_Answers_tellLoad 37 = .ok (.iload_n 3, 1) := by decide +kernel
theorem d_Answers_tellLoad_38 : decode b_Answers_tellLoad 38 = .ok (.iastore, 1) := by decide +kernel
theorem d_Answers_tellLoad_39 : decode b_Answers_tellLoad 39 = .ok (.iconst 1, 1) := by decide +kernel
theorem d_Answers_tellLoad_40 : decode b_Answers_tellLoad 40 = .ok (.ireturn, 1) := by decide +kernel
theorem d_Answers_gramsAt_0 : decode b_Answers_gramsAt 0 = .ok (.iload_n 1, 1) := by decide +kernel
theorem d_Answers_gramsAt_1 : decode b_Answers_gramsAt 1 = .ok (.invokestatic 30, 3) := by decide +kernel
theorem d_Answers_gramsAt_4 : decode b_Answers_gramsAt 4 = .ok (.ifCond .eq (13), 3) := by decide +kernel
theorem d_Answers_gramsAt_7 : decode b_Answers_gramsAt 7 = .ok (.iload_n 2, 1) := by decide +kernel
theorem d_Answers_gramsAt_8 : decode b_Answers_gramsAt 8 = .ok (.ifCond .lt (9), 3) := by decide +kernel
theorem d_Answers_gramsAt_11 : decode b_Answers_gramsAt 11 = .ok (.iload_n 2, 1) := by decide +kernel
theorem d_Answers_gramsAt_12 : decode b_Answers_gramsAt 12 = .ok (.bipush (9), 2) := by decide +kernel
theorem d_Answers_gramsAt_14 : decode b_Answers_gramsAt 14 = .ok (.if_icmp .lt (5), 3) := by decide +kernel
theorem d_Answers_gramsAt_17 : decode b_Answers_gramsAt 17 = .ok (.iconst 0, 1) := by decide +kernel
theorem d_Answers_gramsAt_18 : decode b_Answers_gramsAt 18 = .ok (.ireturn, 1) := by decide +kernel
theorem d_Answers_gramsAt_19 : decode b_Answers_gramsAt 19 = .ok (.aload_n 0, 1) := by decide +kernel
theorem d_Answers_gramsAt_20 : decode b_Answers_gramsAt 20 = .ok (.getfield 15, 3) := by decide +kernel
theorem d_Answers_gramsAt_23 : decode b_Answers_gramsAt 23 = .ok (.iload_n 1, 1) := by decide +kernel
theorem d_Answers_gramsAt_24 : decode b_Answers_gramsAt 24 = .ok (.bipush (9), 2) := by decide +kernel
theorem d_Answers_gramsAt_26 : decode b_Answers_gramsAt 26 = .ok (.imul, 1) := by decide +kernel
theorem d_Answers_gramsAt_27 : decode b_Answers_gramsAt 27 = .ok (.iload_n 2, 1) := by decide +kernel
theorem d_Answers_gramsAt_28 : decode b_Answers_gramsAt 28 = .ok (.iadd, 1) := by decide +kernel
theorem d_Answers_gramsAt_29 : decode b_Answers_gramsAt 29 = .ok (.iaload, 1) := by decide +kernel
theorem d_Answers_gramsAt_30 : decode b_Answers_gramsAt 30 = .ok (.ireturn, 1) := by decide +kernel
theorem d_Answers_loadOf_0 : decode b_Answers_loadOf 0 = .ok (.iload_n 1, 1) := by decide +kernel
theorem d_Answers_loadOf_1 : decode b_Answers_loadOf 1 = .ok (.invokestatic 30, 3) := by decide +kernel
theorem d_Answers_loadOf_4 : decode b_Answers_loadOf 4 = .ok (.ifCond .eq (12), 3) := by decide +kernel
theorem d_Answers_loadOf_7 : decode b_Answers_loadOf 7 = .ok (.iload_n 2, 1) := by decide +kernel
theorem d_Answers_loadOf_8 : decode b_Answers_loadOf 8 = .ok (.ifCond .lt (8), 3) := by decide +kernel
theorem d_Answers_loadOf_11 : decode b_Answers_loadOf 11 = .ok (.iload_n 2, 1) := by decide +kernel
theorem d_Answers_loadOf_12 : decode b_Answers_loadOf 12 = .ok (.iconst 5, 1) := by decide +kernel
theorem d_Answers_loadOf_13 : decode b_Answers_loadOf 13 = .ok (.if_icmp .lt (5), 3) := by decide +kernel
theorem d_Answers_loadOf_16 : decode b_Answers_loadOf 16 = .ok (.iconst 0, 1) := by decide +kernel
theorem d_Answers_loadOf_17 : decode b_Answers_loadOf 17 = .ok (.ireturn, 1) := by decide +kernel
theorem d_Answers_loadOf_18 : decode b_Answers_loadOf 18 = .ok (.aload_n 0, 1) := by decide +kernel
theorem d_Answers_loadOf_19 : decode b_Answers_loadOf 19 = .ok (.getfield 19, 3) := by decide +kernel
theorem d_Answers_loadOf_22 : decode b_Answers_loadOf 22 = .ok (.iload_n 1, 1) := by decide +kernel
theorem d_Answers_loadOf_23 : decode b_Answers_loadOf 23 = .ok (.iconst 5, 1) := by decide +kernel
theorem d_Answers_loadOf_24 : decode b_Answers_loadOf 24 = .ok (.imul, 1) := by decide +kernel
theorem d_Answers_loadOf_25 : decode b_Answers_loadOf 25 = .ok (.iload_n 2, 1) := by decide +kernel
theorem d_Answers_loadOf_26 : decode b_Answers_loadOf 26 = .ok (.iadd, 1) := by decide +kernel
theorem d_Answers_loadOf_27 : decode b_Answers_loadOf 27 = .ok (.iaload, 1) := by decide +kernel
theorem d_Answers_loadOf_28 : decode b_Answers_loadOf 28 = .ok (.ireturn, 1) := by decide +kernel
theorem d_Answers_worthBy_0 : decode b_Answers_worthBy 0 = .ok (.lconst 0, 1) := by decide +kernel
theorem d_Answers_worthBy_1 : decode b_Answers_worthBy 1 = .ok (.lstore_n 3, 1) := by decide +kernel
theorem d_Answers_worthBy_2 : decode b_Answers_worthBy 2 = .ok (.iconst 0, 1) := by decide +kernel
theorem d_Answers_worthBy_3 : decode b_Answers_worthBy 3 = .ok (.istore 5, 2) := by decide +kernel
theorem d_Answers_worthBy_5 : decode b_Answers_worthBy 5 = .ok (.iload 5, 2) := by decide +kernel
theorem d_Answers_worthBy_7 : decode b_Answers_worthBy 7 = .ok (.bipush (9), 2) := by decide +kernel
theorem d_Answers_worthBy_9 : decode b_Answers_worthBy 9 = .ok (.if_icmp .ge (33), 3) := by decide +kernel
theorem d_Answers_worthBy_12 : decode b_Answers_worthBy 12 = .ok (.iload 5, 2) := by decide +kernel
theorem d_Answers_worthBy_14 : decode b_Answers_worthBy 14 = .ok (.aload_n 2, 1) := by decide +kernel
theorem d_Answers_worthBy_15 : decode b_Answers_worthBy 15 = .ok (.arraylength, 1) := by decide +kernel
theorem d_Answers_worthBy_16 : decode b_Answers_worthBy 16 = .ok (.if_icmp .ge (26), 3) := by decide +kernel
theorem d_Answers_worthBy_19 : decode b_Answers_worthBy 19 = .ok (.lload_n 3, 1) := by decide +kernel
theorem d_Answers_worthBy_20 : decode b_Answers_worthBy 20 = .ok (.aload_n 0, 1) := by decide +kernel
theorem d_Answers_worthBy_21 : decode b_Answers_worthBy 21 = .ok (.iload_n 1, 1) := by decide +kernel
theorem d_Answers_worthBy_22 : decode b_Answers_worthBy 22 = .ok (.iload 5, 2) := by decide +kernel
theorem d_Answers_worthBy_24 : decode b_Answers_worthBy 24 = .ok (.invokevirtual 35, 3) := by decide +kernel
theorem d_Answers_worthBy_27 : decode b_Answers_worthBy 27 = .ok (.i2l, 1) := by decide +kernel
theorem d_Answers_worthBy_28 : decode b_Answers_worthBy 28 = .ok (.aload_n 2, 1) := by decide +kernel
theorem d_Answers_worthBy_29 : decode b_Answers_worthBy 29 = .ok (.iload 5, 2) := by decide +kernel
theorem d_Answers_worthBy_31 : decode b_Answers_worthBy 31 = .ok (.iaload, 1) := by decide +kernel
theorem d_Answers_worthBy_32 : decode b_Answers_worthBy 32 = .ok (.i2l, 1) := by decide +kernel
theorem d_Answers_worthBy_33 : decode b_Answers_worthBy 33 = .ok (.lmul, 1) := by decide +kernel
theorem d_Answers_worthBy_34 : decode b_Answers_worthBy 34 = .ok (.ladd, 1) := by decide +kernel
theorem d_Answers_worthBy_35 : decode b_Answers_worthBy 35 = .ok (.lstore_n 3, 1) := by decide +kernel
theorem d_Answers_worthBy_36 : decode b_Answers_worthBy 36 = .ok (.iinc 5 (1), 3) := by decide +kernel
theorem d_Answers_worthBy_39 : decode b_Answers_worthBy 39 = .ok (.goto (-34), 3) := by decide +kernel
theorem d_Answers_worthBy_42 : decode b_Answers_worthBy 42 = .ok (.lload_n 3, 1) := by decide +kernel
theorem d_Answers_worthBy_43 : decode b_Answers_worthBy 43 = .ok (.lreturn, 1) := by decide +kernel
theorem d_Answers_hasRow_0 : decode b_Answers_hasRow 0 = .ok (.iload_n 0, 1) := by decide +kernel
theorem d_Answers_hasRow_1 : decode b_Answers_hasRow 1 = .ok (.ifCond .lt (13), 3) := by decide +kernel
theorem d_Answers_hasRow_4 : decode b_Answers_hasRow 4 = .ok (.iload_n 0, 1) := by decide +kernel
theorem d_Answers_hasRow_5 : decode b_Answers_hasRow 5 = .ok (.bipush (64), 2) := by decide +kernel
theorem d_Answers_hasRow_7 : decode b_Answers_hasRow 7 = .ok (.if_icmp .ge (7), 3) := by decide +kernel
theorem d_Answers_hasRow_10 : decode b_Answers_hasRow 10 = .ok (.iconst 1, 1) := by decide +kernel
theorem d_Answers_hasRow_11 : decode b_Answers_hasRow 11 = .ok (.goto (4), 3) := by decide +kernel
theorem d_Answers_hasRow_14 : decode b_Answers_hasRow 14 = .ok (.iconst 0, 1) := by decide +kernel
theorem d_Answers_hasRow_15 : decode b_Answers_hasRow 15 = .ok (.ireturn, 1) := by decide +kernel

theorem d_SettingSearch_room_77 : decode b_SettingSearch_room 77 = .ok (.invokevirtual 151, 3) := by decide +kernel
theorem d_SettingSearch_room_80 : decode b_SettingSearch_room 80 = .ok (.lload 4, 2) := by decide +kernel
theorem d_SettingSearch_room_82 : decode b_SettingSearch_room 82 = .ok (.lsub, 1) := by decide +kernel
theorem d_SettingSearch_room_83 : decode b_SettingSearch_room 83 = .ok (.lreturn, 1) := by decide +kernel
theorem d_SettingSearch_placeOf_0 : decode b_SettingSearch_placeOf 0 = .ok (.iload_n 0, 1) := by decide +kernel
theorem d_SettingSearch_placeOf_1 : decode b_SettingSearch_placeOf 1 = .ok (.ifCond .lt (17), 3) := by decide +kernel
theorem d_SettingSearch_placeOf_4 : decode b_SettingSearch_placeOf 4 = .ok (.iload_n 0, 1) := by decide +kernel
theorem d_SettingSearch_placeOf_5 : decode b_SettingSearch_placeOf 5 = .ok (.iconst 3, 1) := by decide +kernel
theorem d_SettingSearch_placeOf_6 : decode b_SettingSearch_placeOf 6 = .ok (.if_icmp .ge (12), 3) := by decide +kernel
theorem d_SettingSearch_placeOf_9 : decode b_SettingSearch_placeOf 9 = .ok (.iload_n 1, 1) := by decide +kernel
theorem d_SettingSearch_placeOf_10 : decode b_SettingSearch_placeOf 10 = .ok (.ifCond .lt (8), 3) := by decide +kernel
theorem d_SettingSearch_placeOf_13 : decode b_SettingSearch_placeOf 13 = .ok (.iload_n 1, 1) := by decide +kernel
theorem d_SettingSearch_placeOf_14 : decode b_SettingSearch_placeOf 14 = .ok (.iconst 3, 1) := by decide +kernel
theorem d_SettingSearch_placeOf_15 : decode b_SettingSearch_placeOf 15 = .ok (.if_icmp .lt (5), 3) := by decide +kernel
theorem d_SettingSearch_placeOf_18 : decode b_SettingSearch_placeOf 18 = .ok (.iconst (-1), 1) := by decide +kernel
theorem d_SettingSearch_placeOf_19 : decode b_SettingSearch_placeOf 19 = .ok (.ireturn, 1) := by decide +kernel
theorem d_SettingSearch_placeOf_20 : decode b_SettingSearch_placeOf 20 = .ok (.iload_n 0, 1) := by decide +kernel
theorem d_SettingSearch_placeOf_21 : decode b_SettingSearch_placeOf 21 = .ok (.iconst 3, 1) := by decide +kernel
theorem d_SettingSearch_placeOf_22 : decode b_SettingSearch_placeOf 22 = .ok (.imul, 1) := by decide +kernel
theorem d_SettingSearch_placeOf_23 : decode b_SettingSearch_placeOf 23 = .ok (.iload_n 1, 1) := by decide +kernel
theorem d_SettingSearch_placeOf_24 : decode b_SettingSearch_placeOf 24 = .ok (.iadd, 1) := by decide +kernel
theorem d_SettingSearch_placeOf_25 : decode b_SettingSearch_placeOf 25 = .ok (.ireturn, 1) := by decide +kernel
theorem d_SettingSearch_goOn_0 : decode b_SettingSearch_goOn 0 = .ok (.aload_n 0, 1) := by decide +kernel
theorem d_SettingSearch_goOn_1 : decode b_SettingSearch_goOn 1 = .ok (.aload_n 1, 1) := by decide +kernel
theorem d_SettingSearch_goOn_2 : decode b_SettingSearch_goOn 2 = .ok (.invokevirtual 122, 3) := by decide +kernel
theorem d_SettingSearch_goOn_5 : decode b_SettingSearch_goOn 5 = .ok (.lstore_n 2, 1) := by decide +kernel
theorem d_SettingSearch_goOn_6 : decode b_SettingSearch_goOn 6 = .ok (.aload_n 0, 1) := by decide +kernel
theorem d_SettingSearch_goOn_7 : decode b_SettingSearch_goOn 7 = .ok (.getfield 37, 3) := by decide +kernel
theorem d_SettingSearch_goOn_10 : decode b_SettingSearch_goOn 10 = .ok (.getfield 155, 3) := by decide +kernel
theorem d_SettingSearch_goOn_13 : decode b_SettingSearch_goOn 13 = .ok (.istore 4, 2) := by decide +kernel
theorem d_SettingSearch_goOn_15 : decode b_SettingSearch_goOn 15 = .ok (.iload 4, 2) := by decide +kernel
theorem d_SettingSearch_goOn_17 : decode b_SettingSearch_goOn 17 = .ok (.aload_n 0, 1) := by decide +kernel
theorem d_SettingSearch_goOn_18 : decode b_SettingSearch_goOn 18 = .ok (.getfield 37, 3) := by decide +kernel
theorem d_SettingSearch_goOn_21 : decode b_SettingSearch_goOn 21 = .ok (.getfield 158, 3) := by decide +kernel
theorem d_SettingSearch_goOn_24 : decode b_SettingSearch_goOn 24 = .ok (.if_icmp .ge (75), 3) := by decide +kernel
theorem d_SettingSearch_goOn_27 : decode b_SettingSearch_goOn 27 = .ok (.aload_n 0, 1) := by decide +kernel
theorem d_SettingSearch_goOn_28 : decode b_SettingSearch_goOn 28 = .ok (.getfield 37, 3) := by decide +kernel
theorem d_SettingSearch_goOn_31 : decode b_SettingSearch_goOn 31 = .ok (.getfield 116, 3) := by decide +kernel
theorem d_SettingSearch_goOn_34 : decode b_SettingSearch_goOn 34 = .ok (.lload_n 2, 1) := by decide +kernel
theorem d_SettingSearch_goOn_35 : decode b_SettingSearch_goOn 35 = .ok (.lcmp, 1) := by decide +kernel
theorem d_SettingSearch_goOn_36 : decode b_SettingSearch_goOn 36 = .ok (.ifCond .eq (63), 3) := by decide +kernel
theorem d_SettingSearch_goOn_39 : decode b_SettingSearch_goOn 39 = .ok (.aload_n 0, 1) := by decide +kernel
theorem d_SettingSearch_goOn_40 : decode b_SettingSearch_goOn 40 = .ok (.getfield 37, 3) := by decide +kernel
theorem d_SettingSearch_goOn_43 : decode b_SettingSearch_goOn 43 = .ok (.getfield 161, 3) := by decide +kernel
theorem d_SettingSearch_goOn_46 : decode b_SettingSearch_goOn 46 = .ok (.iload 4, 2) := by decide +kernel
theorem d_SettingSearch_goOn_48 : decode b_SettingSearch_goOn 48 = .ok (.iaload, 1) := by decide +kernel
theorem d_SettingSearch_goOn_49 : decode b_SettingSearch_goOn 49 = .ok (.istore 5, 2) := by decide +kernel
theorem d_SettingSearch_goOn_51 : decode b_SettingSearch_goOn 51 = .ok (.aload_n 1, 1) := by decide +kernel
theorem d_SettingSearch_goOn_52 : decode b_SettingSearch_goOn 52 = .ok (.iload 5, 2) := by decide +kernel
theorem d_SettingSearch_goOn_54 : decode b_SettingSearch_goOn 54 = .ok (.invokevirtual 164, 3) := by decide +kernel
theorem d_SettingSearch_goOn_57 : decode b_SettingSearch_goOn 57 = .ok (.ifCond .ne (29), 3) := by decide +kernel
theorem d_SettingSearch_goOn_60 : decode b_SettingSearch_goOn 60 = .ok (.aload_n 1, 1) := by decide +kernel
theorem d_SettingSearch_goOn_61 : decode b_SettingSearch_goOn 61 = .ok (.iload 5, 2) := by decide +kernel
theorem d_SettingSearch_goOn_63 : decode b_SettingSearch_goOn 63 = .ok (.invokevirtual 167, 3) := by decide +kernel
theorem d_SettingSearch_goOn_66 : decode b_SettingSearch_goOn 66 = .ok (.aload_n 0, 1) := by decide +kernel
theorem d_SettingSearch_goOn_67 : decode b_SettingSearch_goOn 67 = .ok (.getfield 37, 3) := by decide +kernel
theorem d_SettingSearch_goOn_70 : decode b_SettingSearch_goOn 70 = .ok (.iload 4, 2) := by decide +kernel
theorem d_SettingSearch_goOn_72 : decode b_SettingSearch_goOn 72 = .ok (.putfield 155, 3) := by decide +kernel
theorem d_SettingSearch_goOn_75 : decode b_SettingSearch_goOn 75 = .ok (.aload_n 0, 1) := by decide +kernel
theorem d_SettingSearch_goOn_76 : decode b_SettingSearch_goOn 76 = .ok (.getfield 37, 3) := by decide +kernel
theorem d_SettingSearch_goOn_79 : decode b_SettingSearch_goOn 79 = .ok (.iload 5, 2) := by decide +kernel
theorem d_SettingSearch_goOn_81 : decode b_SettingSearch_goOn 81 = .ok (.putfield 89, 3) := by decide +kernel
theorem d_SettingSearch_goOn_84 : decode b_SettingSearch_goOn 84 = .ok (.iconst 1, 1) := by decide +kernel
theorem d_SettingSearch_goOn_85 : decode b_SettingSearch_goOn 85 = .ok (.ireturn, 1) := by decide +kernel
theorem d_SettingSearch_goOn_86 : decode b_SettingSearch_goOn 86 = .ok (.aload_n 0, 1) := by decide +kernel
theorem d_SettingSearch_goOn_87 : decode b_SettingSearch_goOn 87 = .ok (.aload_n 1, 1) := by decide +kernel
theorem d_SettingSearch_goOn_88 : decode b_SettingSearch_goOn 88 = .ok (.iload 5, 2) := by decide +kernel
theorem d_SettingSearch_goOn_90 : decode b_SettingSearch_goOn 90 = .ok (.invokevirtual 170, 3) := by decide +kernel
theorem d_SettingSearch_goOn_93 : decode b_SettingSearch_goOn 93 = .ok (.iinc 4 (1), 3) := by decide +kernel
theorem d_SettingSearch_goOn_96 : decode b_SettingSearch_goOn 96 = .ok (.goto (-81), 3) := by decide +kernel
theorem d_SettingSearch_goOn_99 : decode b_SettingSearch_goOn 99 = .ok (.aload_n 0, 1) := by decide +kernel
theorem d_SettingSearch_goOn_100 : decode b_SettingSearch_goOn 100 = .ok (.getfield 37, 3) := by decide +kernel
theorem d_SettingSearch_goOn_103 : decode b_SettingSearch_goOn 103 = .ok (.iconst 0, 1) := by decide +kernel
theorem d_SettingSearch_goOn_104 : decode b_SettingSearch_goOn 104 = .ok (.putfield 44, 3) := by decide +kernel
theorem d_SettingSearch_goOn_107 : decode b_SettingSearch_goOn 107 = .ok (.iconst 0, 1) := by decide +kernel
theorem d_SettingSearch_goOn_108 : decode b_SettingSearch_goOn 108 = .ok (.ireturn, 1) := by decide +kernel
theorem d_SettingSearch_weigh_0 : decode b_SettingSearch_weigh 0 = .ok (.aload_n 0, 1) := by decide +kernel
theorem d_SettingSearch_weigh_1 : decode b_SettingSearch_weigh 1 = .ok (.getfield 19, 3) := by decide +kernel
theorem d_SettingSearch_weigh_4 : decode b_SettingSearch_weigh 4 = .ok (.aload_n 1, 1) := by decide +kernel
theorem d_SettingSearch_weigh_5 : decode b_SettingSearch_weigh 5 = .ok (.iload_n 2, 1) := by decide +kernel
theorem d_SettingSearch_weigh_6 : decode b_SettingSearch_weigh 6 = .ok (.invokevirtual 174, 3) := by decide +kernel
theorem d_SettingSearch_weigh_9 : decode b_SettingSearch_weigh 9 = .ok (.aload_n 0, 1) := by decide +kernel
theorem d_SettingSearch_weigh_10 : decode b_SettingSearch_weigh 10 = .ok (.getfield 19, 3) := by decide +kernel
theorem d_SettingSearch_weigh_13 : decode b_SettingSearch_weigh 13 = .ok (.invokevirtual 147, 3) := by decide +kernel
theorem d_SettingSearch_weigh_16 : decode b_SettingSearch_weigh 16 = .ok (.if_icmp .eq (4), 3) := by decide +kernel
theorem d_SettingSearch_weigh_19 : decode b_SettingSearch_weigh 19 = .ok (.return_, 1) := by decide +kernel
theorem d_SettingSearch_weigh_20 : decode b_SettingSearch_weigh 20 = .ok (.aload_n 1, 1) := by decide +kernel
theorem d_SettingSearch_weigh_21 : decode b_SettingSearch_weigh 21 = .ok (.iload_n 2, 1) := by decide +kernel
theorem d_SettingSearch_weigh_22 : decode b_SettingSearch_weigh 22 = .ok (.aload_n 0, 1) := by decide +kernel
theorem d_SettingSearch_weigh_23 : decode b_SettingSearch_weigh 23 = .ok (.getfield 23, 3) := by decide +kernel
theorem d_SettingSearch_weigh_26 : decode b_SettingSearch_weigh 26 = .ok (.invokevirtual 178, 3) := by decide +kernel
theorem d_SettingSearch_weigh_29 : decode b_SettingSearch_weigh 29 = .ok (.lstore_n 3, 1) := by decide +kernel
theorem d_SettingSearch_weigh_30 : decode b_SettingSearch_weigh 30 = .ok (.aload_n 0, 1) := by decide +kernel
theorem d_SettingSearch_weigh_31 : decode b_SettingSearch_weigh 31 = .ok (.getfield 37, 3) := by decide +kernel
theorem d_SettingSearch_weigh_34 : decode b_SettingSearch_weigh 34 = .ok (.getfield 113, 3) := by decide +kernel
theorem d_SettingSearch_weigh_37 : decode b_SettingSearch_weigh 37 = .ok (.iconst (-1), 1) := by decide +kernel
theorem d_SettingSearch_weigh_38 : decode b_SettingSearch_weigh 38 = .ok (.if_icmp .eq (15), 3) := by decide +kernel
theorem d_SettingSearch_weigh_41 : decode b_SettingSearch_weigh 41 = .ok (.lload_n 3, 1) := by decide +kernel
theorem d_SettingSearch_weigh_42 : decode b_SettingSearch_weigh 42 = .ok (.aload_n 0, 1) := by decide +kernel
theorem d_SettingSearch_weigh_43 : decode b_SettingSearch_weigh 43 = .ok (.getfield 37, 3) := by decide +kernel
theorem d_SettingSearch_weigh_46 : decode b_SettingSearch_weigh 46 = .ok (.getfield 116, 3) := by decide +kernel
theorem d_SettingSearch_weigh_49 : decode b_SettingSearch_weigh 49 = .ok (.lcmp, 1) := by decide +kernel
theorem d_SettingSearch_weigh_50 : decode b_SettingSearch_weigh 50 = .ok (.ifCond .le (19), 3) := by decide +kernel
theorem d_SettingSearch_weigh_53 : decode b_SettingSearch_weigh 53 = .ok (.aload_n 0, 1) := by decide +kernel
theorem d_SettingSearch_weigh_54 : decode b_SettingSearch_weigh 54 = .ok (.getfield 37, 3) := by decide +kernel
theorem d_SettingSearch_weigh_57 : decode b_SettingSearch_weigh 57 = .ok (.iload_n 2, 1) := by decide +kernel
theorem d_SettingSearch_weigh_58 : decode b_SettingSearch_weigh 58 = .ok (.putfield 113, 3) := by decide +kernel
theorem d_SettingSearch_weigh_61 : decode b_SettingSearch_weigh 61 = .ok (.aload_n 0, 1) := by decide +kernel
theorem d_SettingSearch_weigh_62 : decode b_SettingSearch_weigh 62 = .ok (.getfield 37, 3) := by decide +kernel
theorem d_SettingSearch_weigh_65 : decode b_SettingSearch_weigh 65 = .ok (.lload_n 3, 1) := by decide +kernel
theorem d_SettingSearch_weigh_66 : decode b_SettingSearch_weigh 66 = .ok (.putfield 116, 3) := by decide +kernel
theorem d_SettingSearch_weigh_69 : decode b_SettingSearch_weigh 69 = .ok (.return_, 1) := by decide +kernel
theorem d_SettingSearch_boundOf_0 : decode b_SettingSearch_boundOf 0 = .ok (.iconst 0, 1) := by decide +kernel
theorem d_SettingSearch_boundOf_1 : decode b_SettingSearch_boundOf 1 = .ok (.istore_n 2, 1) := by decide +kernel
theorem d_SettingSearch_boundOf_2 : decode b_SettingSearch_boundOf 2 = .ok (.iconst 0, 1) := by decide +kernel
theorem d_SettingSearch_boundOf_3 : decode b_SettingSearch_boundOf 3 = .ok (.istore_n 3, 1) := by decide +kernel
theorem d_SettingSearch_boundOf_4 : decode b_SettingSearch_boundOf 4 = .ok (.iload_n 3, 1) := by decide +kernel
theorem d_SettingSearch_boundOf_5 : decode b_SettingSearch_boundOf 5 = .ok (.bipush (9), 2) := by decide +kernel
theorem d_SettingSearch_boundOf_7 : decode b_SettingSearch_boundOf 7 = .ok (.if_icmp .ge (20), 3) := by decide +kernel
theorem d_SettingSearch_boundOf_10 : decode b_SettingSearch_boundOf 10 = .ok (.iload_n 2, 1) := by decide +kernel
theorem d_SettingSearch_boundOf_11 : decode b_SettingSearch_boundOf 11 = .ok (.aload_n 0, 1) := by decide +kernel
theorem d_SettingSearch_boundOf_12 : decode b_SettingSearch_boundOf 12 = .ok (.getfield 23, 3) := by decide +kernel
theorem d_SettingSearch_boundOf_15 : decode b_SettingSearch_boundOf 15 = .ok (.iload_n 3, 1) := by decide +kernel
theorem d_SettingSearch_boundOf_16 : decode b_SettingSearch_boundOf 16 = .ok (.iaload, 1) := by decide +kernel
theorem d_SettingSearch_boundOf_17 : decode b_SettingSearch_boundOf 17 = .ok (.invokestatic 182, 3) := by decide +kernel
theorem d_SettingSearch_boundOf_20 : decode b_SettingSearch_boundOf 20 = .ok (.istore_n 2, 1) := by decide +kernel
theorem d_SettingSearch_boundOf_21 : decode b_SettingSearch_boundOf 21 = .ok (.iinc 3 (1), 3) := by decide +kernel
theorem d_SettingSearch_boundOf_24 : decode b_SettingSearch_boundOf 24 = .ok (.goto (-20), 3) := by decide +kernel
theorem d_SettingSearch_boundOf_27 : decode b_SettingSearch_boundOf 27 = .ok (.aload_n 1, 1) := by decide +kernel
theorem d_SettingSearch_boundOf_28 : decode b_SettingSearch_boundOf 28 = .ok (.getfield 187, 3) := by decide +kernel
theorem d_SettingSearch_boundOf_31 : decode b_SettingSearch_boundOf 31 = .ok (.iload_n 2, 1) := by decide +kernel
theorem d_SettingSearch_boundOf_32 : decode b_SettingSearch_boundOf 32 = .ok (.i2l, 1) := by decide +kernel
theorem d_SettingSearch_boundOf_33 : decode b_SettingSearch_boundOf 33 = .ok (.lmul, 1) := by decide +kernel
theorem d_SettingSearch_boundOf_34 : decode b_SettingSearch_boundOf 34 = .ok (.lreturn, 1) := by decide +kernel
theorem d_SettingSearch_greatestWorth_0 : decode b_SettingSearch_greatestWorth 0 = .ok (.ldc2_w 145, 3) := by decide +kernel
theorem d_SettingSearch_greatestWorth_3 : decode b_SettingSearch_greatestWorth 3 = .ok (.lstore_n 3, 1) := by decide +kernel
theorem d_SettingSearch_greatestWorth_4 : decode b_SettingSearch_greatestWorth 4 = .ok (.iconst 0, 1) := by decide +kernel
theorem d_SettingSearch_greatestWorth_5 : decode b_SettingSearch_greatestWorth 5 = .ok (.istore 5, 2) := by decide +kernel
theorem d_SettingSearch_greatestWorth_7 : decode b_SettingSearch_greatestWorth 7 = .ok (.iload 5, 2) := by decide +kernel
theorem d_SettingSearch_greatestWorth_9 : decode b_SettingSearch_greatestWorth 9 = .ok (.bipush (64), 2) := by decide +kernel
theorem d_SettingSearch_greatestWorth_11 : decode b_SettingSearch_greatestWorth 11 = .ok (.if_icmp .ge (49), 3) := by decide +kernel
theorem d_SettingSearch_greatestWorth_14 : decode b_SettingSearch_greatestWorth 14 = .ok (.aload_n 1, 1) := by decide +kernel
theorem d_SettingSearch_greatestWorth_15 : decode b_SettingSearch_greatestWorth 15 = .ok (.iload 5, 2) := by decide +kernel
theorem d_SettingSearch_greatestWorth_17 : decode b_SettingSearch_greatestWorth 17 = .ok (.invokevirtual 164, 3) := by decide +kernel
theorem d_SettingSearch_greatestWorth_20 : decode b_SettingSearch_greatestWorth 20 = .ok (.ifCond .eq (34), 3) := by decide +kernel
theorem d_SettingSearch_greatestWorth_23 : decode b_SettingSearch_greatestWorth 23 = .ok (.aload_n 0, 1) := by decide +kernel
theorem d_SettingSearch_greatestWorth_24 : decode b_SettingSearch_greatestWorth 24 = .ok (.getfield 19, 3) := by decide +kernel
theorem d_SettingSearch_greatestWorth_27 : decode b_SettingSearch_greatestWorth 27 = .ok (.aload_n 1, 1) := by decide +kernel
theorem d_SettingSearch_greatestWorth_28 : decode b_SettingSearch_greatestWorth 28 = .ok (.iload 5, 2) := by decide +kernel
theorem d_SettingSearch_greatestWorth_30 : decode b_SettingSearch_greatestWorth 30 = .ok (.invokevirtual 174, 3) := by decide +kernel
theorem d_SettingSearch_greatestWorth_33 : decode b_SettingSearch_greatestWorth 33 = .ok (.iload_n 2, 1) := by decide +kernel
theorem d_SettingSearch_greatestWorth_34 : decode b_SettingSearch_greatestWorth 34 = .ok (.iand, 1) := by decide +kernel
theorem d_SettingSearch_greatestWorth_35 : decode b_SettingSearch_greatestWorth 35 = .ok (.iload_n 2, 1) := by decide +kernel
theorem d_SettingSearch_greatestWorth_36 : decode b_SettingSearch_greatestWorth 36 = .ok (.if_icmp .ne (18), 3) := by decide +kernel
theorem d_SettingSearch_greatestWorth_39 : decode b_SettingSearch_greatestWorth 39 = .ok (.lload_n 3, 1) := by decide +kernel
theorem d_SettingSearch_greatestWorth_40 : decode b_SettingSearch_greatestWorth 40 = .ok (.aload_n 1, 1) := by decide +kernel
theorem d_SettingSearch_greatestWorth_41 : decode b_SettingSearch_greatestWorth 41 = .ok (.iload 5, 2) := by decide +kernel
theorem d_SettingSearch_greatestWorth_43 : decode b_SettingSearch_greatestWorth 43 = .ok (.aload_n 0, 1) := by decide +kernel
theorem d_SettingSearch_greatestWorth_44 : decode b_SettingSearch_greatestWorth 44 = .ok (.getfield 23, 3) := by decide +kernel
theorem d_SettingSearch_greatestWorth_47 : decode b_SettingSearch_greatestWorth 47 = .ok (.invokevirtual 178, 3) := by decide +kernel
theorem d_SettingSearch_greatestWorth_50 : decode b_SettingSearch_greatestWorth 50 = .ok (.invokestatic 190, 3) := by decide +kernel
theorem d_SettingSearch_greatestWorth_53 : decode b_SettingSearch_greatestWorth 53 = .ok (.lstore_n 3, 1) := by decide +kernel
theorem d_SettingSearch_greatestWorth_54 : decode b_SettingSearch_greatestWorth 54 = .ok (.iinc 5 (1), 3) := by decide +kernel
theorem d_SettingSearch_greatestWorth_57 : decode b_SettingSearch_greatestWorth 57 = .ok (.goto (-50), 3) := by decide +kernel
theorem d_SettingSearch_greatestWorth_60 : decode b_SettingSearch_greatestWorth 60 = .ok (.lload_n 3, 1) := by decide +kernel
theorem d_SettingSearch_greatestWorth_61 : decode b_SettingSearch_greatestWorth 61 = .ok (.lreturn, 1) := by decide +kernel
theorem d_SettingSearch_fewestClashing_0 : decode b_SettingSearch_fewestClashing 0 = .ok (.aload_n 0, 1) := by decide +kernel
theorem d_SettingSearch_fewestClashing_1 : decode b_SettingSearch_fewestClashing 1 = .ok (.getfield 19, 3) := by decide +kernel
theorem d_SettingSearch_fewestClashing_4 : decode b_SettingSearch_fewestClashing 4 = .ok (.invokevirtual 147, 3) := by decide +kernel
theorem d_SettingSearch_fewestClashing_7 : decode b_SettingSearch_fewestClashing 7 = .ok (.istore_n 2, 1) := by decide +kernel
theorem d_SettingSearch_fewestClashing_8 : decode b_SettingSearch_fewestClashing 8 = .ok (.aload_n 0, 1) := by decide +kernel
theorem d_SettingSearch_fewestClashing_9 : decode b_SettingSearch_fewestClashing 9 = .ok (.aload_n 1, 1) := by decide +kernel
theorem d_SettingSearch_fewestClashing_10 : decode b_SettingSearch_fewestClashing 10 = .ok (.invokevirtual 193, 3) := by decide +kernel
theorem d_SettingSearch_fewestClashing_13 : decode b_SettingSearch_fewestClashing 13 = .ok (.istore_n 3, 1) := by decide +kernel
theorem d_SettingSearch_fewestClashing_14 : decode b_SettingSearch_fewestClashing 14 = .ok (.aload_n 0, 1) := by decide +kernel
theorem d_SettingSearch_fewestClashing_15 : decode b_SettingSearch_fewestClashing 15 = .ok (.iload_n 2, 1) := by decide +kernel
theorem d_SettingSearch_fewestClashing_16 : decode b_SettingSearch_fewestClashing 16 = .ok (.iload_n 3, 1) := by decide +kernel
theorem d_SettingSearch_fewestClashing_17 : decode b_SettingSearch_fewestClashing 17 = .ok (.invokevirtual 196, 3) := by decide +kernel
theorem d_SettingSearch_fewestClashing_20 : decode b_SettingSearch_fewestClashing 20 = .ok (.ifCond .ne (5), 3) := by decide +kernel
theorem d_SettingSearch_fewestClashing_23 : decode b_SettingSearch_fewestClashing 23 = .ok (.iconst 0, 1) := by decide +kernel
theorem d_SettingSearch_fewestClashing_24 : decode b_SettingSearch_fewestClashing 24 = .ok (.ireturn, 1) := by decide +kernel
theorem d_SettingSearch_fewestClashing_25 : decode b_SettingSearch_fewestClashing 25 = .ok (.bipush (10), 2) := by decide +kernel
theorem d_SettingSearch_fewestClashing_27 : decode b_SettingSearch_fewestClashing 27 = .ok (.istore 4, 2) := by decide +kernel
theorem d_SettingSearch_fewestClashing_29 : decode b_SettingSearch_fewestClashing 29 = .ok (.iconst 0, 1) := by decide +kernel
theorem d_SettingSearch_fewestClashing_30 : decode b_SettingSearch_fewestClashing 30 = .ok (.istore 5, 2) := by decide +kernel
theorem d_SettingSearch_fewestClashing_32 : decode b_SettingSearch_fewestClashing 32 = .ok (.iconst 1, 1) := by decide +kernel
theorem d_SettingSearch_fewestClashing_33 : decode b_SettingSearch_fewestClashing 33 = .ok (.istore 6, 2) := by decide +kernel
theorem d_SettingSearch_fewestClashing_35 : decode b_SettingSearch_fewestClashing 35 = .ok (.iload 6, 2) := by decide +kernel
theorem d_SettingSearch_fewestClashing_37 : decode b_SettingSearch_fewestClashing 37 = .ok (.sipush (512), 3) := by decide +kernel
theorem d_SettingSearch_fewestClashing_40 : decode b_SettingSearch_fewestClashing 40 = .ok (.if_icmp .ge (49), 3) := by decide +kernel
theorem d_SettingSearch_fewestClashing_43 : decode b_SettingSearch_fewestClashing 43 = .ok (.iload 6, 2) := by decide +kernel
theorem d_SettingSearch_fewestClashing_45 : decode b_SettingSearch_fewestClashing 45 = .ok (.iload_n 2, 1) := by decide +kernel
theorem d_SettingSearch_fewestClashing_46 : decode b_SettingSearch_fewestClashing 46 = .ok (.iand, 1) := by decide +kernel
theorem d_SettingSearch_fewestClashing_47 : decode b_SettingSearch_fewestClashing 47 = .ok (.iload 6, 2) := by decide +kernel
theorem d_SettingSearch_fewestClashing_49 : decode b_SettingSearch_fewestClashing 49 = .ok (.if_icmp .ne (34), 3) := by decide +kernel
theorem d_SettingSearch_fewestClashing_52 : decode b_SettingSearch_fewestClashing 52 = .ok (.iload 6, 2) := by decide +kernel
theorem d_SettingSearch_fewestClashing_54 : decode b_SettingSearch_fewestClashing 54 = .ok (.invokestatic 200, 3) := by decide +kernel
theorem d_SettingSearch_fewestClashing_57 : decode b_SettingSearch_fewestClashing 57 = .ok (.iload 4, 2) := by decide +kernel
theorem d_SettingSearch_fewestClashing_59 : decode b_SettingSearch_fewestClashing 59 = .ok (.if_icmp .ge (24), 3) := by decide +kernel
theorem d_SettingSearch_fewestClashing_62 : decode b_SettingSearch_fewestClashing 62 = .ok (.aload_n 0, 1) := by decide +kernel
theorem d_SettingSearch_fewestClashing_63 : decode b_SettingSearch_fewestClashing 63 = .ok (.iload 6, 2) := by decide +kernel
theorem d_SettingSearch_fewestClashing_65 : decode b_SettingSearch_fewestClashing 65 = .ok (.iload_n 3, 1) := by decide +kernel
theorem d_SettingSearch_fewestClashing_66 : decode b_SettingSearch_fewestClashing 66 = .ok (.invokevirtual 196, 3) := by decide +kernel
theorem d_SettingSearch_fewestClashing_69 : decode b_SettingSearch_fewestClashing 69 = .ok (.ifCond .eq (14), 3) := by decide +kernel
theorem d_SettingSearch_fewestClashing_72 : decode b_SettingSearch_fewestClashing 72 = .ok (.iload 6, 2) := by decide +kernel
theorem d_SettingSearch_fewestClashing_74 : decode b_SettingSearch_fewestClashing 74 = .ok (.invokestatic 200, 3) := by decide +kernel
theorem d_SettingSearch_fewestClashing_77 : decode b_SettingSearch_fewestClashing 77 = .ok (.istore 4, 2) := by decide +kernel
theorem d_SettingSearch_fewestClashing_79 : decode b_SettingSearch_fewestClashing 79 = .ok (.iload 6, 2) := by decide +kernel
theorem d_SettingSearch_fewestClashing_81 : decode b_SettingSearch_fewestClashing 81 = .ok (.istore 5, 2) := by decide +kernel
theorem d_SettingSearch_fewestClashing_83 : decode b_SettingSearch_fewestClashing 83 = .ok (.iinc 6 (1), 3) := by decide +kernel
theorem d_SettingSearch_fewestClashing_86 : decode b_SettingSearch_fewestClashing 86 = .ok (.goto (-51), 3) := by decide +kernel
theorem d_SettingSearch_fewestClashing_89 : decode b_SettingSearch_fewestClashing 89 = .ok (.iload 5, 2) := by decide +kernel
theorem d_SettingSearch_fewestClashing_91 : decode b_SettingSearch_fewestClashing 91 = .ok (.ireturn, 1) := by decide +kernel
theorem d_SettingSearch_listKeptRules_0 : decode b_SettingSearch_listKeptRules 0 = .ok (.iconst 0, 1) := by decide +kernel
theorem d_SettingSearch_listKeptRules_1 : decode b_SettingSearch_listKeptRules 1 = .ok (.istore_n 2, 1) := by decide +kernel
theorem d_SettingSearch_listKeptRules_2 : decode b_SettingSearch_listKeptRules 2 = .ok (.iconst 0, 1) := by decide +kernel
theorem d_SettingSearch_listKeptRules_3 : decode b_SettingSearch_listKeptRules 3 = .ok (.istore_n 3, 1) := by decide +kernel
theorem d_SettingSearch_listKeptRules_4 : decode b_SettingSearch_listKeptRules 4 = .ok (.iload_n 3, 1) := by decide +kernel
theorem d_SettingSearch_listKeptRules_5 : decode b_SettingSearch_listKeptRules 5 = .ok (.bipush (64), 2) := by decide +kernel
theorem d_SettingSearch_listKeptRules_7 : decode b_SettingSearch_listKeptRules 7 = .ok (.if_icmp .ge (35), 3) := by decide +kernel
theorem d_SettingSearch_listKeptRules_10 : decode b_SettingSearch_listKeptRules 10 = .ok (.aload_n 1, 1) := by decide +kernel
theorem d_SettingSearch_listKeptRules_11 : decode b_SettingSearch_listKeptRules 11 = .ok (.iload_n 3, 1) := by decide +kernel
theorem d_SettingSearch_listKeptRules_12 : decode b_SettingSearch_listKeptRules 12 = .ok (.invokevirtual 164, 3) := by decide +kernel
theorem d_SettingSearch_listKeptRules_15 : decode b_SettingSearch_listKeptRules 15 = .ok (.ifCond .eq (21), 3) := by decide +kernel
theorem d_SettingSearch_listKeptRules_18 : decode b_SettingSearch_listKeptRules 18 = .ok (.aload_n 0, 1) := by decide +kernel
theorem d_SettingSearch_listKeptRules_19 : decode b_SettingSearch_listKeptRules 19 = .ok (.getfield 41, 3) := by decide +kernel
theorem d_SettingSearch_listKeptRules_22 : decode b_SettingSearch_listKeptRules 22 = .ok (.iload_n 2, 1) := by decide +kernel
theorem d_SettingSearch_listKeptRules_23 : decode b_SettingSearch_listKeptRules 23 = .ok (.aload_n 0, 1) := by decide +kernel
theorem d_SettingSearch_listKeptRules_24 : decode b_SettingSearch_listKeptRules 24 = .ok (.getfield 19, 3) := by decide +kernel
theorem d_SettingSearch_listKeptRules_27 : decode b_SettingSearch_listKeptRules 27 = .ok (.aload_n 1, 1) := by decide +kernel
theorem d_SettingSearch_listKeptRules_28 : decode b_SettingSearch_listKeptRules 28 = .ok (.iload_n 3, 1) := by decide +kernel
theorem d_SettingSearch_listKeptRules_29 : decode b_SettingSearch_listKeptRules 29 = .ok (.invokevirtual 174, 3) := by decide +kernel
theorem d_SettingSearch_listKeptRules_32 : decode b_SettingSearch_listKeptRules 32 = .ok (.iastore, 1) := by decide +kernel
theorem d_SettingSearch_listKeptRules_33 : decode b_SettingSearch_listKeptRules 33 = .ok (.iinc 2 (1), 3) := by decide +kernel
theorem d_SettingSearch_listKeptRules_36 : decode b_SettingSearch_listKeptRules 36 = .ok (.iinc 3 (1), 3) := by decide +kernel
theorem d_SettingSearch_listKeptRules_39 : decode b_SettingSearch_listKeptRules 39 = .ok (.goto (-35), 3) := by decide +kernel
theorem d_SettingSearch_listKeptRules_42 : decode b_SettingSearch_listKeptRules 42 = .ok (.iload_n 2, 1) := by decide +kernel
theorem d_SettingSearch_listKeptRules_43 : decode b_SettingSearch_listKeptRules 43 = .ok (.ireturn, 1) := by decide +kernel
theorem d_SettingSearch_noneKeeps_0 : decode b_SettingSearch_noneKeeps 0 = .ok (.iconst 0, 1) := by decide +kernel
theorem d_SettingSearch_noneKeeps_1 : decode b_SettingSearch_noneKeeps 1 = .ok (.istore_n 3, 1) := by decide +kernel
theorem d_SettingSearch_noneKeeps_2 : decode b_SettingSearch_noneKeeps 2 = .ok (.iload_n 3, 1) := by decide +kernel
theorem d_SettingSearch_noneKeeps_3 : decode b_SettingSearch_noneKeeps 3 = .ok (.iload_n 2, 1) := by decide +kernel
theorem d_SettingSearch_noneKeeps_4 : decode b_SettingSearch_noneKeeps 4 = .ok (.if_icmp .ge (23), 3) := by decide +kernel
theorem d_SettingSearch_noneKeeps_7 : decode b_SettingSearch_noneKeeps 7 = .ok (.aload_n 0, 1) := by decide +kernel
theorem d_SettingSearch_noneKeeps_8 : decode b_SettingSearch_noneKeeps 8 = .ok (.getfield 41, 3) := by decide +kernel
theorem d_SettingSearch_noneKeeps_11 : decode b_SettingSearch_noneKeeps 11 = .ok (.iload_n 3, 1) := by decide +kernel
theorem d_SettingSearch_noneKeeps_12 : decode b_SettingSearch_noneKeeps 12 = .ok (.iaload, 1) := by decide +kernel
theorem d_SettingSearch_noneKeeps_13 : decode b_SettingSearch_noneKeeps 13 = .ok (.iload_n 1, 1) := by decide +kernel
theorem d_SettingSearch_noneKeeps_14 : decode b_SettingSearch_noneKeeps 14 = .ok (.iand, 1) := by decide +kernel
theorem d_SettingSearch_noneKeeps_15 : decode b_SettingSearch_noneKeeps 15 = .ok (.iload_n 1, 1) := by decide +kernel
theorem d_SettingSearch_noneKeeps_16 : decode b_SettingSearch_noneKeeps 16 = .ok (.if_icmp .ne (5), 3) := by decide +kernel
theorem d_SettingSearch_noneKeeps_19 : decode b_SettingSearch_noneKeeps 19 = .ok (.iconst 0, 1) := by decide +kernel
theorem d_SettingSearch_noneKeeps_20 : decode b_SettingSearch_noneKeeps 20 = .ok (.ireturn, 1) := by decide +kernel
theorem d_SettingSearch_noneKeeps_21 : decode b_SettingSearch_noneKeeps 21 = .ok (.iinc 3 (1), 3) := by decide +kernel
theorem d_SettingSearch_noneKeeps_24 : decode b_SettingSearch_noneKeeps 24 = .ok (.goto (-22), 3) := by decide +kernel
theorem d_SettingSearch_noneKeeps_27 : decode b_SettingSearch_noneKeeps 27 = .ok (.iconst 1, 1) := by decide +kernel
theorem d_SettingSearch_noneKeeps_28 : decode b_SettingSearch_noneKeeps 28 = .ok (.ireturn, 1) := by decide +kernel
theorem d_SettingSearch_numberAt_0 : decode b_SettingSearch_numberAt 0 = .ok (.iconst 0, 1) := by decide +kernel
theorem d_SettingSearch_numberAt_1 : decode b_SettingSearch_numberAt 1 = .ok (.istore_n 2, 1) := by decide +kernel
theorem d_SettingSearch_numberAt_2 : decode b_SettingSearch_numberAt 2 = .ok (.iconst 0, 1) := by decide +kernel
theorem d_SettingSearch_numberAt_3 : decode b_SettingSearch_numberAt 3 = .ok (.istore_n 3, 1) := by decide +kernel
theorem d_SettingSearch_numberAt_4 : decode b_SettingSearch_numberAt 4 = .ok (.iload_n 3, 1) := by decide +kernel
theorem d_SettingSearch_numberAt_5 : decode b_SettingSearch_numberAt 5 = .ok (.bipush (9), 2) := by decide +kernel
theorem d_SettingSearch_numberAt_7 : decode b_SettingSearch_numberAt 7 = .ok (.if_icmp .ge (27), 3) := by decide +kernel
theorem d_SettingSearch_numberAt_10 : decode b_SettingSearch_numberAt 10 = .ok (.iload_n 0, 1) := by decide +kernel
theorem d_SettingSearch_numberAt_11 : decode b_SettingSearch_numberAt 11 = .ok (.iconst 1, 1) := by decide +kernel
theorem d_SettingSearch_numberAt_12 : decode b_SettingSearch_numberAt 12 = .ok (.iload_n 3, 1) := by decide +kernel
theorem d_SettingSearch_numberAt_13 : decode b_SettingSearch_numberAt 13 = .ok (.ishl, 1) := by decide +kernel
theorem d_SettingSearch_numberAt_14 : decode b_SettingSearch_numberAt 14 = .ok (.iand, 1) := by decide +kernel
theorem d_SettingSearch_numberAt_15 : decode b_SettingSearch_numberAt 15 = .ok (.ifCond .eq (13), 3) := by decide +kernel
theorem d_SettingSearch_numberAt_18 : decode b_SettingSearch_numberAt 18 = .ok (.iload_n 2, 1) := by decide +kernel
theorem d_SettingSearch_numberAt_19 : decode b_SettingSearch_numberAt 19 = .ok (.iload_n 1, 1) := by decide +kernel
theorem d_SettingSearch_numberAt_20 : decode b_SettingSearch_numberAt 20 = .ok (.if_icmp .ne (5), 3) := by decide +kernel
theorem d_SettingSearch_numberAt_23 : decode b_SettingSearch_numberAt 23 = .ok (.iload_n 3, 1) := by decide +kernel
theorem d_SettingSearch_numberAt_24 : decode b_SettingSearch_numberAt 24 = .ok (.ireturn, 1) := by decide +kernel
theorem d_SettingSearch_numberAt_25 : decode b_SettingSearch_numberAt 25 = .ok (.iinc 2 (1), 3) := by decide +kernel
theorem d_SettingSearch_numberAt_28 : decode b_SettingSearch_numberAt 28 = .ok (.iinc 3 (1), 3) := by decide +kernel
theorem d_SettingSearch_numberAt_31 : decode b_SettingSearch_numberAt 31 = .ok (.goto (-27), 3) := by decide +kernel
theorem d_SettingSearch_numberAt_34 : decode b_SettingSearch_numberAt 34 = .ok (.iconst (-1), 1) := by decide +kernel
theorem d_SettingSearch_numberAt_35 : decode b_SettingSearch_numberAt 35 = .ok (.ireturn, 1) := by decide +kernel

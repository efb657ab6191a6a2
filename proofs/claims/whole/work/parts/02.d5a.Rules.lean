theorem d_Rules_init_0 : decode b_Rules_init 0 = .ok (.aload_n 0, 1) := by decide +kernel
theorem d_Rules_init_1 : decode b_Rules_init 1 = .ok (.invokespecial 3, 3) := by decide +kernel
theorem d_Rules_init_4 : decode b_Rules_init 4 = .ok (.aload_n 0, 1) := by decide +kernel
theorem d_Rules_init_5 : decode b_Rules_init 5 = .ok (.iconst 4, 1) := by decide +kernel
theorem d_Rules_init_6 : decode b_Rules_init 6 = .ok (.newarray .int, 2) := by decide +kernel
theorem d_Rules_init_8 : decode b_Rules_init 8 = .ok (.putfield 9, 3) := by decide +kernel
theorem d_Rules_init_11 : decode b_Rules_init 11 = .ok (.aload_n 0, 1) := by decide +kernel
theorem d_Rules_init_12 : decode b_Rules_init 12 = .ok (.iconst 4, 1) := by decide +kernel
theorem d_Rules_init_13 : decode b_Rules_init 13 = .ok (.newarray .int, 2) := by decide +kernel
theorem d_Rules_init_15 : decode b_Rules_init 15 = .ok (.putfield 15, 3) := by decide +kernel
theorem d_Rules_init_18 : decode b_Rules_init 18 = .ok (.aload_n 0, 1) := by decide +kernel
theorem d_Rules_init_19 : decode b_Rules_init 19 = .ok (.iconst 4, 1) := by decide +kernel
theorem d_Rules_init_20 : decode b_Rules_init 20 = .ok (.newarray .int, 2) := by decide +kernel
theorem d_Rules_init_22 : decode b_Rules_init 22 = .ok (.putfield 18, 3) := by decide +kernel
theorem d_Rules_init_25 : decode b_Rules_init 25 = .ok (.aload_n 0, 1) := by decide +kernel
theorem d_Rules_init_26 : decode b_Rules_init 26 = .ok (.iconst 4, 1) := by decide +kernel
theorem d_Rules_init_27 : decode b_Rules_init 27 = .ok (.newarray .int, 2) := by decide +kernel
theorem d_Rules_init_29 : decode b_Rules_init 29 = .ok (.putfield 21, 3) := by decide +kernel
theorem d_Rules_init_32 : decode b_Rules_init 32 = .ok (.aload_n 0, 1) := by decide +kernel
theorem d_Rules_init_33 : decode b_Rules_init 33 = .ok (.iconst 5, 1) := by decide +kernel
theorem d_Rules_init_34 : decode b_Rules_init 34 = .ok (.newarray .int, 2) := by decide +kernel
theorem d_Rules_init_36 : decode b_Rules_init 36 = .ok (.putfield 24, 3) := by decide +kernel
theorem d_Rules_init_39 : decode b_Rules_init 39 = .ok (.aload_n 0, 1) := by decide +kernel
theorem d_Rules_init_40 : decode b_Rules_init 40 = .ok (.getfield 24, 3) := by decide +kernel
theorem d_Rules_init_43 : decode b_Rules_init 43 = .ok (.iconst (-1), 1) := by decide +kernel
theorem d_Rules_init_44 : decode b_Rules_init 44 = .ok (.invokestatic 27, 3) := by decide +kernel
theorem d_Rules_init_47 : decode b_Rules_init 47 = .ok (.return_, 1) := by decide +kernel
theorem d_Rules_addPurity_0 : decode b_Rules_addPurity 0 = .ok (.aload_n 0, 1) := by decide +kernel
theorem d_Rules_addPurity_1 : decode b_Rules_addPurity 1 = .ok (.getfield 33, 3) := by decide +kernel
theorem d_Rules_addPurity_4 : decode b_Rules_addPurity 4 = .ok (.iconst 4, 1) := by decide +kernel
theorem d_Rules_addPurity_5 : decode b_Rules_addPurity 5 = .ok (.if_icmp .ge (28), 3) := by decide +kernel
theorem d_Rules_addPurity_8 : decode b_Rules_addPurity 8 = .ok (.iload_n 3, 1) := by decide +kernel
theorem d_Rules_addPurity_9 : decode b_Rules_addPurity 9 = .ok (.ifCond .lt (24), 3) := by decide +kernel
theorem d_Rules_addPurity_12 : decode b_Rules_addPurity 12 = .ok (.iload_n 3, 1) := by decide +kernel
theorem d_Rules_addPurity_13 : decode b_Rules_addPurity 13 = .ok (.sipush (1000), 3) := by decide +kernel
theorem d_Rules_addPurity_16 : decode b_Rules_addPurity 16 = .ok (.if_icmp .gt (17), 3) := by decide +kernel
theorem d_Rules_addPurity_19 : decode b_Rules_addPurity 19 = .ok (.iload 4, 2) := by decide +kernel
theorem d_Rules_addPurity_21 : decode b_Rules_addPurity 21 = .ok (.iconst 1, 1) := by decide +kernel
theorem d_Rules_addPurity_22 : decode b_Rules_addPurity 22 = .ok (.if_icmp .lt (11), 3) := by decide +kernel
theorem d_Rules_addPurity_25 : decode b_Rules_addPurity 25 = .ok (.iload 4, 2) := by decide +kernel
theorem d_Rules_addPurity_27 : decode b_Rules_addPurity 27 = .ok (.sipush (1000), 3) := by decide +kernel
theorem d_Rules_addPurity_30 : decode b_Rules_addPurity 30 = .ok (.if_icmp .le (5), 3) := by decide +kernel
theorem d_Rules_addPurity_33 : decode b_Rules_addPurity 33 = .ok (.iconst (-1), 1) := by decide +kernel
theorem d_Rules_addPurity_34 : decode b_Rules_addPurity 34 = .ok (.ireturn, 1) := by decide +kernel
theorem d_Rules_addPurity_35 : decode b_Rules_addPurity 35 = .ok (.aload_n 0, 1) := by decide +kernel
theorem d_Rules_addPurity_36 : decode b_Rules_addPurity 36 = .ok (.getfield 9, 3) := by decide +kernel
theorem d_Rules_addPurity_39 : decode b_Rules_addPurity 39 = .ok (.aload_n 0, 1) := by decide +kernel
theorem d_Rules_addPurity_40 : decode b_Rules_addPurity 40 = .ok (.getfield 33, 3) := by decide +kernel
theorem d_Rules_addPurity_43 : decode b_Rules_addPurity 43 = .ok (.iload_n 1, 1) := by decide +kernel
theorem d_Rules_addPurity_44 : decode b_Rules_addPurity 44 = .ok (.iastore, 1) := by decide +kernel
theorem d_Rules_addPurity_45 : decode b_Rules_addPurity 45 = .ok (.aload_n 0, 1) := by decide +kernel
theorem d_Rules_addPurity_46 : decode b_Rules_addPurity 46 = .ok (.getfield 15, 3) := by decide +kernel
theorem d_Rules_addPurity_49 : decode b_Rules_addPurity 49 = .ok (.aload_n 0, 1) := by decide +kernel
theorem d_Rules_addPurity_50 : decode b_Rules_addPurity 50 = .ok (.getfield 33, 3) := by decide +kernel
theorem d_Rules_addPurity_53 : decode b_Rules_addPurity 53 = .ok (.iload_n 2, 1) := by decide +kernel
theorem d_Rules_addPurity_54 : decode b_Rules_addPurity 54 = .ok (.iastore, 1) := by decide +kernel
theorem d_Rules_addPurity_55 : decode b_Rules_addPurity 55 = .ok (.aload_n 0, 1) := by decide +kernel
theorem d_Rules_addPurity_56 : decode b_Rules_addPurity 56 = .ok (.getfield 18, 3) := by decide +kernel
theorem d_Rules_addPurity_59 : decode b_Rules_addPurity 59 = .ok (.aload_n 0, 1) := by decide +kernel
theorem d_Rules_addPurity_60 : decode b_Rules_addPurity 60 = .ok (.getfield 33, 3) := by decide +kernel
theorem d_Rules_addPurity_63 : decode b_Rules_addPurity 63 = .ok (.iload_n 3, 1) := by decide +kernel
theorem d_Rules_addPurity_64 : decode b_Rules_addPurity 64 = .ok (.iastore, 1) := by decide +kernel
theorem d_Rules_addPurity_65 : decode b_Rules_addPurity 65 = .ok (.aload_n 0, 1) := by decide +kernel
theorem d_Rules_addPurity_66 : decode b_Rules_addPurity 66 = .ok (.getfield 21, 3) := by decide +kernel
theorem d_Rules_addPurity_69 : decode b_Rules_addPurity 69 = .ok (.aload_n 0, 1) := by decide +kernel
theorem d_Rules_addPurity_70 : decode b_Rules_addPurity 70 = .ok (.getfield 33, 3) := by decide +kernel
theorem d_Rules_addPurity_73 : decode b_Rules_addPurity 73 = .ok (.iload 4, 2) := by decide +kernel
theorem d_Rules_addPurity_75 : decode b_Rules_addPurity 75 = .ok (.iastore, 1) := by decide +kernel
theorem d_Rules_addPurity_76 : decode b_Rules_addPurity 76 = .ok (.aload_n 0, 1) := by decide +kernel
theorem d_Rules_addPurity_77 : decode b_Rules_addPurity 77 = .ok (.dup, 1) := by decide +kernel
theorem d_Rules_addPurity_78 : decode b_Rules_addPurity 78 = .ok (.getfield 33, 3) := by decide +kernel
theorem d_Rules_addPurity_81 : decode b_Rules_addPurity 81 = .ok (.iconst 1, 1) := by decide +kernel
theorem d_Rules_addPurity_82 : decode b_Rules_addPurity 82 = .ok (.iadd, 1) := by decide +kernel
theorem d_Rules_addPurity_83 : decode b_Rules_addPurity 83 = .ok (.putfield 33, 3) := by decide +kernel
theorem d_Rules_addPurity_86 : decode b_Rules_addPurity 86 = .ok (.aload_n 0, 1) := by decide +kernel
theorem d_Rules_addPurity_87 : decode b_Rules_addPurity 87 = .ok (.getfield 33, 3) := by decide +kernel
theorem d_Rules_addPurity_90 : decode b_Rules_addPurity 90 = .ok (.iconst 1, 1) := by decide +kernel
theorem d_Rules_addPurity_91 : decode b_Rules_addPurity 91 = .ok (.isub, 1) := by decide +kernel
theorem d_Rules_addPurity_92 : decode b_Rules_addPurity 92 = .ok (.ireturn, 1) := by decide +kernel
theorem d_Rules_told_0 : decode b_Rules_told 0 = .ok (.iconst 1, 1) := by decide +kernel
theorem d_Rules_told_1 : decode b_Rules_told 1 = .ok (.aload_n 0, 1) := by decide +kernel
theorem d_Rules_told_2 : decode b_Rules_told 2 = .ok (.getfield 33, 3) := by decide +kernel
theorem d_Rules_told_5 : decode b_Rules_told 5 = .ok (.ishl, 1) := by decide +kernel
theorem d_Rules_told_6 : decode b_Rules_told 6 = .ok (.iconst 1, 1) := by decide +kernel
theorem d_Rules_told_7 : decode b_Rules_told 7 = .ok (.isub, 1) := by decide +kernel
theorem d_Rules_told_8 : decode b_Rules_told 8 = .ok (.istore_n 1, 1) := by decide +kernel
theorem d_Rules_told_9 : decode b_Rules_told 9 = .ok (.iconst 0, 1) := by decide +kernel
theorem d_Rules_told_10 : decode b_Rules_told 10 = .ok (.istore_n 2, 1) := by decide +kernel
theorem d_Rules_told_11 : decode b_Rules_told 11 = .ok (.iload_n 2, 1) := by decide +kernel
theorem d_Rules_told_12 : decode b_Rules_told 12 = .ok (.iconst 5, 1) := by decide +kernel
theorem d_Rules_told_13 : decode b_Rules_told 13 = .ok (.if_icmp .ge (27), 3) := by decide +kernel
theorem d_Rules_told_16 : decode b_Rules_told 16 = .ok (.aload_n 0, 1) := by decide +kernel
theorem d_Rules_told_17 : decode b_Rules_told 17 = .ok (.getfield 24, 3) := by decide +kernel
theorem d_Rules_told_20 : decode b_Rules_told 20 = .ok (.iload_n 2, 1) := by decide +kernel
theorem d_Rules_told_21 : decode b_Rules_told 21 = .ok (.iaload, 1) := by decide +kernel
theorem d_Rules_told_22 : decode b_Rules_told 22 = .ok (.iconst (-1), 1) := by decide +kernel
theorem d_Rules_told_23 : decode b_Rules_told 23 = .ok (.if_icmp .eq (11), 3) := by decide +kernel
theorem d_Rules_told_26 : decode b_Rules_told 26 = .ok (.iload_n 1, 1) := by decide +kernel
theorem d_Rules_told_27 : decode b_Rules_told 27 = .ok (.iconst 1, 1) := by decide +kernel
theorem d_Rules_told_28 : decode b_Rules_told 28 = .ok (.iconst 4, 1) := by decide +kernel
theorem d_Rules_told_29 : decode b_Rules_told 29 = .ok (.iload_n 2, 1) := by decide +kernel
theorem d_Rules_told_30 : decode b_Rules_told 30 = .ok (.iadd, 1) := by decide +kernel
theorem d_Rules_told_31 : decode b_Rules_told 31 = .ok (.ishl, 1) := by decide +kernel
theorem d_Rules_told_32 : decode b_Rules_told 32 = .ok (.ior, 1) := by decide +kernel
theorem d_Rules_told_33 : decode b_Rules_told 33 = .ok (.istore_n 1, 1) := by decide +kernel
theorem d_Rules_told_34 : decode b_Rules_told 34 = .ok (.iinc 2 (1), 3) := by decide +kernel
theorem d_Rules_told_37 : decode b_Rules_told 37 = .ok (.goto (-26), 3) := by decide +kernel
theorem d_Rules_told_40 : decode b_Rules_told 40 = .ok (.iload_n 1, 1) := by decide +kernel
theorem d_Rules_told_41 : decode b_Rules_told 41 = .ok (.ireturn, 1) := by decide +kernel
theorem d_Rules_keptBy_0 : decode b_Rules_keptBy 0 = .ok (.iconst 0, 1) := by decide +kernel
theorem d_Rules_keptBy_1 : decode b_Rules_keptBy 1 = .ok (.istore_n 3, 1) := by decide +kernel
theorem d_Rules_keptBy_2 : decode b_Rules_keptBy 2 = .ok (.iconst 0, 1) := by decide +kernel
theorem d_Rules_keptBy_3 : decode b_Rules_keptBy 3 = .ok (.istore 4, 2) := by decide +kernel
theorem d_Rules_keptBy_5 : decode b_Rules_keptBy 5 = .ok (.iload 4, 2) := by decide +kernel
theorem d_Rules_keptBy_7 : decode b_Rules_keptBy 7 = .ok (.aload_n 0, 1) := by decide +kernel
theorem d_Rules_keptBy_8 : decode b_Rules_keptBy 8 = .ok (.getfield 33, 3) := by decide +kernel
theorem d_Rules_keptBy_11 : decode b_Rules_keptBy 11 = .ok (.if_icmp .ge (27), 3) := by decide +kernel
theorem d_Rules_keptBy_14 : decode b_Rules_keptBy 14 = .ok (.aload_n 0, 1) := by decide +kernel
theorem d_Rules_keptBy_15 : decode b_Rules_keptBy 15 = .ok (.aload_n 1, 1) := by decide +kernel
theorem d_Rules_keptBy_16 : decode b_Rules_keptBy 16 = .ok (.iload_n 2, 1) := by decide +kernel
theorem d_Rules_keptBy_17 : decode b_Rules_keptBy 17 = .ok (.iload 4, 2) := by decide +kernel
theorem d_Rules_keptBy_19 : decode b_Rules_keptBy 19 = .ok (.invokevirtual 37, 3) := by decide +kernel
theorem d_Rules_keptBy_22 : decode b_Rules_keptBy 22 = .ok (.ifCond .eq (10), 3) := by decide +kernel
theorem d_Rules_keptBy_25 : decode b_Rules_keptBy 25 = .ok (.iload_n 3, 1) := by decide +kernel
theorem d_Rules_keptBy_26 : decode b_Rules_keptBy 26 = .ok (.iconst 1, 1) := by decide +kernel
theorem d_Rules_keptBy_27 : decode b_Rules_keptBy 27 = .ok (.iload 4, 2) := by decide +kernel
theorem d_Rules_keptBy_29 : decode b_Rules_keptBy 29 = .ok (.ishl, 1) := by decide +kernel
theorem d_Rules_keptBy_30 : decode b_Rules_keptBy 30 = .ok (.ior, 1) := by decide +kernel
theorem d_Rules_keptBy_31 : decode b_Rules_keptBy 31 = .ok (.istore_n 3, 1) := by decide +kernel
theorem d_Rules_keptBy_32 : decode b_Rules_keptBy 32 = .ok (.iinc 4 (1), 3) := by decide +kernel
theorem d_Rules_keptBy_35 : decode b_Rules_keptBy 35 = .ok (.goto (-30), 3) := by decide +kernel
theorem d_Rules_keptBy_38 : decode b_Rules_keptBy 38 = .ok (.iconst 0, 1) := by decide +kernel
theorem d_Rules_keptBy_39 : decode b_Rules_keptBy 39 = .ok (.istore 4, 2) := by decide +kernel
theorem d_Rules_keptBy_41 : decode b_Rules_keptBy 41 = .ok (.iload 4, 2) := by decide +kernel
theorem d_Rules_keptBy_43 : decode b_Rules_keptBy 43 = .ok (.iconst 5, 1) := by decide +kernel
theorem d_Rules_keptBy_44 : decode b_Rules_keptBy 44 = .ok (.if_icmp .ge (45), 3) := by decide +kernel
theorem d_Rules_keptBy_47 : decode b_Rules_keptBy 47 = .ok (.aload_n 0, 1) := by decide +kernel
theorem d_Rules_keptBy_48 : decode b_Rules_keptBy 48 = .ok (.getfield 24, 3) := by decide +kernel
theorem d_Rules_keptBy_51 : decode b_Rules_keptBy 51 = .ok (.iload 4, 2) := by decide +kernel
theorem d_Rules_keptBy_53 : decode b_Rules_keptBy 53 = .ok (.iaload, 1) := by decide +kernel
theorem d_Rules_keptBy_54 : decode b_Rules_keptBy 54 = .ok (.istore 5, 2) := by decide +kernel
theorem d_Rules_keptBy_56 : decode b_Rules_keptBy 56 = .ok (.iload 5, 2) := by decide +kernel
theorem d_Rules_keptBy_58 : decode b_Rules_keptBy 58 = .ok (.iconst (-1), 1) := by decide +kernel
theorem d_Rules_keptBy_59 : decode b_Rules_keptBy 59 = .ok (.if_icmp .eq (24), 3) := by decide +kernel
theorem d_Rules_keptBy_62 : decode b_Rules_keptBy 62 = .ok (.aload_n 1, 1) := by decide +kernel
theorem d_Rules_keptBy_63 : decode b_Rules_keptBy 63 = .ok (.iload_n 2, 1) := by decide +kernel
theorem d_Rules_keptBy_64 : decode b_Rules_keptBy 64 = .ok (.iload 4, 2) := by decide +kernel
theorem d_Rules_keptBy_66 : decode b_Rules_keptBy 66 = .ok (.invokevirtual 41, 3) := by decide +kernel
theorem d_Rules_keptBy_69 : decode b_Rules_keptBy 69 = .ok (.iload 5, 2) := by decide +kernel
theorem d_Rules_keptBy_71 : decode b_Rules_keptBy 71 = .ok (.if_icmp .gt (12), 3) := by decide +kernel
theorem d_Rules_keptBy_74 : decode b_Rules_keptBy 74 = .ok (.iload_n 3, 1) := by decide +kernel
theorem d_Rules_keptBy_75 : decode b_Rules_keptBy 75 = .ok (.iconst 1, 1) := by decide +kernel
theorem d_Rules_keptBy_76 : decode b_Rules_keptBy 76 = .ok (.iconst 4, 1) := by decide +kernel
theorem d_Rules_keptBy_77 : decode b_Rules_keptBy 77 = .ok (.iload 4, 2) := by decide +kernel
theorem d_Rules_keptBy_79 : decode b_Rules_keptBy 79 = .ok (.iadd, 1) := by decide +kernel
theorem d_Rules_keptBy_80 : decode b_Rules_keptBy 80 = .ok (.ishl, 1) := by decide +kernel
theorem d_Rules_keptBy_81 : decode b_Rules_keptBy 81 = .ok (.ior, 1) := by decide +kernel
theorem d_Rules_keptBy_82 : decode b_Rules_keptBy 82 = .ok (.istore_n 3, 1) := by decide +kernel
theorem d_Rules_keptBy_83 : decode b_Rules_keptBy 83 = .ok (.iinc 4 (1), 3) := by decide +kernel
theorem d_Rules_keptBy_86 : decode b_Rules_keptBy 86 = .ok (.goto (-45), 3) := by decide +kernel
theorem d_Rules_keptBy_89 : decode b_Rules_keptBy 89 = .ok (.iload_n 3, 1) := by decide +kernel
theorem d_Rules_keptBy_90 : decode b_Rules_keptBy 90 = .ok (.ireturn, 1) := by decide +kernel
theorem d_Rules_isPure_0 : decode b_Rules_isPure 0 = .ok (.lconst 0, 1) := by decide +kernel
theorem d_Rules_isPure_1 : decode b_Rules_isPure 1 = .ok (.lstore 4, 2) := by decide +kernel
theorem d_Rules_isPure_3 : decode b_Rules_isPure 3 = .ok (.iconst 0, 1) := by decide +kernel
theorem d_Rules_isPure_4 : decode b_Rules_isPure 4 = .ok (.istore 6, 2) := by decide +kernel
theorem d_Rules_isPure_6 : decode b_Rules_isPure 6 = .ok (.iload 6, 2) := by decide +kernel
theorem d_Rules_isPure_8 : decode b_Rules_isPure 8 = .ok (.iconst 3, 1) := by decide +kernel
theorem d_Rules_isPure_9 : decode b_Rules_isPure 9 = .ok (.if_icmp .ge (31), 3) := by decide +kernel
theorem d_Rules_isPure_12 : decode b_Rules_isPure 12 = .ok (.lload 4, 2) := by decide +kernel
theorem d_Rules_isPure_14 : decode b_Rules_isPure 14 = .ok (.aload_n 1, 1) := by decide +kernel
theorem d_Rules_isPure_15 : decode b_Rules_isPure 15 = .ok (.iload_n 2, 1) := by decide +kernel
theorem d_Rules_isPure_16 : decode b_Rules_isPure 16 = .ok (.aload_n 0, 1) := by decide +kernel
theorem d_Rules_isPure_17 : decode b_Rules_isPure 17 = .ok (.getfield 9, 3) := by decide +kernel
theorem d_Rules_isPure_20 : decode b_Rules_isPure 20 = .ok (.iload_n 3, 1) := by decide +kernel
theorem d_Rules_isPure_21 : decode b_Rules_isPure 21 = .ok (.iaload, 1) := by decide +kernel
theorem d_Rules_isPure_22 : decode b_Rules_isPure 22 = .ok (.iload 6, 2) := by decide +kernel
theorem d_Rules_isPure_24 : decode b_Rules_isPure 24 = .ok (.invokestatic 47, 3) := by decide +kernel
theorem d_Rules_isPure_27 : decode b_Rules_isPure 27 = .ok (.invokevirtual 50, 3) := by decide +kernel
theorem d_Rules_isPure_30 : decode b_Rules_isPure 30 = .ok (.i2l, 1) := by decide +kernel
theorem d_Rules_isPure_31 : decode b_Rules_isPure 31 = .ok (.ladd, 1) := by decide +kernel
theorem d_Rules_isPure_32 : decode b_Rules_isPure 32 = .ok (.lstore 4, 2) := by decide +kernel
theorem d_Rules_isPure_34 : decode b_Rules_isPure 34 = .ok (.iinc 6 (1), 3) := by decide +kernel
theorem d_Rules_isPure_37 : decode b_Rules_isPure 37 = .ok (.goto (-31), 3) := by decide +kernel
theorem d_Rules_isPure_40 : decode b_Rules_isPure 40 = .ok (.aload_n 1, 1) := by decide +kernel
theorem d_Rules_isPure_41 : decode b_Rules_isPure 41 = .ok (.iload_n 2, 1) := by decide +kernel
theorem d_Rules_isPure_42 : decode b_Rules_isPure 42 = .ok (.aload_n 0, 1) := by decide +kernel
theorem d_Rules_isPure_43 : decode b_Rules_isPure 43 = .ok (.getfield 9, 3) := by decide +kernel
theorem d_Rules_isPure_46 : decode b_Rules_isPure 46 = .ok (.iload_n 3, 1) := by decide +kernel
theorem d_Rules_isPure_47 : decode b_Rules_isPure 47 = .ok (.iaload, 1) := by decide +kernel
theorem d_Rules_isPure_48 : decode b_Rules_isPure 48 = .ok (.aload_n 0, 1) := by decide +kernel
theorem d_Rules_isPure_49 : decode b_Rules_isPure 49 = .ok (.getfield 15, 3) := by decide +kernel
theorem d_Rules_isPure_52 : decode b_Rules_isPure 52 = .ok (.iload_n 3, 1) := by decide +kernel
theorem d_Rules_isPure_53 : decode b_Rules_isPure 53 = .ok (.iaload, 1) := by decide +kernel
theorem d_Rules_isPure_54 : decode b_Rules_isPure 54 = .ok (.invokestatic 47, 3) := by decide +kernel
theorem d_Rules_isPure_57 : decode b_Rules_isPure 57 = .ok (.invokevirtual 50, 3) := by decide +kernel
theorem d_Rules_isPure_60 : decode b_Rules_isPure 60 = .ok (.i2l, 1) := by decide +kernel
theorem d_Rules_isPure_61 : decode b_Rules_isPure 61 = .ok (.lstore 6, 2) := by decide +kernel
theorem d_Rules_isPure_63 : decode b_Rules_isPure 63 = .ok (.lload 6, 2) := by decide +kernel
theorem d_Rules_isPure_65 : decode b_Rules_isPure 65 = .ok (.aload_n 0, 1) := by decide +kernel
theorem d_Rules_isPure_66 : decode b_Rules_isPure 66 = .ok (.getfield 21, 3) := by decide +kernel
theorem d_Rules_isPure_69 : decode b_Rules_isPure 69 = .ok (.iload_n 3, 1) := by decide +kernel
theorem d_Rules_isPure_70 : decode b_Rules_isPure 70 = .ok (.iaload, 1) := by decide +kernel
theorem d_Rules_isPure_71 : decode b_Rules_isPure 71 = .ok (.i2l, 1) := by decide +kernel
theorem d_Rules_isPure_72 : decode b_Rules_isPure 72 = .ok (.lmul, 1) := by decide +kernel
theorem d_Rules_isPure_73 : decode b_Rules_isPure 73 = .ok (.lload 4, 2) := by decide +kernel
theorem d_Rules_isPure_75 : decode b_Rules_isPure 75 = .ok (.aload_n 0, 1) := by decide +kernel
theorem d_Rules_isPure_76 : decode b_Rules_isPure 76 = .ok (.getfield 18, 3) := by decide +kernel
theorem d_Rules_isPure_79 : decode b_Rules_isPure 79 = .ok (.iload_n 3, 1) := by decide +kernel
theorem d_Rules_isPure_80 : decode b_Rules_isPure 80 = .ok (.iaload, 1) := by decide +kernel
theorem d_Rules_isPure_81 : decode b_Rules_isPure 81 = .ok (.i2l, 1) := by decide +kernel
theorem d_Rules_isPure_82 : decode b_Rules_isPure 82 = .ok (.lmul, 1) := by decide +kernel
theorem d_Rules_isPure_83 : decode b_Rules_isPure 83 = .ok (.lcmp, 1) := by decide +kernel
theorem d_Rules_isPure_84 : decode b_Rules_isPure 84 = .ok (.ifCond .lt (7), 3) := by decide +kernel
theorem d_Rules_isPure_87 : decode b_Rules_isPure 87 = .ok (.iconst 1, 1) := by decide +kernel
theorem d_Rules_isPure_88 : decode b_Rules_isPure 88 = .ok (.goto (4), 3) := by decide +kernel
theorem d_Rules_isPure_91 : decode b_Rules_isPure 91 = .ok (.iconst 0, 1) := by decide +kernel
theorem d_Rules_isPure_92 : decode b_Rules_isPure 92 = .ok (.ireturn, 1) := by decide +kernel

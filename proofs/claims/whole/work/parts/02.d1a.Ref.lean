theorem d_Ref_init_0 : decode b_Ref_init 0 = .ok (.aload_n 0, 1) := by decide +kernel
theorem d_Ref_init_1 : decode b_Ref_init 1 = .ok (.invokespecial 1, 3) := by decide +kernel
theorem d_Ref_init_4 : decode b_Ref_init 4 = .ok (.aload_n 0, 1) := by decide +kernel
theorem d_Ref_init_5 : decode b_Ref_init 5 = .ok (.iconst 5, 1) := by decide +kernel
theorem d_Ref_init_6 : decode b_Ref_init 6 = .ok (.newarray .int, 2) := by decide +kernel
theorem d_Ref_init_8 : decode b_Ref_init 8 = .ok (.putfield 7, 3) := by decide +kernel
theorem d_Ref_init_11 : decode b_Ref_init 11 = .ok (.aload_n 0, 1) := by decide +kernel
theorem d_Ref_init_12 : decode b_Ref_init 12 = .ok (.iconst 5, 1) := by decide +kernel
theorem d_Ref_init_13 : decode b_Ref_init 13 = .ok (.newarray .int, 2) := by decide +kernel
theorem d_Ref_init_15 : decode b_Ref_init 15 = .ok (.putfield 13, 3) := by decide +kernel
theorem d_Ref_init_18 : decode b_Ref_init 18 = .ok (.aload_n 0, 1) := by decide +kernel
theorem d_Ref_init_19 : decode b_Ref_init 19 = .ok (.iconst 1, 1) := by decide +kernel
theorem d_Ref_init_20 : decode b_Ref_init 20 = .ok (.putfield 16, 3) := by decide +kernel
theorem d_Ref_init_23 : decode b_Ref_init 23 = .ok (.aload_n 0, 1) := by decide +kernel
theorem d_Ref_init_24 : decode b_Ref_init 24 = .ok (.bipush (9), 2) := by decide +kernel
theorem d_Ref_init_26 : decode b_Ref_init 26 = .ok (.newarray .int, 2) := by decide +kernel
theorem d_Ref_init_28 : decode b_Ref_init 28 = .ok (.putfield 20, 3) := by decide +kernel
theorem d_Ref_init_31 : decode b_Ref_init 31 = .ok (.aload_n 0, 1) := by decide +kernel
theorem d_Ref_init_32 : decode b_Ref_init 32 = .ok (.iconst 4, 1) := by decide +kernel
theorem d_Ref_init_33 : decode b_Ref_init 33 = .ok (.newarray .int, 2) := by decide +kernel
theorem d_Ref_init_35 : decode b_Ref_init 35 = .ok (.putfield 23, 3) := by decide +kernel
theorem d_Ref_init_38 : decode b_Ref_init 38 = .ok (.aload_n 0, 1) := by decide +kernel
theorem d_Ref_init_39 : decode b_Ref_init 39 = .ok (.iconst 4, 1) := by decide +kernel
theorem d_Ref_init_40 : decode b_Ref_init 40 = .ok (.newarray .int, 2) := by decide +kernel
theorem d_Ref_init_42 : decode b_Ref_init 42 = .ok (.putfield 26, 3) := by decide +kernel
theorem d_Ref_init_45 : decode b_Ref_init 45 = .ok (.aload_n 0, 1) := by decide +kernel
theorem d_Ref_init_46 : decode b_Ref_init 46 = .ok (.iconst 4, 1) := by decide +kernel
theorem d_Ref_init_47 : decode b_Ref_init 47 = .ok (.newarray .int, 2) := by decide +kernel
theorem d_Ref_init_49 : decode b_Ref_init 49 = .ok (.putfield 29, 3) := by decide +kernel
theorem d_Ref_init_52 : decode b_Ref_init 52 = .ok (.aload_n 0, 1) := by decide +kernel
theorem d_Ref_init_53 : decode b_Ref_init 53 = .ok (.iconst 5, 1) := by decide +kernel
theorem d_Ref_init_54 : decode b_Ref_init 54 = .ok (.newarray .int, 2) := by decide +kernel
theorem d_Ref_init_56 : decode b_Ref_init 56 = .ok (.putfield 32, 3) := by decide +kernel
theorem d_Ref_init_59 : decode b_Ref_init 59 = .ok (.aload_n 0, 1) := by decide +kernel
theorem d_Ref_init_60 : decode b_Ref_init 60 = .ok (.iconst 4, 1) := by decide +kernel
theorem d_Ref_init_61 : decode b_Ref_init 61 = .ok (.newarray .int, 2) := by decide +kernel
theorem d_Ref_init_63 : decode b_Ref_init 63 = .ok (.putfield 35, 3) := by decide +kernel
theorem d_Ref_init_66 : decode b_Ref_init 66 = .ok (.aload_n 0, 1) := by decide +kernel
theorem d_Ref_init_67 : decode b_Ref_init 67 = .ok (.sipush (256), 3) := by decide +kernel
theorem d_Ref_init_70 : decode b_Ref_init 70 = .ok (.newarray .boolean, 2) := by decide +kernel
theorem d_Ref_init_72 : decode b_Ref_init 72 = .ok (.putfield 38, 3) := by decide +kernel
theorem d_Ref_init_75 : decode b_Ref_init 75 = .ok (.aload_n 0, 1) := by decide +kernel
theorem d_Ref_init_76 : decode b_Ref_init 76 = .ok (.sipush (2304), 3) := by decide +kernel
theorem d_Ref_init_79 : decode b_Ref_init 79 = .ok (.newarray .int, 2) := by decide +kernel
theorem d_Ref_init_81 : decode b_Ref_init 81 = .ok (.putfield 42, 3) := by decide +kernel
theorem d_Ref_init_84 : decode b_Ref_init 84 = .ok (.aload_n 0, 1) := by decide +kernel
theorem d_Ref_init_85 : decode b_Ref_init 85 = .ok (.sipush (1280), 3) := by decide +kernel
theorem d_Ref_init_88 : decode b_Ref_init 88 = .ok (.newarray .int, 2) := by decide +kernel
theorem d_Ref_init_90 : decode b_Ref_init 90 = .ok (.putfield 45, 3) := by decide +kernel
theorem d_Ref_init_93 : decode b_Ref_init 93 = .ok (.aload_n 0, 1) := by decide +kernel
theorem d_Ref_init_94 : decode b_Ref_init 94 = .ok (.iconst (-1), 1) := by decide +kernel
theorem d_Ref_init_95 : decode b_Ref_init 95 = .ok (.putfield 48, 3) := by decide +kernel
theorem d_Ref_init_98 : decode b_Ref_init 98 = .ok (.aload_n 0, 1) := by decide +kernel
theorem d_Ref_init_99 : decode b_Ref_init 99 = .ok (.bipush (64), 2) := by decide +kernel
theorem d_Ref_init_101 : decode b_Ref_init 101 = .ok (.newarray .int, 2) := by decide +kernel
theorem d_Ref_init_103 : decode b_Ref_init 103 = .ok (.putfield 51, 3) := by decide +kernel
theorem d_Ref_init_106 : decode b_Ref_init 106 = .ok (.aload_n 0, 1) := by decide +kernel
theorem d_Ref_init_107 : decode b_Ref_init 107 = .ok (.iconst (-1), 1) := by decide +kernel
theorem d_Ref_init_108 : decode b_Ref_init 108 = .ok (.putfield 54, 3) := by decide +kernel
theorem d_Ref_init_111 : decode b_Ref_init 111 = .ok (.aload_n 0, 1) := by decide +kernel
theorem d_Ref_init_112 : decode b_Ref_init 112 = .ok (.iconst (-1), 1) := by decide +kernel
theorem d_Ref_init_113 : decode b_Ref_init 113 = .ok (.putfield 57, 3) := by decide +kernel
theorem d_Ref_init_116 : decode b_Ref_init 116 = .ok (.iconst 0, 1) := by decide +kernel
theorem d_Ref_init_117 : decode b_Ref_init 117 = .ok (.istore_n 1, 1) := by decide +kernel
theorem d_Ref_init_118 : decode b_Ref_init 118 = .ok (.iload_n 1, 1) := by decide +kernel
theorem d_Ref_init_119 : decode b_Ref_init 119 = .ok (.iconst 5, 1) := by decide +kernel
theorem d_Ref_init_120 : decode b_Ref_init 120 = .ok (.if_icmp .ge (16), 3) := by decide +kernel
theorem d_Ref_init_123 : decode b_Ref_init 123 = .ok (.aload_n 0, 1) := by decide +kernel
theorem d_Ref_init_124 : decode b_Ref_init 124 = .ok (.getfield 32, 3) := by decide +kernel
theorem d_Ref_init_127 : decode b_Ref_init 127 = .ok (.iload_n 1, 1) := by decide +kernel
theorem d_Ref_init_128 : decode b_Ref_init 128 = .ok (.iconst (-1), 1) := by decide +kernel
theorem d_Ref_init_129 : decode b_Ref_init 129 = .ok (.iastore, 1) := by decide +kernel
theorem d_Ref_init_130 : decode b_Ref_init 130 = .ok (.iinc 1 (1), 3) := by decide +kernel
theorem d_Ref_init_133 : decode b_Ref_init 133 = .ok (.goto (-15), 3) := by decide +kernel
theorem d_Ref_init_136 : decode b_Ref_init 136 = .ok (.return_, 1) := by decide +kernel
theorem d_Ref_isIn_0 : decode b_Ref_isIn 0 = .ok (.lload_n 0, 1) := by decide +kernel
theorem d_Ref_isIn_1 : decode b_Ref_isIn 1 = .ok (.lload_n 2, 1) := by decide +kernel
theorem d_Ref_isIn_2 : decode b_Ref_isIn 2 = .ok (.lcmp, 1) := by decide +kernel
theorem d_Ref_isIn_3 : decode b_Ref_isIn 3 = .ok (.ifCond .lt (14), 3) := by decide +kernel
theorem d_Ref_isIn_6 : decode b_Ref_isIn 6 = .ok (.lload_n 0, 1) := by decide +kernel
theorem d_Ref_isIn_7 : decode b_Ref_isIn 7 = .ok (.lload 4, 2) := by decide +kernel
theorem d_Ref_isIn_9 : decode b_Ref_isIn 9 = .ok (.lcmp, 1) := by decide +kernel
theorem d_Ref_isIn_10 : decode b_Ref_isIn 10 = .ok (.ifCond .gt (7), 3) := by decide +kernel
theorem d_Ref_isIn_13 : decode b_Ref_isIn 13 = .ok (.iconst 1, 1) := by decide +kernel
theorem d_Ref_isIn_14 : decode b_Ref_isIn 14 = .ok (.goto (4), 3) := by decide +kernel
theorem d_Ref_isIn_17 : decode b_Ref_isIn 17 = .ok (.iconst 0, 1) := by decide +kernel
theorem d_Ref_isIn_18 : decode b_Ref_isIn 18 = .ok (.ireturn, 1) := by decide +kernel
theorem d_Ref_isMachine_0 : decode b_Ref_isMachine 0 = .ok (.iload_n 1, 1) := by decide +kernel
theorem d_Ref_isMachine_1 : decode b_Ref_isMachine 1 = .ok (.ifCond .lt (15), 3) := by decide +kernel
theorem d_Ref_isMachine_4 : decode b_Ref_isMachine 4 = .ok (.iload_n 1, 1) := by decide +kernel
theorem d_Ref_isMachine_5 : decode b_Ref_isMachine 5 = .ok (.aload_n 0, 1) := by decide +kernel
theorem d_Ref_isMachine_6 : decode b_Ref_isMachine 6 = .ok (.getfield 60, 3) := by decide +kernel
theorem d_Ref_isMachine_9 : decode b_Ref_isMachine 9 = .ok (.if_icmp .ge (7), 3) := by decide +kernel
theorem d_Ref_isMachine_12 : decode b_Ref_isMachine 12 = .ok (.iconst 1, 1) := by decide +kernel
theorem d_Ref_isMachine_13 : decode b_Ref_isMachine 13 = .ok (.goto (4), 3) := by decide +kernel
theorem d_Ref_isMachine_16 : decode b_Ref_isMachine 16 = .ok (.iconst 0, 1) := by decide +kernel
theorem d_Ref_isMachine_17 : decode b_Ref_isMachine 17 = .ok (.ireturn, 1) := by decide +kernel
theorem d_Ref_isCell_0 : decode b_Ref_isCell 0 = .ok (.iload_n 0, 1) := by decide +kernel
theorem d_Ref_isCell_1 : decode b_Ref_isCell 1 = .ok (.i2l, 1) := by decide +kernel
theorem d_Ref_isCell_2 : decode b_Ref_isCell 2 = .ok (.lconst 0, 1) := by decide +kernel
theorem d_Ref_isCell_3 : decode b_Ref_isCell 3 = .ok (.ldc2_w 63, 3) := by decide +kernel
theorem d_Ref_isCell_6 : decode b_Ref_isCell 6 = .ok (.invokestatic 65, 3) := by decide +kernel
theorem d_Ref_isCell_9 : decode b_Ref_isCell 9 = .ok (.ifCond .eq (19), 3) := by decide +kernel
theorem d_Ref_isCell_12 : decode b_Ref_isCell 12 = .ok (.iload_n 1, 1) := by decide +kernel
theorem d_Ref_isCell_13 : decode b_Ref_isCell 13 = .ok (.i2l, 1) := by decide +kernel
theorem d_Ref_isCell_14 : decode b_Ref_isCell 14 = .ok (.lconst 0, 1) := by decide +kernel
theorem d_Ref_isCell_15 : decode b_Ref_isCell 15 = .ok (.ldc2_w 63, 3) := by decide +kernel
theorem d_Ref_isCell_18 : decode b_Ref_isCell 18 = .ok (.invokestatic 65, 3) := by decide +kernel
theorem d_Ref_isCell_21 : decode b_Ref_isCell 21 = .ok (.ifCond .eq (7), 3) := by decide +kernel
theorem d_Ref_isCell_24 : decode b_Ref_isCell 24 = .ok (.iconst 1, 1) := by decide +kernel
theorem d_Ref_isCell_25 : decode b_Ref_isCell 25 = .ok (.goto (4), 3) := by decide +kernel
theorem d_Ref_isCell_28 : decode b_Ref_isCell 28 = .ok (.iconst 0, 1) := by decide +kernel
theorem d_Ref_isCell_29 : decode b_Ref_isCell 29 = .ok (.ireturn, 1) := by decide +kernel
theorem d_Ref_machine_0 : decode b_Ref_machine 0 = .ok (.aload_n 0, 1) := by decide +kernel
theorem d_Ref_machine_1 : decode b_Ref_machine 1 = .ok (.getfield 69, 3) := by decide +kernel
theorem d_Ref_machine_4 : decode b_Ref_machine 4 = .ok (.ifCond .ne (34), 3) := by decide +kernel
theorem d_Ref_machine_7 : decode b_Ref_machine 7 = .ok (.aload_n 0, 1) := by decide +kernel
theorem d_Ref_machine_8 : decode b_Ref_machine 8 = .ok (.getfield 60, 3) := by decide +kernel
theorem d_Ref_machine_11 : decode b_Ref_machine 11 = .ok (.iconst 5, 1) := by decide +kernel
theorem d_Ref_machine_12 : decode b_Ref_machine 12 = .ok (.if_icmp .eq (26), 3) := by decide +kernel
theorem d_Ref_machine_15 : decode b_Ref_machine 15 = .ok (.iload_n 1, 1) := by decide +kernel
theorem d_Ref_machine_16 : decode b_Ref_machine 16 = .ok (.i2l, 1) := by decide +kernel
theorem d_Ref_machine_17 : decode b_Ref_machine 17 = .ok (.lconst 1, 1) := by decide +kernel
theorem d_Ref_machine_18 : decode b_Ref_machine 18 = .ok (.ldc2_w 73, 3) := by decide +kernel
theorem d_Ref_machine_21 : decode b_Ref_machine 21 = .ok (.invokestatic 65, 3) := by decide +kernel
theorem d_Ref_machine_24 : decode b_Ref_machine 24 = .ok (.ifCond .eq (14), 3) := by decide +kernel
theorem d_Ref_machine_27 : decode b_Ref_machine 27 = .ok (.aload_n 0, 1) := by decide +kernel
theorem d_Ref_machine_28 : decode b_Ref_machine 28 = .ok (.getfield 16, 3) := by decide +kernel
theorem d_Ref_machine_31 : decode b_Ref_machine 31 = .ok (.iload_n 1, 1) := by decide +kernel
theorem d_Ref_machine_32 : decode b_Ref_machine 32 = .ok (.imul, 1) := by decide +kernel
theorem d_Ref_machine_33 : decode b_Ref_machine 33 = .ok (.bipush (64), 2) := by decide +kernel
theorem d_Ref_machine_35 : decode b_Ref_machine 35 = .ok (.if_icmp .le (5), 3) := by decide +kernel
theorem d_Ref_machine_38 : decode b_Ref_machine 38 = .ok (.iconst (-1), 1) := by decide +kernel
theorem d_Ref_machine_39 : decode b_Ref_machine 39 = .ok (.ireturn, 1) := by decide +kernel
theorem d_Ref_machine_40 : decode b_Ref_machine 40 = .ok (.aload_n 0, 1) := by decide +kernel
theorem d_Ref_machine_41 : decode b_Ref_machine 41 = .ok (.getfield 7, 3) := by decide +kernel
theorem d_Ref_machine_44 : decode b_Ref_machine 44 = .ok (.aload_n 0, 1) := by decide +kernel
theorem d_Ref_machine_45 : decode b_Ref_machine 45 = .ok (.getfield 60, 3) := by decide +kernel
theorem d_Ref_machine_48 : decode b_Ref_machine 48 = .ok (.iload_n 1, 1) := by decide +kernel
theorem d_Ref_machine_49 : decode b_Ref_machine 49 = .ok (.iastore, 1) := by decide +kernel
theorem d_Ref_machine_50 : decode b_Ref_machine 50 = .ok (.aload_n 0, 1) := by decide +kernel
theorem d_Ref_machine_51 : decode b_Ref_machine 51 = .ok (.getfield 13, 3) := by decide +kernel
theorem d_Ref_machine_54 : decode b_Ref_machine 54 = .ok (.aload_n 0, 1) := by decide +kernel
theorem d_Ref_machine_55 : decode b_Ref_machine 55 = .ok (.getfield 60, 3) := by decide +kernel
theorem d_Ref_machine_58 : decode b_Ref_machine 58 = .ok (.iconst 0, 1) := by decide +kernel
theorem d_Ref_machine_59 : decode b_Ref_machine 59 = .ok (.iastore, 1) := by decide +kernel
theorem d_Ref_machine_60 : decode b_Ref_machine 60 = .ok (.aload_n 0, 1) := by decide +kernel
theorem d_Ref_machine_61 : decode b_Ref_machine 61 = .ok (.dup, 1) := by decide +kernel
theorem d_Ref_machine_62 : decode b_Ref_machine 62 = .ok (.getfield 60, 3) := by decide +kernel
theorem d_Ref_machine_65 : decode b_Ref_machine 65 = .ok (.iconst 1, 1) := by decide +kernel
theorem d_Ref_machine_66 : decode b_Ref_machine 66 = .ok (.iadd, 1) := by decide +kernel
theorem d_Ref_machine_67 : decode b_Ref_machine 67 = .ok (.putfield 60, 3) := by decide +kernel
theorem d_Ref_machine_70 : decode b_Ref_machine 70 = .ok (.aload_n 0, 1) := by decide +kernel
theorem d_Ref_machine_71 : decode b_Ref_machine 71 = .ok (.dup, 1) := by decide +kernel
theorem d_Ref_machine_72 : decode b_Ref_machine 72 = .ok (.getfield 16, 3) := by decide +kernel
theorem d_Ref_machine_75 : decode b_Ref_machine 75 = .ok (.iload_n 1, 1) := by decide +kernel
theorem d_Ref_machine_76 : decode b_Ref_machine 76 = .ok (.imul, 1) := by decide +kernel
theorem d_Ref_machine_77 : decode b_Ref_machine 77 = .ok (.putfield 16, 3) := by decide +kernel
theorem d_Ref_machine_80 : decode b_Ref_machine 80 = .ok (.iconst 0, 1) := by decide +kernel
theorem d_Ref_machine_81 : decode b_Ref_machine 81 = .ok (.istore_n 2, 1) := by decide +kernel
theorem d_Ref_machine_82 : decode b_Ref_machine 82 = .ok (.iload_n 2, 1) := by decide +kernel
theorem d_Ref_machine_83 : decode b_Ref_machine 83 = .ok (.sipush (256), 3) := by decide +kernel
theorem d_Ref_machine_86 : decode b_Ref_machine 86 = .ok (.if_icmp .ge (16), 3) := by decide +kernel
theorem d_Ref_machine_89 : decode b_Ref_machine 89 = .ok (.aload_n 0, 1) := by decide +kernel
theorem d_Ref_machine_90 : decode b_Ref_machine 90 = .ok (.getfield 38, 3) := by decide +kernel
theorem d_Ref_machine_93 : decode b_Ref_machine 93 = .ok (.iload_n 2, 1) := by decide +kernel
theorem d_Ref_machine_94 : decode b_Ref_machine 94 = .ok (.iconst 0, 1) := by decide +kernel
theorem d_Ref_machine_95 : decode b_Ref_machine 95 = .ok (.bastore, 1) := by decide +kernel
theorem d_Ref_machine_96 : decode b_Ref_machine 96 = .ok (.iinc 2 (1), 3) := by decide +kernel
theorem d_Ref_machine_99 : decode b_Ref_machine 99 = .ok (.goto (-17), 3) := by decide +kernel
theorem d_Ref_machine_102 : decode b_Ref_machine 102 = .ok (.aload_n 0, 1) := by decide +kernel
theorem d_Ref_machine_103 : decode b_Ref_machine 103 = .ok (.iconst 0, 1) := by decide +kernel
theorem d_Ref_machine_104 : decode b_Ref_machine 104 = .ok (.putfield 75, 3) := by decide +kernel
theorem d_Ref_machine_107 : decode b_Ref_machine 107 = .ok (.aload_n 0, 1) := by decide +kernel
theorem d_Ref_machine_108 : decode b_Ref_machine 108 = .ok (.iconst (-1), 1) := by decide +kernel
theorem d_Ref_machine_109 : decode b_Ref_machine 109 = .ok (.putfield 48, 3) := by decide +kernel
theorem d_Ref_machine_112 : decode b_Ref_machine 112 = .ok (.aload_n 0, 1) := by decide +kernel
theorem d_Ref_machine_113 : decode b_Ref_machine 113 = .ok (.iconst 0, 1) := by decide +kernel
theorem d_Ref_machine_114 : decode b_Ref_machine 114 = .ok (.putfield 78, 3) := by decide +kernel
theorem d_Ref_machine_117 : decode b_Ref_machine 117 = .ok (.aload_n 0, 1) := by decide +kernel
theorem d_Ref_machine_118 : decode b_Ref_machine 118 = .ok (.iconst (-1), 1) := by decide +kernel
theorem d_Ref_machine_119 : decode b_Ref_machine 119 = .ok (.putfield 57, 3) := by decide +kernel
theorem d_Ref_machine_122 : decode b_Ref_machine 122 = .ok (.aload_n 0, 1) := by decide +kernel
theorem d_Ref_machine_123 : decode b_Ref_machine 123 = .ok (.getfield 60, 3) := by decide +kernel
theorem d_Ref_machine_126 : decode b_Ref_machine 126 = .ok (.iconst 1, 1) := by decide +kernel
theorem d_Ref_machine_127 : decode b_Ref_machine 127 = .ok (.isub, 1) := by decide +kernel
theorem d_Ref_machine_128 : decode b_Ref_machine 128 = .ok (.ireturn, 1) := by decide +kernel
theorem d_Ref_worth_0 : decode b_Ref_worth 0 = .ok (.aload_n 0, 1) := by decide +kernel
theorem d_Ref_worth_1 : decode b_Ref_worth 1 = .ok (.getfield 69, 3) := by decide +kernel
theorem d_Ref_worth_4 : decode b_Ref_worth 4 = .ok (.ifCond .ne (25), 3) := by decide +kernel
theorem d_Ref_worth_7 : decode b_Ref_worth 7 = .ok (.iload_n 1, 1) := by decide +kernel
theorem d_Ref_worth_8 : decode b_Ref_worth 8 = .ok (.iload_n 2, 1) := by decide +kernel
theorem d_Ref_worth_9 : decode b_Ref_worth 9 = .ok (.invokestatic 81, 3) := by decide +kernel
theorem d_Ref_worth_12 : decode b_Ref_worth 12 = .ok (.ifCond .eq (17), 3) := by decide +kernel
theorem d_Ref_worth_15 : decode b_Ref_worth 15 = .ok (.iload_n 3, 1) := by decide +kernel
theorem d_Ref_worth_16 : decode b_Ref_worth 16 = .ok (.i2l, 1) := by decide +kernel
theorem d_Ref_worth_17 : decode b_Ref_worth 17 = .ok (.ldc2_w 85, 3) := by decide +kernel
theorem d_Ref_worth_20 : decode b_Ref_worth 20 = .ok (.ldc2_w 87, 3) := by decide +kernel
theorem d_Ref_worth_23 : decode b_Ref_worth 23 = .ok (.invokestatic 65, 3) := by decide +kernel
theorem d_Ref_worth_26 : decode b_Ref_worth 26 = .ok (.ifCond .ne (5), 3) := by decide +kernel
theorem d_Ref_worth_29 : decode b_Ref_worth 29 = .ok (.iconst 0, 1) := by decide +kernel
theorem d_Ref_worth_30 : decode b_Ref_worth 30 = .ok (.ireturn, 1) := by decide +kernel
theorem d_Ref_worth_31 : decode b_Ref_worth 31 = .ok (.aload_n 0, 1) := by decide +kernel
theorem d_Ref_worth_32 : decode b_Ref_worth 32 = .ok (.getfield 20, 3) := by decide +kernel
theorem d_Ref_worth_35 : decode b_Ref_worth 35 = .ok (.iconst 3, 1) := by decide +kernel
theorem d_Ref_worth_36 : decode b_Ref_worth 36 = .ok (.iload_n 1, 1) := by decide +kernel
theorem d_Ref_worth_37 : decode b_Ref_worth 37 = .ok (.imul, 1) := by decide +kernel
theorem d_Ref_worth_38 : decode b_Ref_worth 38 = .ok (.iload_n 2, 1) := by decide +kernel
theorem d_Ref_worth_39 : decode b_Ref_worth 39 = .ok (.iadd, 1) := by decide +kernel
theorem d_Ref_worth_40 : decode b_Ref_worth 40 = .ok (.iload_n 3, 1) := by decide +kernel
theorem d_Ref_worth_41 : decode b_Ref_worth 41 = .ok (.iastore, 1) := by decide +kernel
theorem d_Ref_worth_42 : decode b_Ref_worth 42 = .ok (.iconst 1, 1) := by decide +kernel
theorem d_Ref_worth_43 : decode b_Ref_worth 43 = .ok (.ireturn, 1) := by decide +kernel
theorem d_Ref_purity_0 : decode b_Ref_purity 0 = .ok (.aload_n 0, 1) := by decide +kernel
theorem d_Ref_purity_1 : decode b_Ref_purity 1 = .ok (.getfield 69, 3) := by decide +kernel
theorem d_Ref_purity_4 : decode b_Ref_purity 4 = .ok (.ifCond .ne (44), 3) := by decide +kernel
theorem d_Ref_purity_7 : decode b_Ref_purity 7 = .ok (.aload_n 0, 1) := by decide +kernel
theorem d_Ref_purity_8 : decode b_Ref_purity 8 = .ok (.getfield 89, 3) := by decide +kernel
theorem d_Ref_purity_11 : decode b_Ref_purity 11 = .ok (.iconst 4, 1) := by decide +kernel
theorem d_Ref_purity_12 : decode b_Ref_purity 12 = .ok (.if_icmp .eq (36), 3) := by decide +kernel
theorem d_Ref_purity_15 : decode b_Ref_purity 15 = .ok (.iload_n 1, 1) := by decide +kernel
theorem d_Ref_purity_16 : decode b_Ref_purity 16 = .ok (.iload_n 2, 1) := by decide +kernel
theorem d_Ref_purity_17 : decode b_Ref_purity 17 = .ok (.invokestatic 81, 3) := by decide +kernel
theorem d_Ref_purity_20 : decode b_Ref_purity 20 = .ok (.ifCond .eq (28), 3) := by decide +kernel
theorem d_Ref_purity_23 : decode b_Ref_purity 23 = .ok (.iload_n 3, 1) := by decide +kernel
theorem d_Ref_purity_24 : decode b_Ref_purity 24 = .ok (.i2l, 1) := by decide +kernel
theorem d_Ref_purity_25 : decode b_Ref_purity 25 = .ok (.lconst 0, 1) := by decide +kernel
theorem d_Ref_purity_26 : decode b_Ref_purity 26 = .ok (.ldc2_w 87, 3) := by decide +kernel
theorem d_Ref_purity_29 : decode b_Ref_purity 29 = .ok (.invokestatic 65, 3) := by decide +kernel
theorem d_Ref_purity_32 : decode b_Ref_purity 32 = .ok (.ifCond .eq (16), 3) := by decide +kernel
theorem d_Ref_purity_35 : decode b_Ref_purity 35 = .ok (.iload 4, 2) := by decide +kernel
theorem d_Ref_purity_37 : decode b_Ref_purity 37 = .ok (.i2l, 1) := by decide +kernel
theorem d_Ref_purity_38 : decode b_Ref_purity 38 = .ok (.lconst 1, 1) := by decide +kernel
theorem d_Ref_purity_39 : decode b_Ref_purity 39 = .ok (.ldc2_w 87, 3) := by decide +kernel
theorem d_Ref_purity_42 : decode b_Ref_purity 42 = .ok (.invokestatic 65, 3) := by decide +kernel
theorem d_Ref_purity_45 : decode b_Ref_purity 45 = .ok (.ifCond .ne (5), 3) := by decide +kernel
theorem d_Ref_purity_48 : decode b_Ref_purity 48 = .ok (.iconst (-1), 1) := by decide +kernel
theorem d_Ref_purity_49 : decode b_Ref_purity 49 = .ok (.ireturn, 1) := by decide +kernel
theorem d_Ref_purity_50 : decode b_Ref_purity 50 = .ok (.aload_n 0, 1) := by decide +kernel
theorem d_Ref_purity_51 : decode b_Ref_purity 51 = .ok (.getfield 23, 3) := by decide +kernel
theorem d_Ref_purity_54 : decode b_Ref_purity 54 = .ok (.aload_n 0, 1) := by decide +kernel
theorem d_Ref_purity_55 : decode b_Ref_purity 55 = .ok (.getfield 89, 3) := by decide +kernel
theorem d_Ref_purity_58 : decode b_Ref_purity 58 = .ok (.iconst 3, 1) := by decide +kernel
theorem d_Ref_purity_59 : decode b_Ref_purity 59 = .ok (.iload_n 1, 1) := by decide +kernel
theorem d_Ref_purity_60 : decode b_Ref_purity 60 = .ok (.imul, 1) := by decide +kernel
theorem d_Ref_purity_61 : decode b_Ref_purity 61 = .ok (.iload_n 2, 1) := by decide +kernel
theorem d_Ref_purity_62 : decode b_Ref_purity 62 = .ok (.iadd, 1) := by decide +kernel
theorem d_Ref_purity_63 : decode b_Ref_purity 63 = .ok (.iastore, 1) := by decide +kernel
theorem d_Ref_purity_64 : decode b_Ref_purity 64 = .ok (.aload_n 0, 1) := by decide +kernel
theorem d_Ref_purity_65 : decode b_Ref_purity 65 = .ok (.getfield 26, 3) := by decide +kernel
theorem d_Ref_purity_68 : decode b_Ref_purity 68 = .ok (.aload_n 0, 1) := by decide +kernel
theorem d_Ref_purity_69 : decode b_Ref_purity 69 = .ok (.getfield 89, 3) := by decide +kernel
theorem d_Ref_purity_72 : decode b_Ref_purity 72 = .ok (.iload_n 3, 1) := by decide +kernel
theorem d_Ref_purity_73 : decode b_Ref_purity 73 = .ok (.iastore, 1) := by decide +kernel
theorem d_Ref_purity_74 : decode b_Ref_purity 74 = .ok (.aload_n 0, 1) := by decide +kernel
theorem d_Ref_purity_75 : decode b_Ref_purity 75 = .ok (.getfield 29, 3) := by decide +kernel
theorem d_Ref_purity_78 : decode b_Ref_purity 78 = .ok (.aload_n 0, 1) := by decide +kernel
theorem d_Ref_purity_79 : decode b_Ref_purity 79 = .ok (.getfield 89, 3) := by decide +kernel
theorem d_Ref_purity_82 : decode b_Ref_purity 82 = .ok (.iload 4, 2) := by decide +kernel
theorem d_Ref_purity_84 : decode b_Ref_purity 84 = .ok (.iastore, 1) := by decide +kernel
theorem d_Ref_purity_85 : decode b_Ref_purity 85 = .ok (.aload_n 0, 1) := by decide +kernel
theorem d_Ref_purity_86 : decode b_Ref_purity 86 = .ok (.dup, 1) := by decide +kernel
theorem d_Ref_purity_87 : decode b_Ref_purity 87 = .ok (.getfield 89, 3) := by decide +kernel
theorem d_Ref_purity_90 : decode b_Ref_purity 90 = .ok (.iconst 1, 1) := by decide +kernel
theorem d_Ref_purity_91 : decode b_Ref_purity 91 = .ok (.iadd, 1) := by decide +kernel
theorem d_Ref_purity_92 : decode b_Ref_purity 92 = .ok (.putfield 89, 3) := by decide +kernel
theorem d_Ref_purity_95 : decode b_Ref_purity 95 = .ok (.aload_n 0, 1) := by decide +kernel
theorem d_Ref_purity_96 : decode b_Ref_purity 96 = .ok (.getfield 89, 3) := by decide +kernel
theorem d_Ref_purity_99 : decode b_Ref_purity 99 = .ok (.iconst 1, 1) := by decide +kernel
theorem d_Ref_purity_100 : decode b_Ref_purity 100 = .ok (.isub, 1) := by decide +kernel
theorem d_Ref_purity_101 : decode b_Ref_purity 101 = .ok (.ireturn, 1) := by decide +kernel
theorem d_Ref_most_0 : decode b_Ref_most 0 = .ok (.aload_n 0, 1) := by decide +kernel
theorem d_Ref_most_1 : decode b_Ref_most 1 = .ok (.getfield 69, 3) := by decide +kernel
theorem d_Ref_most_4 : decode b_Ref_most 4 = .ok (.ifCond .ne (25), 3) := by decide +kernel
theorem d_Ref_most_7 : decode b_Ref_most 7 = .ok (.aload_n 0, 1) := by decide +kernel
theorem d_Ref_most_8 : decode b_Ref_most 8 = .ok (.iload_n 1, 1) := by decide +kernel
theorem d_Ref_most_9 : decode b_Ref_most 9 = .ok (.invokevirtual 92, 3) := by decide +kernel
theorem d_Ref_most_12 : decode b_Ref_most 12 = .ok (.ifCond .eq (17), 3) := by decide +kernel
theorem d_Ref_most_15 : decode b_Ref_most 15 = .ok (.iload_n 2, 1) := by decide +kernel
theorem d_Ref_most_16 : decode b_Ref_most 16 = .ok (.i2l, 1) := by decide +kernel
theorem d_Ref_most_17 : decode b_Ref_most 17 = .ok (.ldc2_w 96, 3) := by decide +kernel
theorem d_Ref_most_20 : decode b_Ref_most 20 = .ok (.ldc2_w 98, 3) := by decide +kernel
theorem d_Ref_most_23 : decode b_Ref_most 23 = .ok (.invokestatic 65, 3) := by decide +kernel
theorem d_Ref_most_26 : decode b_Ref_most 26 = .ok (.ifCond .ne (5), 3) := by decide +kernel
theorem d_Ref_most_29 : decode b_Ref_most 29 = .ok (.iconst 0, 1) := by decide +kernel
theorem d_Ref_most_30 : decode b_Ref_most 30 = .ok (.ireturn, 1) := by decide +kernel
theorem d_Ref_most_31 : decode b_Ref_most 31 = .ok (.aload_n 0, 1) := by decide +kernel
theorem d_Ref_most_32 : decode b_Ref_most 32 = .ok (.getfield 32, 3) := by decide +kernel
theorem d_Ref_most_35 : decode b_Ref_most 35 = .ok (.iload_n 1, 1) := by decide +kernel
theorem d_Ref_most_36 : decode b_Ref_most 36 = .ok (.iload_n 2, 1) := by decide +kernel
theorem d_Ref_most_37 : decode b_Ref_most 37 = .ok (.iastore, 1) := by decide +kernel
theorem d_Ref_most_38 : decode b_Ref_most 38 = .ok (.iconst 1, 1) := by decide +kernel
theorem d_Ref_most_39 : decode b_Ref_most 39 = .ok (.ireturn, 1) := by decide +kernel
theorem d_Ref_settingOf_0 : decode b_Ref_settingOf 0 = .ok (.iload_n 1, 1) := by decide +kernel
theorem d_Ref_settingOf_1 : decode b_Ref_settingOf 1 = .ok (.istore_n 3, 1) := by decide +kernel
theorem d_Ref_settingOf_2 : decode b_Ref_settingOf 2 = .ok (.aload_n 0, 1) := by decide +kernel
theorem d_Ref_settingOf_3 : decode b_Ref_settingOf 3 = .ok (.getfield 60, 3) := by decide +kernel
theorem d_Ref_settingOf_6 : decode b_Ref_settingOf 6 = .ok (.iconst 1, 1) := by decide +kernel
theorem d_Ref_settingOf_7 : decode b_Ref_settingOf 7 = .ok (.isub, 1) := by decide +kernel
theorem d_Ref_settingOf_8 : decode b_Ref_settingOf 8 = .ok (.istore 4, 2) := by decide +kernel
theorem d_Ref_settingOf_10 : decode b_Ref_settingOf 10 = .ok (.iload 4, 2) := by decide +kernel
theorem d_Ref_settingOf_12 : decode b_Ref_settingOf 12 = .ok (.iload_n 2, 1) := by decide +kernel
theorem d_Ref_settingOf_13 : decode b_Ref_settingOf 13 = .ok (.if_icmp .le (19), 3) := by decide +kernel
theorem d_Ref_settingOf_16 : decode b_Ref_settingOf 16 = .ok (.iload_n 3, 1) := by decide +kernel
theorem d_Ref_settingOf_17 : decode b_Ref_settingOf 17 = .ok (.aload_n 0, 1) := by decide +kernel
theorem d_Ref_settingOf_18 : decode b_Ref_settingOf 18 = .ok (.getfield 7, 3) := by decide +kernel
theorem d_Ref_settingOf_21 : decode b_Ref_settingOf 21 = .ok (.iload 4, 2) := by decide +kernel
theorem d_Ref_settingOf_23 : decode b_Ref_settingOf 23 = .ok (.iaload, 1) := by decide +kernel
theorem d_Ref_settingOf_24 : decode b_Ref_settingOf 24 = .ok (.idiv, 1) := by decide +kernel
theorem d_Ref_settingOf_25 : decode b_Ref_settingOf 25 = .ok (.istore_n 3, 1) := by decide +kernel
theorem d_Ref_settingOf_26 : decode b_Ref_settingOf 26 = .ok (.iinc 4 (-1), 3) := by decide +kernel
theorem d_Ref_settingOf_29 : decode b_Ref_settingOf 29 = .ok (.goto (-19), 3) := by decide +kernel
theorem d_Ref_settingOf_32 : decode b_Ref_settingOf 32 = .ok (.iload_n 3, 1) := by decide +kernel
theorem d_Ref_settingOf_33 : decode b_Ref_settingOf 33 = .ok (.aload_n 0, 1) := by decide +kernel
theorem d_Ref_settingOf_34 : decode b_Ref_settingOf 34 = .ok (.getfield 7, 3) := by decide +kernel
theorem d_Ref_settingOf_37 : decode b_Ref_settingOf 37 = .ok (.iload_n 2, 1) := by decide +kernel
theorem d_Ref_settingOf_38 : decode b_Ref_settingOf 38 = .ok (.iaload, 1) := by decide +kernel
theorem d_Ref_settingOf_39 : decode b_Ref_settingOf 39 = .ok (.irem, 1) := by decide +kernel
theorem d_Ref_settingOf_40 : decode b_Ref_settingOf 40 = .ok (.ireturn, 1) := by decide +kernel
theorem d_Ref_changesOf_0 : decode b_Ref_changesOf 0 = .ok (.iconst 0, 1) := by decide +kernel
theorem d_Ref_changesOf_1 : decode b_Ref_changesOf 1 = .ok (.istore_n 2, 1) := by decide +kernel
theorem d_Ref_changesOf_2 : decode b_Ref_changesOf 2 = .ok (.iconst 0, 1) := by decide +kernel
theorem d_Ref_changesOf_3 : decode b_Ref_changesOf 3 = .ok (.istore_n 3, 1) := by decide +kernel
theorem d_Ref_changesOf_4 : decode b_Ref_changesOf 4 = .ok (.iload_n 3, 1) := by decide +kernel
theorem d_Ref_changesOf_5 : decode b_Ref_changesOf 5 = .ok (.aload_n 0, 1) := by decide +kernel
theorem d_Ref_changesOf_6 : decode b_Ref_changesOf 6 = .ok (.getfield 60, 3) := by decide +kernel
theorem d_Ref_changesOf_9 : decode b_Ref_changesOf 9 = .ok (.if_icmp .ge (32), 3) := by decide +kernel
theorem d_Ref_changesOf_12 : decode b_Ref_changesOf 12 = .ok (.iload_n 2, 1) := by decide +kernel
theorem d_Ref_changesOf_13 : decode b_Ref_changesOf 13 = .ok (.aload_n 0, 1) := by decide +kernel
theorem d_Ref_changesOf_14 : decode b_Ref_changesOf 14 = .ok (.iload_n 1, 1) := by decide +kernel
theorem d_Ref_changesOf_15 : decode b_Ref_changesOf 15 = .ok (.iload_n 3, 1) := by decide +kernel
theorem d_Ref_changesOf_16 : decode b_Ref_changesOf 16 = .ok (.invokevirtual 100, 3) := by decide +kernel
theorem d_Ref_changesOf_19 : decode b_Ref_changesOf 19 = .ok (.aload_n 0, 1) := by decide +kernel
theorem d_Ref_changesOf_20 : decode b_Ref_changesOf 20 = .ok (.getfield 13, 3) := by decide +kernel
theorem d_Ref_changesOf_23 : decode b_Ref_changesOf 23 = .ok (.iload_n 3, 1) := by decide +kernel
theorem d_Ref_changesOf_24 : decode b_Ref_changesOf 24 = .ok (.iaload, 1) := by decide +kernel
theorem d_Ref_changesOf_25 : decode b_Ref_changesOf 25 = .ok (.if_icmp .eq (7), 3) := by decide +kernel
theorem d_Ref_changesOf_28 : decode b_Ref_changesOf 28 = .ok (.iconst 1, 1) := by decide +kernel
theorem d_Ref_changesOf_29 : decode b_Ref_changesOf 29 = .ok (.goto (4), 3) := by decide +kernel
theorem d_Ref_changesOf_32 : decode b_Ref_changesOf 32 = .ok (.iconst 0, 1) := by decide +kernel
theorem d_Ref_changesOf_33 : decode b_Ref_changesOf 33 = .ok (.iadd, 1) := by decide +kernel
theorem d_Ref_changesOf_34 : decode b_Ref_changesOf 34 = .ok (.istore_n 2, 1) := by decide +kernel
theorem d_Ref_changesOf_35 : decode b_Ref_changesOf 35 = .ok (.iinc 3 (1), 3) := by decide +kernel
theorem d_Ref_changesOf_38 : decode b_Ref_changesOf 38 = .ok (.goto (-34), 3) := by decide +kernel
theorem d_Ref_changesOf_41 : decode b_Ref_changesOf 41 = .ok (.iload_n 2, 1) := by decide +kernel
theorem d_Ref_changesOf_42 : decode b_Ref_changesOf 42 = .ok (.ireturn, 1) := by decide +kernel
theorem d_Ref_keeps_0 : decode b_Ref_keeps 0 = .ok (.iload_n 2, 1) := by decide +kernel
theorem d_Ref_keeps_1 : decode b_Ref_keeps 1 = .ok (.iconst 4, 1) := by decide +kernel
theorem d_Ref_keeps_2 : decode b_Ref_keeps 2 = .ok (.if_icmp .lt (49), 3) := by decide +kernel
theorem d_Ref_keeps_5 : decode b_Ref_keeps 5 = .ok (.iload_n 2, 1) := by decide +kernel
theorem d_Ref_keeps_6 : decode b_Ref_keeps 6 = .ok (.iconst 4, 1) := by decide +kernel
theorem d_Ref_keeps_7 : decode b_Ref_keeps 7 = .ok (.isub, 1) := by decide +kernel
theorem d_Ref_keeps_8 : decode b_Ref_keeps 8 = .ok (.istore_n 3, 1) := by decide +kernel
theorem d_Ref_keeps_9 : decode b_Ref_keeps 9 = .ok (.iload_n 3, 1) := by decide +kernel
theorem d_Ref_keeps_10 : decode b_Ref_keeps 10 = .ok (.aload_n 0, 1) := by decide +kernel
theorem d_Ref_keeps_11 : decode b_Ref_keeps 11 = .ok (.getfield 60, 3) := by decide +kernel
theorem d_Ref_keeps_14 : decode b_Ref_keeps 14 = .ok (.if_icmp .ge (31), 3) := by decide +kernel
theorem d_Ref_keeps_17 : decode b_Ref_keeps 17 = .ok (.aload_n 0, 1) := by decide +kernel
theorem d_Ref_keeps_18 : decode b_Ref_keeps 18 = .ok (.getfield 32, 3) := by decide +kernel
theorem d_Ref_keeps_21 : decode b_Ref_keeps 21 = .ok (.iload_n 3, 1) := by decide +kernel
theorem d_Ref_keeps_22 : decode b_Ref_keeps 22 = .ok (.iaload, 1) := by decide +kernel
theorem d_Ref_keeps_23 : decode b_Ref_keeps 23 = .ok (.ifCond .lt (22), 3) := by decide +kernel
theorem d_Ref_keeps_26 : decode b_Ref_keeps 26 = .ok (.aload_n 0, 1) := by decide +kernel
theorem d_Ref_keeps_27 : decode b_Ref_keeps 27 = .ok (.getfield 45, 3) := by decide +kernel
theorem d_Ref_keeps_30 : decode b_Ref_keeps 30 = .ok (.iconst 5, 1) := by decide +kernel
theorem d_Ref_keeps_31 : decode b_Ref_keeps 31 = .ok (.iload_n 1, 1) := by decide +kernel
theorem d_Ref_keeps_32 : decode b_Ref_keeps 32 = .ok (.imul, 1) := by decide +kernel
theorem d_Ref_keeps_33 : decode b_Ref_keeps 33 = .ok (.iload_n 3, 1) := by decide +kernel
theorem d_Ref_keeps_34 : decode b_Ref_keeps 34 = .ok (.iadd, 1) := by decide +kernel
theorem d_Ref_keeps_35 : decode b_Ref_keeps 35 = .ok (.iaload, 1) := by decide +kernel
theorem d_Ref_keeps_36 : decode b_Ref_keeps 36 = .ok (.aload_n 0, 1) := by decide +kernel
theorem d_Ref_keeps_37 : decode b_Ref_keeps 37 = .ok (.getfield 32, 3) := by decide +kernel
theorem d_Ref_keeps_40 : decode b_Ref_keeps 40 = .ok (.iload_n 3, 1) := by decide +kernel
theorem d_Ref_keeps_41 : decode b_Ref_keeps 41 = .ok (.iaload, 1) := by decide +kernel
theorem d_Ref_keeps_42 : decode b_Ref_keeps 42 = .ok (.if_icmp .gt (7), 3) := by decide +kernel
theorem d_Ref_keeps_45 : decode b_Ref_keeps 45 = .ok (.iconst 1, 1) := by decide +kernel
theorem d_Ref_keeps_46 : decode b_Ref_keeps 46 = .ok (.goto (4), 3) := by decide +kernel
theorem d_Ref_keeps_49 : decode b_Ref_keeps 49 = .ok (.iconst 0, 1) := by decide +kernel
theorem d_Ref_keeps_50 : decode b_Ref_keeps 50 = .ok (.ireturn, 1) := by decide +kernel
theorem d_Ref_keeps_51 : decode b_Ref_keeps 51 = .ok (.iload_n 2, 1) := by decide +kernel
theorem d_Ref_keeps_52 : decode b_Ref_keeps 52 = .ok (.aload_n 0, 1) := by decide +kernel
theorem d_Ref_keeps_53 : decode b_Ref_keeps 53 = .ok (.getfield 89, 3) := by decide +kernel
theorem d_Ref_keeps_56 : decode b_Ref_keeps 56 = .ok (.if_icmp .lt (5), 3) := by decide +kernel
theorem d_Ref_keeps_59 : decode b_Ref_keeps 59 = .ok (.iconst 1, 1) := by decide +kernel
theorem d_Ref_keeps_60 : decode b_Ref_keeps 60 = .ok (.ireturn, 1) := by decide +kernel
theorem d_Ref_keeps_61 : decode b_Ref_keeps 61 = .ok (.aload_n 0, 1) := by decide +kernel
theorem d_Ref_keeps_62 : decode b_Ref_keeps 62 = .ok (.getfield 23, 3) := by decide +kernel
theorem d_Ref_keeps_65 : decode b_Ref_keeps 65 = .ok (.iload_n 2, 1) := by decide +kernel
theorem d_Ref_keeps_66 : decode b_Ref_keeps 66 = .ok (.iaload, 1) := by decide +kernel
theorem d_Ref_keeps_67 : decode b_Ref_keeps 67 = .ok (.iconst 3, 1) := by decide +kernel
theorem d_Ref_keeps_68 : decode b_Ref_keeps 68 = .ok (.idiv, 1) := by decide +kernel
theorem d_Ref_keeps_69 : decode b_Ref_keeps 69 = .ok (.istore_n 3, 1) := by decide +kernel
theorem d_Ref_keeps_70 : decode b_Ref_keeps 70 = .ok (.lconst 0, 1) := by decide +kernel
theorem d_Ref_keeps_71 : decode b_Ref_keeps 71 = .ok (.lstore 4, 2) := by decide +kernel
theorem d_Ref_keeps_73 : decode b_Ref_keeps 73 = .ok (.iconst 0, 1) := by decide +kernel
theorem d_Ref_keeps_74 : decode b_Ref_keeps 74 = .ok (.istore 6, 2) := by decide +kernel
theorem d_Ref_keeps_76 : decode b_Ref_keeps 76 = .ok (.iload 6, 2) := by decide +kernel
theorem d_Ref_keeps_78 : decode b_Ref_keeps 78 = .ok (.iconst 3, 1) := by decide +kernel
theorem d_Ref_keeps_79 : decode b_Ref_keeps 79 = .ok (.if_icmp .ge (31), 3) := by decide +kernel
theorem d_Ref_keeps_82 : decode b_Ref_keeps 82 = .ok (.lload 4, 2) := by decide +kernel

theorem d_Ref_clash_87 : decode b_Ref_clash 87 = .ok (.ifCond .ne (6), 3) := by decide +kernel
theorem d_Ref_clash_90 : decode b_Ref_clash 90 = .ok (.iload 4, 2) := by decide +kernel
theorem d_Ref_clash_92 : decode b_Ref_clash 92 = .ok (.istore_n 3, 1) := by decide +kernel
theorem d_Ref_clash_93 : decode b_Ref_clash 93 = .ok (.iinc 4 (1), 3) := by decide +kernel
theorem d_Ref_clash_96 : decode b_Ref_clash 96 = .ok (.goto (-48), 3) := by decide +kernel
theorem d_Ref_clash_99 : decode b_Ref_clash 99 = .ok (.iconst 0, 1) := by decide +kernel
theorem d_Ref_clash_100 : decode b_Ref_clash 100 = .ok (.istore 4, 2) := by decide +kernel
theorem d_Ref_clash_102 : decode b_Ref_clash 102 = .ok (.iconst 0, 1) := by decide +kernel
theorem d_Ref_clash_103 : decode b_Ref_clash 103 = .ok (.istore 5, 2) := by decide +kernel
theorem d_Ref_clash_105 : decode b_Ref_clash 105 = .ok (.iload 5, 2) := by decide +kernel
theorem d_Ref_clash_107 : decode b_Ref_clash 107 = .ok (.bipush (9), 2) := by decide +kernel
theorem d_Ref_clash_109 : decode b_Ref_clash 109 = .ok (.if_icmp .ge (31), 3) := by decide +kernel
theorem d_Ref_clash_112 : decode b_Ref_clash 112 = .ok (.iload_n 3, 1) := by decide +kernel
theorem d_Ref_clash_113 : decode b_Ref_clash 113 = .ok (.iload 5, 2) := by decide +kernel
theorem d_Ref_clash_115 : decode b_Ref_clash 115 = .ok (.ishr, 1) := by decide +kernel
theorem d_Ref_clash_116 : decode b_Ref_clash 116 = .ok (.iconst 1, 1) := by decide +kernel
theorem d_Ref_clash_117 : decode b_Ref_clash 117 = .ok (.iand, 1) := by decide +kernel
theorem d_Ref_clash_118 : decode b_Ref_clash 118 = .ok (.iconst 1, 1) := by decide +kernel
theorem d_Ref_clash_119 : decode b_Ref_clash 119 = .ok (.if_icmp .ne (15), 3) := by decide +kernel
theorem d_Ref_clash_122 : decode b_Ref_clash 122 = .ok (.iload 4, 2) := by decide +kernel
theorem d_Ref_clash_124 : decode b_Ref_clash 124 = .ok (.iload_n 1, 1) := by decide +kernel
theorem d_Ref_clash_125 : decode b_Ref_clash 125 = .ok (.if_icmp .ne (6), 3) := by decide +kernel
theorem d_Ref_clash_128 : decode b_Ref_clash 128 = .ok (.iload 5, 2) := by decide +kernel
theorem d_Ref_clash_130 : decode b_Ref_clash 130 = .ok (.ireturn, 1) := by decide +kernel
theorem d_Ref_clash_131 : decode b_Ref_clash 131 = .ok (.iinc 4 (1), 3) := by decide +kernel
theorem d_Ref_clash_134 : decode b_Ref_clash 134 = .ok (.iinc 5 (1), 3) := by decide +kernel
theorem d_Ref_clash_137 : decode b_Ref_clash 137 = .ok (.goto (-32), 3) := by decide +kernel
theorem d_Ref_clash_140 : decode b_Ref_clash 140 = .ok (.iconst (-1), 1) := by decide +kernel
theorem d_Ref_clash_141 : decode b_Ref_clash 141 = .ok (.ireturn, 1) := by decide +kernel
theorem d_Ref_greatest_0 : decode b_Ref_greatest 0 = .ok (.ldc2_w 137, 3) := by decide +kernel
theorem d_Ref_greatest_3 : decode b_Ref_greatest 3 = .ok (.lstore_n 2, 1) := by decide +kernel
theorem d_Ref_greatest_4 : decode b_Ref_greatest 4 = .ok (.iconst 0, 1) := by decide +kernel
theorem d_Ref_greatest_5 : decode b_Ref_greatest 5 = .ok (.istore 4, 2) := by decide +kernel
theorem d_Ref_greatest_7 : decode b_Ref_greatest 7 = .ok (.iload 4, 2) := by decide +kernel
theorem d_Ref_greatest_9 : decode b_Ref_greatest 9 = .ok (.aload_n 0, 1) := by decide +kernel
theorem d_Ref_greatest_10 : decode b_Ref_greatest 10 = .ok (.getfield 16, 3) := by decide +kernel
theorem d_Ref_greatest_13 : decode b_Ref_greatest 13 = .ok (.if_icmp .ge (59), 3) := by decide +kernel
theorem d_Ref_greatest_16 : decode b_Ref_greatest 16 = .ok (.bipush (64), 2) := by decide +kernel
theorem d_Ref_greatest_18 : decode b_Ref_greatest 18 = .ok (.aload_n 0, 1) := by decide +kernel
theorem d_Ref_greatest_19 : decode b_Ref_greatest 19 = .ok (.getfield 48, 3) := by decide +kernel
theorem d_Ref_greatest_22 : decode b_Ref_greatest 22 = .ok (.imul, 1) := by decide +kernel
theorem d_Ref_greatest_23 : decode b_Ref_greatest 23 = .ok (.iload 4, 2) := by decide +kernel
theorem d_Ref_greatest_25 : decode b_Ref_greatest 25 = .ok (.iadd, 1) := by decide +kernel
theorem d_Ref_greatest_26 : decode b_Ref_greatest 26 = .ok (.istore 5, 2) := by decide +kernel
theorem d_Ref_greatest_28 : decode b_Ref_greatest 28 = .ok (.aload_n 0, 1) := by decide +kernel
theorem d_Ref_greatest_29 : decode b_Ref_greatest 29 = .ok (.getfield 38, 3) := by decide +kernel
theorem d_Ref_greatest_32 : decode b_Ref_greatest 32 = .ok (.iload 5, 2) := by decide +kernel
theorem d_Ref_greatest_34 : decode b_Ref_greatest 34 = .ok (.baload, 1) := by decide +kernel
theorem d_Ref_greatest_35 : decode b_Ref_greatest 35 = .ok (.ifCond .eq (31), 3) := by decide +kernel
theorem d_Ref_greatest_38 : decode b_Ref_greatest 38 = .ok (.aload_n 0, 1) := by decide +kernel
theorem d_Ref_greatest_39 : decode b_Ref_greatest 39 = .ok (.iload 5, 2) := by decide +kernel
theorem d_Ref_greatest_41 : decode b_Ref_greatest 41 = .ok (.iload_n 1, 1) := by decide +kernel
theorem d_Ref_greatest_42 : decode b_Ref_greatest 42 = .ok (.invokevirtual 118, 3) := by decide +kernel
theorem d_Ref_greatest_45 : decode b_Ref_greatest 45 = .ok (.ifCond .eq (21), 3) := by decide +kernel
theorem d_Ref_greatest_48 : decode b_Ref_greatest 48 = .ok (.aload_n 0, 1) := by decide +kernel
theorem d_Ref_greatest_49 : decode b_Ref_greatest 49 = .ok (.iload 5, 2) := by decide +kernel
theorem d_Ref_greatest_51 : decode b_Ref_greatest 51 = .ok (.invokevirtual 121, 3) := by decide +kernel
theorem d_Ref_greatest_54 : decode b_Ref_greatest 54 = .ok (.lload_n 2, 1) := by decide +kernel
theorem d_Ref_greatest_55 : decode b_Ref_greatest 55 = .ok (.lcmp, 1) := by decide +kernel
theorem d_Ref_greatest_56 : decode b_Ref_greatest 56 = .ok (.ifCond .le (10), 3) := by decide +kernel
theorem d_Ref_greatest_59 : decode b_Ref_greatest 59 = .ok (.aload_n 0, 1) := by decide +kernel
theorem d_Ref_greatest_60 : decode b_Ref_greatest 60 = .ok (.iload 5, 2) := by decide +kernel
theorem d_Ref_greatest_62 : decode b_Ref_greatest 62 = .ok (.invokevirtual 121, 3) := by decide +kernel
theorem d_Ref_greatest_65 : decode b_Ref_greatest 65 = .ok (.lstore_n 2, 1) := by decide +kernel
theorem d_Ref_greatest_66 : decode b_Ref_greatest 66 = .ok (.iinc 4 (1), 3) := by decide +kernel
theorem d_Ref_greatest_69 : decode b_Ref_greatest 69 = .ok (.goto (-62), 3) := by decide +kernel
theorem d_Ref_greatest_72 : decode b_Ref_greatest 72 = .ok (.lload_n 2, 1) := by decide +kernel
theorem d_Ref_greatest_73 : decode b_Ref_greatest 73 = .ok (.lreturn, 1) := by decide +kernel
theorem d_Ref_room_0 : decode b_Ref_room 0 = .ok (.aload_n 0, 1) := by decide +kernel
theorem d_Ref_room_1 : decode b_Ref_room 1 = .ok (.getfield 78, 3) := by decide +kernel
theorem d_Ref_room_4 : decode b_Ref_room 4 = .ok (.ifCond .eq (23), 3) := by decide +kernel
theorem d_Ref_room_7 : decode b_Ref_room 7 = .ok (.aload_n 0, 1) := by decide +kernel
theorem d_Ref_room_8 : decode b_Ref_room 8 = .ok (.iload_n 1, 1) := by decide +kernel
theorem d_Ref_room_9 : decode b_Ref_room 9 = .ok (.invokevirtual 92, 3) := by decide +kernel
theorem d_Ref_room_12 : decode b_Ref_room 12 = .ok (.ifCond .eq (15), 3) := by decide +kernel
theorem d_Ref_room_15 : decode b_Ref_room 15 = .ok (.aload_n 0, 1) := by decide +kernel
theorem d_Ref_room_16 : decode b_Ref_room 16 = .ok (.iconst (-1), 1) := by decide +kernel
theorem d_Ref_room_17 : decode b_Ref_room 17 = .ok (.invokevirtual 148, 3) := by decide +kernel
theorem d_Ref_room_20 : decode b_Ref_room 20 = .ok (.ldc2_w 137, 3) := by decide +kernel
theorem d_Ref_room_23 : decode b_Ref_room 23 = .ok (.lcmp, 1) := by decide +kernel
theorem d_Ref_room_24 : decode b_Ref_room 24 = .ok (.ifCond .ne (7), 3) := by decide +kernel
theorem d_Ref_room_27 : decode b_Ref_room 27 = .ok (.ldc2_w 137, 3) := by decide +kernel
theorem d_Ref_room_30 : decode b_Ref_room 30 = .ok (.lreturn, 1) := by decide +kernel
theorem d_Ref_room_31 : decode b_Ref_room 31 = .ok (.aload_n 0, 1) := by decide +kernel
theorem d_Ref_room_32 : decode b_Ref_room 32 = .ok (.iconst 4, 1) := by decide +kernel
theorem d_Ref_room_33 : decode b_Ref_room 33 = .ok (.iload_n 1, 1) := by decide +kernel
theorem d_Ref_room_34 : decode b_Ref_room 34 = .ok (.iadd, 1) := by decide +kernel
theorem d_Ref_room_35 : decode b_Ref_room 35 = .ok (.invokevirtual 148, 3) := by decide +kernel
theorem d_Ref_room_38 : decode b_Ref_room 38 = .ok (.aload_n 0, 1) := by decide +kernel
theorem d_Ref_room_39 : decode b_Ref_room 39 = .ok (.iconst (-1), 1) := by decide +kernel
theorem d_Ref_room_40 : decode b_Ref_room 40 = .ok (.invokevirtual 148, 3) := by decide +kernel
theorem d_Ref_room_43 : decode b_Ref_room 43 = .ok (.lsub, 1) := by decide +kernel
theorem d_Ref_room_44 : decode b_Ref_room 44 = .ok (.lreturn, 1) := by decide +kernel

theorem d_Ref_keeps_84 : decode b_Ref_keeps 84 = .ok (.aload_n 0, 1) := by decide +kernel
theorem d_Ref_keeps_85 : decode b_Ref_keeps 85 = .ok (.getfield 42, 3) := by decide +kernel
theorem d_Ref_keeps_88 : decode b_Ref_keeps 88 = .ok (.bipush (9), 2) := by decide +kernel
theorem d_Ref_keeps_90 : decode b_Ref_keeps 90 = .ok (.iload_n 1, 1) := by decide +kernel
theorem d_Ref_keeps_91 : decode b_Ref_keeps 91 = .ok (.imul, 1) := by decide +kernel
theorem d_Ref_keeps_92 : decode b_Ref_keeps 92 = .ok (.iconst 3, 1) := by decide +kernel
theorem d_Ref_keeps_93 : decode b_Ref_keeps 93 = .ok (.iload_n 3, 1) := by decide +kernel
theorem d_Ref_keeps_94 : decode b_Ref_keeps 94 = .ok (.imul, 1) := by decide +kernel
theorem d_Ref_keeps_95 : decode b_Ref_keeps 95 = .ok (.iadd, 1) := by decide +kernel
theorem d_Ref_keeps_96 : decode b_Ref_keeps 96 = .ok (.iload 6, 2) := by decide +kernel
theorem d_Ref_keeps_98 : decode b_Ref_keeps 98 = .ok (.iadd, 1) := by decide +kernel
theorem d_Ref_keeps_99 : decode b_Ref_keeps 99 = .ok (.iaload, 1) := by decide +kernel
theorem d_Ref_keeps_100 : decode b_Ref_keeps 100 = .ok (.i2l, 1) := by decide +kernel
theorem d_Ref_keeps_101 : decode b_Ref_keeps 101 = .ok (.ladd, 1) := by decide +kernel
theorem d_Ref_keeps_102 : decode b_Ref_keeps 102 = .ok (.lstore 4, 2) := by decide +kernel
theorem d_Ref_keeps_104 : decode b_Ref_keeps 104 = .ok (.iinc 6 (1), 3) := by decide +kernel
theorem d_Ref_keeps_107 : decode b_Ref_keeps 107 = .ok (.goto (-31), 3) := by decide +kernel
theorem d_Ref_keeps_110 : decode b_Ref_keeps 110 = .ok (.aload_n 0, 1) := by decide +kernel
theorem d_Ref_keeps_111 : decode b_Ref_keeps 111 = .ok (.getfield 42, 3) := by decide +kernel
theorem d_Ref_keeps_114 : decode b_Ref_keeps 114 = .ok (.bipush (9), 2) := by decide +kernel
theorem d_Ref_keeps_116 : decode b_Ref_keeps 116 = .ok (.iload_n 1, 1) := by decide +kernel
theorem d_Ref_keeps_117 : decode b_Ref_keeps 117 = .ok (.imul, 1) := by decide +kernel
theorem d_Ref_keeps_118 : decode b_Ref_keeps 118 = .ok (.aload_n 0, 1) := by decide +kernel
theorem d_Ref_keeps_119 : decode b_Ref_keeps 119 = .ok (.getfield 23, 3) := by decide +kernel
theorem d_Ref_keeps_122 : decode b_Ref_keeps 122 = .ok (.iload_n 2, 1) := by decide +kernel
theorem d_Ref_keeps_123 : decode b_Ref_keeps 123 = .ok (.iaload, 1) := by decide +kernel
theorem d_Ref_keeps_124 : decode b_Ref_keeps 124 = .ok (.iadd, 1) := by decide +kernel
theorem d_Ref_keeps_125 : decode b_Ref_keeps 125 = .ok (.iaload, 1) := by decide +kernel
theorem d_Ref_keeps_126 : decode b_Ref_keeps 126 = .ok (.i2l, 1) := by decide +kernel
theorem d_Ref_keeps_127 : decode b_Ref_keeps 127 = .ok (.aload_n 0, 1) := by decide +kernel
theorem d_Ref_keeps_128 : decode b_Ref_keeps 128 = .ok (.getfield 29, 3) := by decide +kernel
theorem d_Ref_keeps_131 : decode b_Ref_keeps 131 = .ok (.iload_n 2, 1) := by decide +kernel
theorem d_Ref_keeps_132 : decode b_Ref_keeps 132 = .ok (.iaload, 1) := by decide +kernel
theorem d_Ref_keeps_133 : decode b_Ref_keeps 133 = .ok (.i2l, 1) := by decide +kernel
theorem d_Ref_keeps_134 : decode b_Ref_keeps 134 = .ok (.lmul, 1) := by decide +kernel
theorem d_Ref_keeps_135 : decode b_Ref_keeps 135 = .ok (.aload_n 0, 1) := by decide +kernel
theorem d_Ref_keeps_136 : decode b_Ref_keeps 136 = .ok (.getfield 26, 3) := by decide +kernel
theorem d_Ref_keeps_139 : decode b_Ref_keeps 139 = .ok (.iload_n 2, 1) := by decide +kernel
theorem d_Ref_keeps_140 : decode b_Ref_keeps 140 = .ok (.iaload, 1) := by decide +kernel
theorem d_Ref_keeps_141 : decode b_Ref_keeps 141 = .ok (.i2l, 1) := by decide +kernel
theorem d_Ref_keeps_142 : decode b_Ref_keeps 142 = .ok (.lload 4, 2) := by decide +kernel
theorem d_Ref_keeps_144 : decode b_Ref_keeps 144 = .ok (.lmul, 1) := by decide +kernel
theorem d_Ref_keeps_145 : decode b_Ref_keeps 145 = .ok (.lcmp, 1) := by decide +kernel
theorem d_Ref_keeps_146 : decode b_Ref_keeps 146 = .ok (.ifCond .lt (7), 3) := by decide +kernel
theorem d_Ref_keeps_149 : decode b_Ref_keeps 149 = .ok (.iconst 1, 1) := by decide +kernel
theorem d_Ref_keeps_150 : decode b_Ref_keeps 150 = .ok (.goto (4), 3) := by decide +kernel
theorem d_Ref_keeps_153 : decode b_Ref_keeps 153 = .ok (.iconst 0, 1) := by decide +kernel
theorem d_Ref_keeps_154 : decode b_Ref_keeps 154 = .ok (.ireturn, 1) := by decide +kernel
theorem d_Ref_isTold_0 : decode b_Ref_isTold 0 = .ok (.iload_n 1, 1) := by decide +kernel
theorem d_Ref_isTold_1 : decode b_Ref_isTold 1 = .ok (.iconst 4, 1) := by decide +kernel
theorem d_Ref_isTold_2 : decode b_Ref_isTold 2 = .ok (.if_icmp .ge (19), 3) := by decide +kernel
theorem d_Ref_isTold_5 : decode b_Ref_isTold 5 = .ok (.iload_n 1, 1) := by decide +kernel
theorem d_Ref_isTold_6 : decode b_Ref_isTold 6 = .ok (.aload_n 0, 1) := by decide +kernel
theorem d_Ref_isTold_7 : decode b_Ref_isTold 7 = .ok (.getfield 89, 3) := by decide +kernel
theorem d_Ref_isTold_10 : decode b_Ref_isTold 10 = .ok (.if_icmp .ge (7), 3) := by decide +kernel
theorem d_Ref_isTold_13 : decode b_Ref_isTold 13 = .ok (.iconst 1, 1) := by decide +kernel
theorem d_Ref_isTold_14 : decode b_Ref_isTold 14 = .ok (.goto (33), 3) := by decide +kernel
theorem d_Ref_isTold_17 : decode b_Ref_isTold 17 = .ok (.iconst 0, 1) := by decide +kernel
theorem d_Ref_isTold_18 : decode b_Ref_isTold 18 = .ok (.goto (29), 3) := by decide +kernel
theorem d_Ref_isTold_21 : decode b_Ref_isTold 21 = .ok (.iload_n 1, 1) := by decide +kernel
theorem d_Ref_isTold_22 : decode b_Ref_isTold 22 = .ok (.iconst 4, 1) := by decide +kernel
theorem d_Ref_isTold_23 : decode b_Ref_isTold 23 = .ok (.isub, 1) := by decide +kernel
theorem d_Ref_isTold_24 : decode b_Ref_isTold 24 = .ok (.aload_n 0, 1) := by decide +kernel
theorem d_Ref_isTold_25 : decode b_Ref_isTold 25 = .ok (.getfield 60, 3) := by decide +kernel
theorem d_Ref_isTold_28 : decode b_Ref_isTold 28 = .ok (.if_icmp .ge (18), 3) := by decide +kernel
theorem d_Ref_isTold_31 : decode b_Ref_isTold 31 = .ok (.aload_n 0, 1) := by decide +kernel
theorem d_Ref_isTold_32 : decode b_Ref_isTold 32 = .ok (.getfield 32, 3) := by decide +kernel
theorem d_Ref_isTold_35 : decode b_Ref_isTold 35 = .ok (.iload_n 1, 1) := by decide +kernel
theorem d_Ref_isTold_36 : decode b_Ref_isTold 36 = .ok (.iconst 4, 1) := by decide +kernel
theorem d_Ref_isTold_37 : decode b_Ref_isTold 37 = .ok (.isub, 1) := by decide +kernel
theorem d_Ref_isTold_38 : decode b_Ref_isTold 38 = .ok (.iaload, 1) := by decide +kernel
theorem d_Ref_isTold_39 : decode b_Ref_isTold 39 = .ok (.ifCond .lt (7), 3) := by decide +kernel
theorem d_Ref_isTold_42 : decode b_Ref_isTold 42 = .ok (.iconst 1, 1) := by decide +kernel
theorem d_Ref_isTold_43 : decode b_Ref_isTold 43 = .ok (.goto (4), 3) := by decide +kernel
theorem d_Ref_isTold_46 : decode b_Ref_isTold 46 = .ok (.iconst 0, 1) := by decide +kernel
theorem d_Ref_isTold_47 : decode b_Ref_isTold 47 = .ok (.ireturn, 1) := by decide +kernel
theorem d_Ref_stands_0 : decode b_Ref_stands 0 = .ok (.iconst 1, 1) := by decide +kernel
theorem d_Ref_stands_1 : decode b_Ref_stands 1 = .ok (.istore_n 3, 1) := by decide +kernel
theorem d_Ref_stands_2 : decode b_Ref_stands 2 = .ok (.iconst 0, 1) := by decide +kernel
theorem d_Ref_stands_3 : decode b_Ref_stands 3 = .ok (.istore 4, 2) := by decide +kernel
theorem d_Ref_stands_5 : decode b_Ref_stands 5 = .ok (.iload 4, 2) := by decide +kernel
theorem d_Ref_stands_7 : decode b_Ref_stands 7 = .ok (.bipush (9), 2) := by decide +kernel
theorem d_Ref_stands_9 : decode b_Ref_stands 9 = .ok (.if_icmp .ge (35), 3) := by decide +kernel
theorem d_Ref_stands_12 : decode b_Ref_stands 12 = .ok (.iload_n 3, 1) := by decide +kernel
theorem d_Ref_stands_13 : decode b_Ref_stands 13 = .ok (.ifCond .eq (23), 3) := by decide +kernel
theorem d_Ref_stands_16 : decode b_Ref_stands 16 = .ok (.iload 4, 2) := by decide +kernel
theorem d_Ref_stands_18 : decode b_Ref_stands 18 = .ok (.iload_n 2, 1) := by decide +kernel
theorem d_Ref_stands_19 : decode b_Ref_stands 19 = .ok (.if_icmp .eq (13), 3) := by decide +kernel
theorem d_Ref_stands_22 : decode b_Ref_stands 22 = .ok (.aload_n 0, 1) := by decide +kernel
theorem d_Ref_stands_23 : decode b_Ref_stands 23 = .ok (.iload_n 1, 1) := by decide +kernel
theorem d_Ref_stands_24 : decode b_Ref_stands 24 = .ok (.iload 4, 2) := by decide +kernel
theorem d_Ref_stands_26 : decode b_Ref_stands 26 = .ok (.invokevirtual 104, 3) := by decide +kernel
theorem d_Ref_stands_29 : decode b_Ref_stands 29 = .ok (.ifCond .eq (7), 3) := by decide +kernel
theorem d_Ref_stands_32 : decode b_Ref_stands 32 = .ok (.iconst 1, 1) := by decide +kernel
theorem d_Ref_stands_33 : decode b_Ref_stands 33 = .ok (.goto (4), 3) := by decide +kernel
theorem d_Ref_stands_36 : decode b_Ref_stands 36 = .ok (.iconst 0, 1) := by decide +kernel
theorem d_Ref_stands_37 : decode b_Ref_stands 37 = .ok (.istore_n 3, 1) := by decide +kernel
theorem d_Ref_stands_38 : decode b_Ref_stands 38 = .ok (.iinc 4 (1), 3) := by decide +kernel
theorem d_Ref_stands_41 : decode b_Ref_stands 41 = .ok (.goto (-36), 3) := by decide +kernel
theorem d_Ref_stands_44 : decode b_Ref_stands 44 = .ok (.iload_n 3, 1) := by decide +kernel
theorem d_Ref_stands_45 : decode b_Ref_stands 45 = .ok (.ireturn, 1) := by decide +kernel
theorem d_Ref_worthOf_0 : decode b_Ref_worthOf 0 = .ok (.lconst 0, 1) := by decide +kernel
theorem d_Ref_worthOf_1 : decode b_Ref_worthOf 1 = .ok (.lstore_n 2, 1) := by decide +kernel
theorem d_Ref_worthOf_2 : decode b_Ref_worthOf 2 = .ok (.iconst 0, 1) := by decide +kernel
theorem d_Ref_worthOf_3 : decode b_Ref_worthOf 3 = .ok (.istore 4, 2) := by decide +kernel
theorem d_Ref_worthOf_5 : decode b_Ref_worthOf 5 = .ok (.iload 4, 2) := by decide +kernel
theorem d_Ref_worthOf_7 : decode b_Ref_worthOf 7 = .ok (.bipush (9), 2) := by decide +kernel
theorem d_Ref_worthOf_9 : decode b_Ref_worthOf 9 = .ok (.if_icmp .ge (34), 3) := by decide +kernel
theorem d_Ref_worthOf_12 : decode b_Ref_worthOf 12 = .ok (.lload_n 2, 1) := by decide +kernel
theorem d_Ref_worthOf_13 : decode b_Ref_worthOf 13 = .ok (.aload_n 0, 1) := by decide +kernel
theorem d_Ref_worthOf_14 : decode b_Ref_worthOf 14 = .ok (.getfield 42, 3) := by decide +kernel
theorem d_Ref_worthOf_17 : decode b_Ref_worthOf 17 = .ok (.bipush (9), 2) := by decide +kernel
theorem d_Ref_worthOf_19 : decode b_Ref_worthOf 19 = .ok (.iload_n 1, 1) := by decide +kernel
theorem d_Ref_worthOf_20 : decode b_Ref_worthOf 20 = .ok (.imul, 1) := by decide +kernel
theorem d_Ref_worthOf_21 : decode b_Ref_worthOf 21 = .ok (.iload 4, 2) := by decide +kernel
theorem d_Ref_worthOf_23 : decode b_Ref_worthOf 23 = .ok (.iadd, 1) := by decide +kernel
theorem d_Ref_worthOf_24 : decode b_Ref_worthOf 24 = .ok (.iaload, 1) := by decide +kernel
theorem d_Ref_worthOf_25 : decode b_Ref_worthOf 25 = .ok (.i2l, 1) := by decide +kernel
theorem d_Ref_worthOf_26 : decode b_Ref_worthOf 26 = .ok (.aload_n 0, 1) := by decide +kernel
theorem d_Ref_worthOf_27 : decode b_Ref_worthOf 27 = .ok (.getfield 20, 3) := by decide +kernel
theorem d_Ref_worthOf_30 : decode b_Ref_worthOf 30 = .ok (.iload 4, 2) := by decide +kernel
theorem d_Ref_worthOf_32 : decode b_Ref_worthOf 32 = .ok (.iaload, 1) := by decide +kernel
theorem d_Ref_worthOf_33 : decode b_Ref_worthOf 33 = .ok (.i2l, 1) := by decide +kernel
theorem d_Ref_worthOf_34 : decode b_Ref_worthOf 34 = .ok (.lmul, 1) := by decide +kernel
theorem d_Ref_worthOf_35 : decode b_Ref_worthOf 35 = .ok (.ladd, 1) := by decide +kernel
theorem d_Ref_worthOf_36 : decode b_Ref_worthOf 36 = .ok (.lstore_n 2, 1) := by decide +kernel
theorem d_Ref_worthOf_37 : decode b_Ref_worthOf 37 = .ok (.iinc 4 (1), 3) := by decide +kernel
theorem d_Ref_worthOf_40 : decode b_Ref_worthOf 40 = .ok (.goto (-35), 3) := by decide +kernel
theorem d_Ref_worthOf_43 : decode b_Ref_worthOf 43 = .ok (.lload_n 2, 1) := by decide +kernel
theorem d_Ref_worthOf_44 : decode b_Ref_worthOf 44 = .ok (.lreturn, 1) := by decide +kernel
theorem d_Ref_boundOf_0 : decode b_Ref_boundOf 0 = .ok (.iconst 0, 1) := by decide +kernel
theorem d_Ref_boundOf_1 : decode b_Ref_boundOf 1 = .ok (.istore_n 1, 1) := by decide +kernel
theorem d_Ref_boundOf_2 : decode b_Ref_boundOf 2 = .ok (.iconst 0, 1) := by decide +kernel
theorem d_Ref_boundOf_3 : decode b_Ref_boundOf 3 = .ok (.istore_n 2, 1) := by decide +kernel
theorem d_Ref_boundOf_4 : decode b_Ref_boundOf 4 = .ok (.iload_n 2, 1) := by decide +kernel
theorem d_Ref_boundOf_5 : decode b_Ref_boundOf 5 = .ok (.bipush (9), 2) := by decide +kernel
theorem d_Ref_boundOf_7 : decode b_Ref_boundOf 7 = .ok (.if_icmp .ge (30), 3) := by decide +kernel
theorem d_Ref_boundOf_10 : decode b_Ref_boundOf 10 = .ok (.aload_n 0, 1) := by decide +kernel
theorem d_Ref_boundOf_11 : decode b_Ref_boundOf 11 = .ok (.getfield 20, 3) := by decide +kernel
theorem d_Ref_boundOf_14 : decode b_Ref_boundOf 14 = .ok (.iload_n 2, 1) := by decide +kernel
theorem d_Ref_boundOf_15 : decode b_Ref_boundOf 15 = .ok (.iaload, 1) := by decide +kernel
theorem d_Ref_boundOf_16 : decode b_Ref_boundOf 16 = .ok (.iload_n 1, 1) := by decide +kernel
theorem d_Ref_boundOf_17 : decode b_Ref_boundOf 17 = .ok (.if_icmp .le (12), 3) := by decide +kernel
theorem d_Ref_boundOf_20 : decode b_Ref_boundOf 20 = .ok (.aload_n 0, 1) := by decide +kernel
theorem d_Ref_boundOf_21 : decode b_Ref_boundOf 21 = .ok (.getfield 20, 3) := by decide +kernel
theorem d_Ref_boundOf_24 : decode b_Ref_boundOf 24 = .ok (.iload_n 2, 1) := by decide +kernel
theorem d_Ref_boundOf_25 : decode b_Ref_boundOf 25 = .ok (.iaload, 1) := by decide +kernel
theorem d_Ref_boundOf_26 : decode b_Ref_boundOf 26 = .ok (.goto (4), 3) := by decide +kernel
theorem d_Ref_boundOf_29 : decode b_Ref_boundOf 29 = .ok (.iload_n 1, 1) := by decide +kernel
theorem d_Ref_boundOf_30 : decode b_Ref_boundOf 30 = .ok (.istore_n 1, 1) := by decide +kernel
theorem d_Ref_boundOf_31 : decode b_Ref_boundOf 31 = .ok (.iinc 2 (1), 3) := by decide +kernel
theorem d_Ref_boundOf_34 : decode b_Ref_boundOf 34 = .ok (.goto (-30), 3) := by decide +kernel
theorem d_Ref_boundOf_37 : decode b_Ref_boundOf 37 = .ok (.aload_n 0, 1) := by decide +kernel
theorem d_Ref_boundOf_38 : decode b_Ref_boundOf 38 = .ok (.getfield 35, 3) := by decide +kernel
theorem d_Ref_boundOf_41 : decode b_Ref_boundOf 41 = .ok (.aload_n 0, 1) := by decide +kernel
theorem d_Ref_boundOf_42 : decode b_Ref_boundOf 42 = .ok (.getfield 48, 3) := by decide +kernel
theorem d_Ref_boundOf_45 : decode b_Ref_boundOf 45 = .ok (.iaload, 1) := by decide +kernel
theorem d_Ref_boundOf_46 : decode b_Ref_boundOf 46 = .ok (.i2l, 1) := by decide +kernel
theorem d_Ref_boundOf_47 : decode b_Ref_boundOf 47 = .ok (.iload_n 1, 1) := by decide +kernel
theorem d_Ref_boundOf_48 : decode b_Ref_boundOf 48 = .ok (.i2l, 1) := by decide +kernel
theorem d_Ref_boundOf_49 : decode b_Ref_boundOf 49 = .ok (.lmul, 1) := by decide +kernel
theorem d_Ref_boundOf_50 : decode b_Ref_boundOf 50 = .ok (.lreturn, 1) := by decide +kernel
theorem d_Ref_feedAt_0 : decode b_Ref_feedAt 0 = .ok (.iconst 0, 1) := by decide +kernel
theorem d_Ref_feedAt_1 : decode b_Ref_feedAt 1 = .ok (.istore_n 3, 1) := by decide +kernel
theorem d_Ref_feedAt_2 : decode b_Ref_feedAt 2 = .ok (.iload_n 3, 1) := by decide +kernel
theorem d_Ref_feedAt_3 : decode b_Ref_feedAt 3 = .ok (.aload_n 0, 1) := by decide +kernel
theorem d_Ref_feedAt_4 : decode b_Ref_feedAt 4 = .ok (.getfield 75, 3) := by decide +kernel
theorem d_Ref_feedAt_7 : decode b_Ref_feedAt 7 = .ok (.if_icmp .ge (23), 3) := by decide +kernel
theorem d_Ref_feedAt_10 : decode b_Ref_feedAt 10 = .ok (.aload_n 0, 1) := by decide +kernel
theorem d_Ref_feedAt_11 : decode b_Ref_feedAt 11 = .ok (.getfield 35, 3) := by decide +kernel
theorem d_Ref_feedAt_14 : decode b_Ref_feedAt 14 = .ok (.iload_n 3, 1) := by decide +kernel
theorem d_Ref_feedAt_15 : decode b_Ref_feedAt 15 = .ok (.iaload, 1) := by decide +kernel
theorem d_Ref_feedAt_16 : decode b_Ref_feedAt 16 = .ok (.i2l, 1) := by decide +kernel
theorem d_Ref_feedAt_17 : decode b_Ref_feedAt 17 = .ok (.lload_n 1, 1) := by decide +kernel
theorem d_Ref_feedAt_18 : decode b_Ref_feedAt 18 = .ok (.lcmp, 1) := by decide +kernel
theorem d_Ref_feedAt_19 : decode b_Ref_feedAt 19 = .ok (.ifCond .ne (5), 3) := by decide +kernel
theorem d_Ref_feedAt_22 : decode b_Ref_feedAt 22 = .ok (.iload_n 3, 1) := by decide +kernel
theorem d_Ref_feedAt_23 : decode b_Ref_feedAt 23 = .ok (.ireturn, 1) := by decide +kernel
theorem d_Ref_feedAt_24 : decode b_Ref_feedAt 24 = .ok (.iinc 3 (1), 3) := by decide +kernel
theorem d_Ref_feedAt_27 : decode b_Ref_feedAt 27 = .ok (.goto (-25), 3) := by decide +kernel
theorem d_Ref_feedAt_30 : decode b_Ref_feedAt 30 = .ok (.iconst (-1), 1) := by decide +kernel
theorem d_Ref_feedAt_31 : decode b_Ref_feedAt 31 = .ok (.ireturn, 1) := by decide +kernel
theorem d_Ref_feed_0 : decode b_Ref_feed 0 = .ok (.aload_n 0, 1) := by decide +kernel
theorem d_Ref_feed_1 : decode b_Ref_feed 1 = .ok (.getfield 69, 3) := by decide +kernel
theorem d_Ref_feed_4 : decode b_Ref_feed 4 = .ok (.ifCond .ne (37), 3) := by decide +kernel
theorem d_Ref_feed_7 : decode b_Ref_feed 7 = .ok (.aload_n 0, 1) := by decide +kernel
theorem d_Ref_feed_8 : decode b_Ref_feed 8 = .ok (.getfield 60, 3) := by decide +kernel
theorem d_Ref_feed_11 : decode b_Ref_feed 11 = .ok (.ifCond .eq (30), 3) := by decide +kernel
theorem d_Ref_feed_14 : decode b_Ref_feed 14 = .ok (.lload_n 1, 1) := by decide +kernel
theorem d_Ref_feed_15 : decode b_Ref_feed 15 = .ok (.lconst 1, 1) := by decide +kernel
theorem d_Ref_feed_16 : decode b_Ref_feed 16 = .ok (.ldc2_w 98, 3) := by decide +kernel
theorem d_Ref_feed_19 : decode b_Ref_feed 19 = .ok (.invokestatic 65, 3) := by decide +kernel
theorem d_Ref_feed_22 : decode b_Ref_feed 22 = .ok (.ifCond .eq (19), 3) := by decide +kernel
theorem d_Ref_feed_25 : decode b_Ref_feed 25 = .ok (.aload_n 0, 1) := by decide +kernel
theorem d_Ref_feed_26 : decode b_Ref_feed 26 = .ok (.lload_n 1, 1) := by decide +kernel
theorem d_Ref_feed_27 : decode b_Ref_feed 27 = .ok (.invokevirtual 107, 3) := by decide +kernel
theorem d_Ref_feed_30 : decode b_Ref_feed 30 = .ok (.ifCond .ge (13), 3) := by decide +kernel
theorem d_Ref_feed_33 : decode b_Ref_feed 33 = .ok (.aload_n 0, 1) := by decide +kernel
theorem d_Ref_feed_34 : decode b_Ref_feed 34 = .ok (.getfield 75, 3) := by decide +kernel
theorem d_Ref_feed_37 : decode b_Ref_feed 37 = .ok (.iconst 4, 1) := by decide +kernel
theorem d_Ref_feed_38 : decode b_Ref_feed 38 = .ok (.if_icmp .ne (5), 3) := by decide +kernel
theorem d_Ref_feed_41 : decode b_Ref_feed 41 = .ok (.iconst 0, 1) := by decide +kernel
theorem d_Ref_feed_42 : decode b_Ref_feed 42 = .ok (.ireturn, 1) := by decide +kernel
theorem d_Ref_feed_43 : decode b_Ref_feed 43 = .ok (.aload_n 0, 1) := by decide +kernel
theorem d_Ref_feed_44 : decode b_Ref_feed 44 = .ok (.lload_n 1, 1) := by decide +kernel
theorem d_Ref_feed_45 : decode b_Ref_feed 45 = .ok (.invokevirtual 107, 3) := by decide +kernel
theorem d_Ref_feed_48 : decode b_Ref_feed 48 = .ok (.ifCond .ge (24), 3) := by decide +kernel
theorem d_Ref_feed_51 : decode b_Ref_feed 51 = .ok (.aload_n 0, 1) := by decide +kernel
theorem d_Ref_feed_52 : decode b_Ref_feed 52 = .ok (.getfield 35, 3) := by decide +kernel
theorem d_Ref_feed_55 : decode b_Ref_feed 55 = .ok (.aload_n 0, 1) := by decide +kernel
theorem d_Ref_feed_56 : decode b_Ref_feed 56 = .ok (.getfield 75, 3) := by decide +kernel
theorem d_Ref_feed_59 : decode b_Ref_feed 59 = .ok (.lload_n 1, 1) := by decide +kernel
theorem d_Ref_feed_60 : decode b_Ref_feed 60 = .ok (.l2i, 1) := by decide +kernel
theorem d_Ref_feed_61 : decode b_Ref_feed 61 = .ok (.iastore, 1) := by decide +kernel
theorem d_Ref_feed_62 : decode b_Ref_feed 62 = .ok (.aload_n 0, 1) := by decide +kernel
theorem d_Ref_feed_63 : decode b_Ref_feed 63 = .ok (.dup, 1) := by decide +kernel
theorem d_Ref_feed_64 : decode b_Ref_feed 64 = .ok (.getfield 75, 3) := by decide +kernel
theorem d_Ref_feed_67 : decode b_Ref_feed 67 = .ok (.iconst 1, 1) := by decide +kernel
theorem d_Ref_feed_68 : decode b_Ref_feed 68 = .ok (.iadd, 1) := by decide +kernel
theorem d_Ref_feed_69 : decode b_Ref_feed 69 = .ok (.putfield 75, 3) := by decide +kernel
theorem d_Ref_feed_72 : decode b_Ref_feed 72 = .ok (.aload_n 0, 1) := by decide +kernel
theorem d_Ref_feed_73 : decode b_Ref_feed 73 = .ok (.aload_n 0, 1) := by decide +kernel
theorem d_Ref_feed_74 : decode b_Ref_feed 74 = .ok (.lload_n 1, 1) := by decide +kernel
theorem d_Ref_feed_75 : decode b_Ref_feed 75 = .ok (.invokevirtual 107, 3) := by decide +kernel
theorem d_Ref_feed_78 : decode b_Ref_feed 78 = .ok (.putfield 48, 3) := by decide +kernel
theorem d_Ref_feed_81 : decode b_Ref_feed 81 = .ok (.iconst 0, 1) := by decide +kernel
theorem d_Ref_feed_82 : decode b_Ref_feed 82 = .ok (.istore_n 3, 1) := by decide +kernel
theorem d_Ref_feed_83 : decode b_Ref_feed 83 = .ok (.iconst 0, 1) := by decide +kernel
theorem d_Ref_feed_84 : decode b_Ref_feed 84 = .ok (.istore 4, 2) := by decide +kernel
theorem d_Ref_feed_86 : decode b_Ref_feed 86 = .ok (.iload 4, 2) := by decide +kernel
theorem d_Ref_feed_88 : decode b_Ref_feed 88 = .ok (.aload_n 0, 1) := by decide +kernel
theorem d_Ref_feed_89 : decode b_Ref_feed 89 = .ok (.getfield 60, 3) := by decide +kernel
theorem d_Ref_feed_92 : decode b_Ref_feed 92 = .ok (.if_icmp .gt (49), 3) := by decide +kernel
theorem d_Ref_feed_95 : decode b_Ref_feed 95 = .ok (.iconst 0, 1) := by decide +kernel
theorem d_Ref_feed_96 : decode b_Ref_feed 96 = .ok (.istore 5, 2) := by decide +kernel
theorem d_Ref_feed_98 : decode b_Ref_feed 98 = .ok (.iload 5, 2) := by decide +kernel
theorem d_Ref_feed_100 : decode b_Ref_feed 100 = .ok (.aload_n 0, 1) := by decide +kernel
theorem d_Ref_feed_101 : decode b_Ref_feed 101 = .ok (.getfield 16, 3) := by decide +kernel
theorem d_Ref_feed_104 : decode b_Ref_feed 104 = .ok (.if_icmp .ge (31), 3) := by decide +kernel
theorem d_Ref_feed_107 : decode b_Ref_feed 107 = .ok (.aload_n 0, 1) := by decide +kernel
theorem d_Ref_feed_108 : decode b_Ref_feed 108 = .ok (.iload 5, 2) := by decide +kernel
theorem d_Ref_feed_110 : decode b_Ref_feed 110 = .ok (.invokevirtual 111, 3) := by decide +kernel
theorem d_Ref_feed_113 : decode b_Ref_feed 113 = .ok (.iload 4, 2) := by decide +kernel
theorem d_Ref_feed_115 : decode b_Ref_feed 115 = .ok (.if_icmp .ne (14), 3) := by decide +kernel
theorem d_Ref_feed_118 : decode b_Ref_feed 118 = .ok (.aload_n 0, 1) := by decide +kernel
theorem d_Ref_feed_119 : decode b_Ref_feed 119 = .ok (.getfield 51, 3) := by decide +kernel
theorem d_Ref_feed_122 : decode b_Ref_feed 122 = .ok (.iload_n 3, 1) := by decide +kernel
theorem d_Ref_feed_123 : decode b_Ref_feed 123 = .ok (.iload 5, 2) := by decide +kernel
theorem d_Ref_feed_125 : decode b_Ref_feed 125 = .ok (.iastore, 1) := by decide +kernel
theorem d_Ref_feed_126 : decode b_Ref_feed 126 = .ok (.iinc 3 (1), 3) := by decide +kernel
theorem d_Ref_feed_129 : decode b_Ref_feed 129 = .ok (.iinc 5 (1), 3) := by decide +kernel
theorem d_Ref_feed_132 : decode b_Ref_feed 132 = .ok (.goto (-34), 3) := by decide +kernel
theorem d_Ref_feed_135 : decode b_Ref_feed 135 = .ok (.iinc 4 (1), 3) := by decide +kernel
theorem d_Ref_feed_138 : decode b_Ref_feed 138 = .ok (.goto (-52), 3) := by decide +kernel
theorem d_Ref_feed_141 : decode b_Ref_feed 141 = .ok (.aload_n 0, 1) := by decide +kernel
theorem d_Ref_feed_142 : decode b_Ref_feed 142 = .ok (.iconst 0, 1) := by decide +kernel
theorem d_Ref_feed_143 : decode b_Ref_feed 143 = .ok (.putfield 115, 3) := by decide +kernel
theorem d_Ref_feed_146 : decode b_Ref_feed 146 = .ok (.aload_n 0, 1) := by decide +kernel
theorem d_Ref_feed_147 : decode b_Ref_feed 147 = .ok (.iconst (-1), 1) := by decide +kernel
theorem d_Ref_feed_148 : decode b_Ref_feed 148 = .ok (.putfield 54, 3) := by decide +kernel
theorem d_Ref_feed_151 : decode b_Ref_feed 151 = .ok (.aload_n 0, 1) := by decide +kernel
theorem d_Ref_feed_152 : decode b_Ref_feed 152 = .ok (.iconst (-1), 1) := by decide +kernel
theorem d_Ref_feed_153 : decode b_Ref_feed 153 = .ok (.putfield 57, 3) := by decide +kernel
theorem d_Ref_feed_156 : decode b_Ref_feed 156 = .ok (.aload_n 0, 1) := by decide +kernel
theorem d_Ref_feed_157 : decode b_Ref_feed 157 = .ok (.iconst 1, 1) := by decide +kernel
theorem d_Ref_feed_158 : decode b_Ref_feed 158 = .ok (.putfield 69, 3) := by decide +kernel
theorem d_Ref_feed_161 : decode b_Ref_feed 161 = .ok (.aload_n 0, 1) := by decide +kernel
theorem d_Ref_feed_162 : decode b_Ref_feed 162 = .ok (.iconst 0, 1) := by decide +kernel
theorem d_Ref_feed_163 : decode b_Ref_feed 163 = .ok (.putfield 78, 3) := by decide +kernel
theorem d_Ref_feed_166 : decode b_Ref_feed 166 = .ok (.iconst 1, 1) := by decide +kernel
theorem d_Ref_feed_167 : decode b_Ref_feed 167 = .ok (.ireturn, 1) := by decide +kernel
theorem d_Ref_look_0 : decode b_Ref_look 0 = .ok (.bipush (64), 2) := by decide +kernel
theorem d_Ref_look_2 : decode b_Ref_look 2 = .ok (.aload_n 0, 1) := by decide +kernel
theorem d_Ref_look_3 : decode b_Ref_look 3 = .ok (.getfield 48, 3) := by decide +kernel
theorem d_Ref_look_6 : decode b_Ref_look 6 = .ok (.imul, 1) := by decide +kernel
theorem d_Ref_look_7 : decode b_Ref_look 7 = .ok (.iload_n 1, 1) := by decide +kernel
theorem d_Ref_look_8 : decode b_Ref_look 8 = .ok (.iadd, 1) := by decide +kernel
theorem d_Ref_look_9 : decode b_Ref_look 9 = .ok (.istore_n 2, 1) := by decide +kernel
theorem d_Ref_look_10 : decode b_Ref_look 10 = .ok (.aload_n 0, 1) := by decide +kernel
theorem d_Ref_look_11 : decode b_Ref_look 11 = .ok (.iload_n 2, 1) := by decide +kernel
theorem d_Ref_look_12 : decode b_Ref_look 12 = .ok (.iconst (-1), 1) := by decide +kernel
theorem d_Ref_look_13 : decode b_Ref_look 13 = .ok (.invokevirtual 118, 3) := by decide +kernel
theorem d_Ref_look_16 : decode b_Ref_look 16 = .ok (.ifCond .eq (37), 3) := by decide +kernel
theorem d_Ref_look_19 : decode b_Ref_look 19 = .ok (.aload_n 0, 1) := by decide +kernel
theorem d_Ref_look_20 : decode b_Ref_look 20 = .ok (.getfield 57, 3) := by decide +kernel
theorem d_Ref_look_23 : decode b_Ref_look 23 = .ok (.ifCond .lt (16), 3) := by decide +kernel
theorem d_Ref_look_26 : decode b_Ref_look 26 = .ok (.aload_n 0, 1) := by decide +kernel
theorem d_Ref_look_27 : decode b_Ref_look 27 = .ok (.iload_n 2, 1) := by decide +kernel
theorem d_Ref_look_28 : decode b_Ref_look 28 = .ok (.invokevirtual 121, 3) := by decide +kernel
theorem d_Ref_look_31 : decode b_Ref_look 31 = .ok (.aload_n 0, 1) := by decide +kernel
theorem d_Ref_look_32 : decode b_Ref_look 32 = .ok (.getfield 125, 3) := by decide +kernel
theorem d_Ref_look_35 : decode b_Ref_look 35 = .ok (.lcmp, 1) := by decide +kernel
theorem d_Ref_look_36 : decode b_Ref_look 36 = .ok (.ifCond .le (17), 3) := by decide +kernel
theorem d_Ref_look_39 : decode b_Ref_look 39 = .ok (.aload_n 0, 1) := by decide +kernel
theorem d_Ref_look_40 : decode b_Ref_look 40 = .ok (.iload_n 1, 1) := by decide +kernel
theorem d_Ref_look_41 : decode b_Ref_look 41 = .ok (.putfield 57, 3) := by decide +kernel
theorem d_Ref_look_44 : decode b_Ref_look 44 = .ok (.aload_n 0, 1) := by decide +kernel
theorem d_Ref_look_45 : decode b_Ref_look 45 = .ok (.aload_n 0, 1) := by decide +kernel
theorem d_Ref_look_46 : decode b_Ref_look 46 = .ok (.iload_n 2, 1) := by decide +kernel
theorem d_Ref_look_47 : decode b_Ref_look 47 = .ok (.invokevirtual 121, 3) := by decide +kernel
theorem d_Ref_look_50 : decode b_Ref_look 50 = .ok (.putfield 125, 3) := by decide +kernel
theorem d_Ref_look_53 : decode b_Ref_look 53 = .ok (.return_, 1) := by decide +kernel
theorem d_Ref_next_0 : decode b_Ref_next 0 = .ok (.aload_n 0, 1) := by decide +kernel
theorem d_Ref_next_1 : decode b_Ref_next 1 = .ok (.getfield 69, 3) := by decide +kernel
theorem d_Ref_next_4 : decode b_Ref_next 4 = .ok (.ifCond .ne (5), 3) := by decide +kernel
theorem d_Ref_next_7 : decode b_Ref_next 7 = .ok (.iconst (-1), 1) := by decide +kernel
theorem d_Ref_next_8 : decode b_Ref_next 8 = .ok (.ireturn, 1) := by decide +kernel
theorem d_Ref_next_9 : decode b_Ref_next 9 = .ok (.aload_n 0, 1) := by decide +kernel
theorem d_Ref_next_10 : decode b_Ref_next 10 = .ok (.getfield 54, 3) := by decide +kernel
theorem d_Ref_next_13 : decode b_Ref_next 13 = .ok (.ifCond .lt (26), 3) := by decide +kernel
theorem d_Ref_next_16 : decode b_Ref_next 16 = .ok (.aload_n 0, 1) := by decide +kernel
theorem d_Ref_next_17 : decode b_Ref_next 17 = .ok (.getfield 38, 3) := by decide +kernel
theorem d_Ref_next_20 : decode b_Ref_next 20 = .ok (.bipush (64), 2) := by decide +kernel
theorem d_Ref_next_22 : decode b_Ref_next 22 = .ok (.aload_n 0, 1) := by decide +kernel
theorem d_Ref_next_23 : decode b_Ref_next 23 = .ok (.getfield 48, 3) := by decide +kernel
theorem d_Ref_next_26 : decode b_Ref_next 26 = .ok (.imul, 1) := by decide +kernel
theorem d_Ref_next_27 : decode b_Ref_next 27 = .ok (.aload_n 0, 1) := by decide +kernel
theorem d_Ref_next_28 : decode b_Ref_next 28 = .ok (.getfield 54, 3) := by decide +kernel
theorem d_Ref_next_31 : decode b_Ref_next 31 = .ok (.iadd, 1) := by decide +kernel
theorem d_Ref_next_32 : decode b_Ref_next 32 = .ok (.iconst 1, 1) := by decide +kernel
theorem d_Ref_next_33 : decode b_Ref_next 33 = .ok (.bastore, 1) := by decide +kernel
theorem d_Ref_next_34 : decode b_Ref_next 34 = .ok (.aload_n 0, 1) := by decide +kernel
theorem d_Ref_next_35 : decode b_Ref_next 35 = .ok (.iconst (-1), 1) := by decide +kernel
theorem d_Ref_next_36 : decode b_Ref_next 36 = .ok (.putfield 54, 3) := by decide +kernel
theorem d_Ref_next_39 : decode b_Ref_next 39 = .ok (.aload_n 0, 1) := by decide +kernel
theorem d_Ref_next_40 : decode b_Ref_next 40 = .ok (.getfield 57, 3) := by decide +kernel
theorem d_Ref_next_43 : decode b_Ref_next 43 = .ok (.ifCond .lt (19), 3) := by decide +kernel
theorem d_Ref_next_46 : decode b_Ref_next 46 = .ok (.aload_n 0, 1) := by decide +kernel
theorem d_Ref_next_47 : decode b_Ref_next 47 = .ok (.getfield 125, 3) := by decide +kernel
theorem d_Ref_next_50 : decode b_Ref_next 50 = .ok (.aload_n 0, 1) := by decide +kernel
theorem d_Ref_next_51 : decode b_Ref_next 51 = .ok (.invokevirtual 129, 3) := by decide +kernel
theorem d_Ref_next_54 : decode b_Ref_next 54 = .ok (.lcmp, 1) := by decide +kernel
theorem d_Ref_next_55 : decode b_Ref_next 55 = .ok (.ifCond .ne (7), 3) := by decide +kernel
theorem d_Ref_next_58 : decode b_Ref_next 58 = .ok (.iconst 1, 1) := by decide +kernel
theorem d_Ref_next_59 : decode b_Ref_next 59 = .ok (.goto (4), 3) := by decide +kernel
theorem d_Ref_next_62 : decode b_Ref_next 62 = .ok (.iconst 0, 1) := by decide +kernel
theorem d_Ref_next_63 : decode b_Ref_next 63 = .ok (.istore_n 1, 1) := by decide +kernel
theorem d_Ref_next_64 : decode b_Ref_next 64 = .ok (.iload_n 1, 1) := by decide +kernel
theorem d_Ref_next_65 : decode b_Ref_next 65 = .ok (.ifCond .ne (90), 3) := by decide +kernel
theorem d_Ref_next_68 : decode b_Ref_next 68 = .ok (.aload_n 0, 1) := by decide +kernel
theorem d_Ref_next_69 : decode b_Ref_next 69 = .ok (.getfield 115, 3) := by decide +kernel
theorem d_Ref_next_72 : decode b_Ref_next 72 = .ok (.aload_n 0, 1) := by decide +kernel
theorem d_Ref_next_73 : decode b_Ref_next 73 = .ok (.getfield 16, 3) := by decide +kernel
theorem d_Ref_next_76 : decode b_Ref_next 76 = .ok (.if_icmp .ge (79), 3) := by decide +kernel
theorem d_Ref_next_79 : decode b_Ref_next 79 = .ok (.aload_n 0, 1) := by decide +kernel
theorem d_Ref_next_80 : decode b_Ref_next 80 = .ok (.getfield 38, 3) := by decide +kernel
theorem d_Ref_next_83 : decode b_Ref_next 83 = .ok (.bipush (64), 2) := by decide +kernel
theorem d_Ref_next_85 : decode b_Ref_next 85 = .ok (.aload_n 0, 1) := by decide +kernel
theorem d_Ref_next_86 : decode b_Ref_next 86 = .ok (.getfield 48, 3) := by decide +kernel
theorem d_Ref_next_89 : decode b_Ref_next 89 = .ok (.imul, 1) := by decide +kernel
theorem d_Ref_next_90 : decode b_Ref_next 90 = .ok (.aload_n 0, 1) := by decide +kernel
theorem d_Ref_next_91 : decode b_Ref_next 91 = .ok (.getfield 51, 3) := by decide +kernel
theorem d_Ref_next_94 : decode b_Ref_next 94 = .ok (.aload_n 0, 1) := by decide +kernel
theorem d_Ref_next_95 : decode b_Ref_next 95 = .ok (.getfield 115, 3) := by decide +kernel
theorem d_Ref_next_98 : decode b_Ref_next 98 = .ok (.iaload, 1) := by decide +kernel
theorem d_Ref_next_99 : decode b_Ref_next 99 = .ok (.iadd, 1) := by decide +kernel
theorem d_Ref_next_100 : decode b_Ref_next 100 = .ok (.baload, 1) := by decide +kernel
theorem d_Ref_next_101 : decode b_Ref_next 101 = .ok (.ifCond .eq (54), 3) := by decide +kernel
theorem d_Ref_next_104 : decode b_Ref_next 104 = .ok (.aload_n 0, 1) := by decide +kernel
theorem d_Ref_next_105 : decode b_Ref_next 105 = .ok (.aload_n 0, 1) := by decide +kernel
theorem d_Ref_next_106 : decode b_Ref_next 106 = .ok (.getfield 51, 3) := by decide +kernel
theorem d_Ref_next_109 : decode b_Ref_next 109 = .ok (.aload_n 0, 1) := by decide +kernel
theorem d_Ref_next_110 : decode b_Ref_next 110 = .ok (.getfield 115, 3) := by decide +kernel
theorem d_Ref_next_113 : decode b_Ref_next 113 = .ok (.iaload, 1) := by decide +kernel
theorem d_Ref_next_114 : decode b_Ref_next 114 = .ok (.invokevirtual 133, 3) := by decide +kernel
theorem d_Ref_next_117 : decode b_Ref_next 117 = .ok (.aload_n 0, 1) := by decide +kernel
theorem d_Ref_next_118 : decode b_Ref_next 118 = .ok (.dup, 1) := by decide +kernel
theorem d_Ref_next_119 : decode b_Ref_next 119 = .ok (.getfield 115, 3) := by decide +kernel
theorem d_Ref_next_122 : decode b_Ref_next 122 = .ok (.iconst 1, 1) := by decide +kernel
theorem d_Ref_next_123 : decode b_Ref_next 123 = .ok (.iadd, 1) := by decide +kernel
theorem d_Ref_next_124 : decode b_Ref_next 124 = .ok (.putfield 115, 3) := by decide +kernel
theorem d_Ref_next_127 : decode b_Ref_next 127 = .ok (.aload_n 0, 1) := by decide +kernel
theorem d_Ref_next_128 : decode b_Ref_next 128 = .ok (.getfield 57, 3) := by decide +kernel
theorem d_Ref_next_131 : decode b_Ref_next 131 = .ok (.ifCond .lt (19), 3) := by decide +kernel
theorem d_Ref_next_134 : decode b_Ref_next 134 = .ok (.aload_n 0, 1) := by decide +kernel
theorem d_Ref_next_135 : decode b_Ref_next 135 = .ok (.getfield 125, 3) := by decide +kernel
theorem d_Ref_next_138 : decode b_Ref_next 138 = .ok (.aload_n 0, 1) := by decide +kernel
theorem d_Ref_next_139 : decode b_Ref_next 139 = .ok (.invokevirtual 129, 3) := by decide +kernel
theorem d_Ref_next_142 : decode b_Ref_next 142 = .ok (.lcmp, 1) := by decide +kernel
theorem d_Ref_next_143 : decode b_Ref_next 143 = .ok (.ifCond .ne (7), 3) := by decide +kernel
theorem d_Ref_next_146 : decode b_Ref_next 146 = .ok (.iconst 1, 1) := by decide +kernel
theorem d_Ref_next_147 : decode b_Ref_next 147 = .ok (.goto (4), 3) := by decide +kernel
theorem d_Ref_next_150 : decode b_Ref_next 150 = .ok (.iconst 0, 1) := by decide +kernel
theorem d_Ref_next_151 : decode b_Ref_next 151 = .ok (.istore_n 1, 1) := by decide +kernel
theorem d_Ref_next_152 : decode b_Ref_next 152 = .ok (.goto (-88), 3) := by decide +kernel
theorem d_Ref_next_155 : decode b_Ref_next 155 = .ok (.iload_n 1, 1) := by decide +kernel
theorem d_Ref_next_156 : decode b_Ref_next 156 = .ok (.ifCond .ne (14), 3) := by decide +kernel
theorem d_Ref_next_159 : decode b_Ref_next 159 = .ok (.aload_n 0, 1) := by decide +kernel
theorem d_Ref_next_160 : decode b_Ref_next 160 = .ok (.getfield 115, 3) := by decide +kernel
theorem d_Ref_next_163 : decode b_Ref_next 163 = .ok (.aload_n 0, 1) := by decide +kernel
theorem d_Ref_next_164 : decode b_Ref_next 164 = .ok (.getfield 16, 3) := by decide +kernel
theorem d_Ref_next_167 : decode b_Ref_next 167 = .ok (.if_icmp .ne (15), 3) := by decide +kernel
theorem d_Ref_next_170 : decode b_Ref_next 170 = .ok (.aload_n 0, 1) := by decide +kernel
theorem d_Ref_next_171 : decode b_Ref_next 171 = .ok (.iconst 0, 1) := by decide +kernel
theorem d_Ref_next_172 : decode b_Ref_next 172 = .ok (.putfield 69, 3) := by decide +kernel
theorem d_Ref_next_175 : decode b_Ref_next 175 = .ok (.aload_n 0, 1) := by decide +kernel
theorem d_Ref_next_176 : decode b_Ref_next 176 = .ok (.iconst 1, 1) := by decide +kernel
theorem d_Ref_next_177 : decode b_Ref_next 177 = .ok (.putfield 78, 3) := by decide +kernel
theorem d_Ref_next_180 : decode b_Ref_next 180 = .ok (.iconst 0, 1) := by decide +kernel
theorem d_Ref_next_181 : decode b_Ref_next 181 = .ok (.ireturn, 1) := by decide +kernel

theorem d_Ref_next_182 : decode b_Ref_next 182 = .ok (.aload_n 0, 1) := by decide +kernel
theorem d_Ref_next_183 : decode b_Ref_next 183 = .ok (.aload_n 0, 1) := by decide +kernel
theorem d_Ref_next_184 : decode b_Ref_next 184 = .ok (.getfield 51, 3) := by decide +kernel
theorem d_Ref_next_187 : decode b_Ref_next 187 = .ok (.aload_n 0, 1) := by decide +kernel
theorem d_Ref_next_188 : decode b_Ref_next 188 = .ok (.getfield 115, 3) := by decide +kernel
theorem d_Ref_next_191 : decode b_Ref_next 191 = .ok (.iaload, 1) := by decide +kernel
theorem d_Ref_next_192 : decode b_Ref_next 192 = .ok (.putfield 54, 3) := by decide +kernel
theorem d_Ref_next_195 : decode b_Ref_next 195 = .ok (.bipush (64), 2) := by decide +kernel
theorem d_Ref_next_197 : decode b_Ref_next 197 = .ok (.aload_n 0, 1) := by decide +kernel
theorem d_Ref_next_198 : decode b_Ref_next 198 = .ok (.getfield 48, 3) := by decide +kernel
theorem d_Ref_next_201 : decode b_Ref_next 201 = .ok (.imul, 1) := by decide +kernel
theorem d_Ref_next_202 : decode b_Ref_next 202 = .ok (.aload_n 0, 1) := by decide +kernel
theorem d_Ref_next_203 : decode b_Ref_next 203 = .ok (.getfield 54, 3) := by decide +kernel
theorem d_Ref_next_206 : decode b_Ref_next 206 = .ok (.iadd, 1) := by decide +kernel
theorem d_Ref_next_207 : decode b_Ref_next 207 = .ok (.istore_n 2, 1) := by decide +kernel
theorem d_Ref_next_208 : decode b_Ref_next 208 = .ok (.iconst 0, 1) := by decide +kernel
theorem d_Ref_next_209 : decode b_Ref_next 209 = .ok (.istore_n 3, 1) := by decide +kernel
theorem d_Ref_next_210 : decode b_Ref_next 210 = .ok (.iload_n 3, 1) := by decide +kernel
theorem d_Ref_next_211 : decode b_Ref_next 211 = .ok (.bipush (9), 2) := by decide +kernel
theorem d_Ref_next_213 : decode b_Ref_next 213 = .ok (.if_icmp .ge (21), 3) := by decide +kernel
theorem d_Ref_next_216 : decode b_Ref_next 216 = .ok (.aload_n 0, 1) := by decide +kernel
theorem d_Ref_next_217 : decode b_Ref_next 217 = .ok (.getfield 42, 3) := by decide +kernel
theorem d_Ref_next_220 : decode b_Ref_next 220 = .ok (.bipush (9), 2) := by decide +kernel
theorem d_Ref_next_222 : decode b_Ref_next 222 = .ok (.iload_n 2, 1) := by decide +kernel
theorem d_Ref_next_223 : decode b_Ref_next 223 = .ok (.imul, 1) := by decide +kernel
theorem d_Ref_next_224 : decode b_Ref_next 224 = .ok (.iload_n 3, 1) := by decide +kernel
theorem d_Ref_next_225 : decode b_Ref_next 225 = .ok (.iadd, 1) := by decide +kernel
theorem d_Ref_next_226 : decode b_Ref_next 226 = .ok (.iconst 0, 1) := by decide +kernel
theorem d_Ref_next_227 : decode b_Ref_next 227 = .ok (.iastore, 1) := by decide +kernel
theorem d_Ref_next_228 : decode b_Ref_next 228 = .ok (.iinc 3 (1), 3) := by decide +kernel
theorem d_Ref_next_231 : decode b_Ref_next 231 = .ok (.goto (-21), 3) := by decide +kernel
theorem d_Ref_next_234 : decode b_Ref_next 234 = .ok (.iconst 0, 1) := by decide +kernel
theorem d_Ref_next_235 : decode b_Ref_next 235 = .ok (.istore_n 3, 1) := by decide +kernel
theorem d_Ref_next_236 : decode b_Ref_next 236 = .ok (.iload_n 3, 1) := by decide +kernel
theorem d_Ref_next_237 : decode b_Ref_next 237 = .ok (.iconst 5, 1) := by decide +kernel
theorem d_Ref_next_238 : decode b_Ref_next 238 = .ok (.if_icmp .ge (20), 3) := by decide +kernel
theorem d_Ref_next_241 : decode b_Ref_next 241 = .ok (.aload_n 0, 1) := by decide +kernel
theorem d_Ref_next_242 : decode b_Ref_next 242 = .ok (.getfield 45, 3) := by decide +kernel
theorem d_Ref_next_245 : decode b_Ref_next 245 = .ok (.iconst 5, 1) := by decide +kernel
theorem d_Ref_next_246 : decode b_Ref_next 246 = .ok (.iload_n 2, 1) := by decide +kernel
theorem d_Ref_next_247 : decode b_Ref_next 247 = .ok (.imul, 1) := by decide +kernel
theorem d_Ref_next_248 : decode b_Ref_next 248 = .ok (.iload_n 3, 1) := by decide +kernel
theorem d_Ref_next_249 : decode b_Ref_next 249 = .ok (.iadd, 1) := by decide +kernel
theorem d_Ref_next_250 : decode b_Ref_next 250 = .ok (.iconst 0, 1) := by decide +kernel
theorem d_Ref_next_251 : decode b_Ref_next 251 = .ok (.iastore, 1) := by decide +kernel
theorem d_Ref_next_252 : decode b_Ref_next 252 = .ok (.iinc 3 (1), 3) := by decide +kernel
theorem d_Ref_next_255 : decode b_Ref_next 255 = .ok (.goto (-19), 3) := by decide +kernel
theorem d_Ref_next_258 : decode b_Ref_next 258 = .ok (.iconst 1, 1) := by decide +kernel
theorem d_Ref_next_259 : decode b_Ref_next 259 = .ok (.ireturn, 1) := by decide +kernel
theorem d_Ref_asked_0 : decode b_Ref_asked 0 = .ok (.aload_n 0, 1) := by decide +kernel
theorem d_Ref_asked_1 : decode b_Ref_asked 1 = .ok (.getfield 54, 3) := by decide +kernel
theorem d_Ref_asked_4 : decode b_Ref_asked 4 = .ok (.ifCond .lt (23), 3) := by decide +kernel
theorem d_Ref_asked_7 : decode b_Ref_asked 7 = .ok (.aload_n 0, 1) := by decide +kernel
theorem d_Ref_asked_8 : decode b_Ref_asked 8 = .ok (.iload_n 1, 1) := by decide +kernel
theorem d_Ref_asked_9 : decode b_Ref_asked 9 = .ok (.invokevirtual 92, 3) := by decide +kernel
theorem d_Ref_asked_12 : decode b_Ref_asked 12 = .ok (.ifCond .eq (15), 3) := by decide +kernel
theorem d_Ref_asked_15 : decode b_Ref_asked 15 = .ok (.aload_n 0, 1) := by decide +kernel
theorem d_Ref_asked_16 : decode b_Ref_asked 16 = .ok (.aload_n 0, 1) := by decide +kernel
theorem d_Ref_asked_17 : decode b_Ref_asked 17 = .ok (.getfield 54, 3) := by decide +kernel
theorem d_Ref_asked_20 : decode b_Ref_asked 20 = .ok (.iload_n 1, 1) := by decide +kernel
theorem d_Ref_asked_21 : decode b_Ref_asked 21 = .ok (.invokevirtual 100, 3) := by decide +kernel
theorem d_Ref_asked_24 : decode b_Ref_asked 24 = .ok (.goto (4), 3) := by decide +kernel
theorem d_Ref_asked_27 : decode b_Ref_asked 27 = .ok (.iconst (-1), 1) := by decide +kernel
theorem d_Ref_asked_28 : decode b_Ref_asked 28 = .ok (.ireturn, 1) := by decide +kernel
theorem d_Ref_answer_0 : decode b_Ref_answer 0 = .ok (.aload_n 0, 1) := by decide +kernel
theorem d_Ref_answer_1 : decode b_Ref_answer 1 = .ok (.getfield 54, 3) := by decide +kernel
theorem d_Ref_answer_4 : decode b_Ref_answer 4 = .ok (.ifCond .lt (17), 3) := by decide +kernel
theorem d_Ref_answer_7 : decode b_Ref_answer 7 = .ok (.iload_n 1, 1) := by decide +kernel
theorem d_Ref_answer_8 : decode b_Ref_answer 8 = .ok (.iload_n 2, 1) := by decide +kernel
theorem d_Ref_answer_9 : decode b_Ref_answer 9 = .ok (.invokestatic 81, 3) := by decide +kernel
theorem d_Ref_answer_12 : decode b_Ref_answer 12 = .ok (.ifCond .eq (9), 3) := by decide +kernel
theorem d_Ref_answer_15 : decode b_Ref_answer 15 = .ok (.lload_n 3, 1) := by decide +kernel
theorem d_Ref_answer_16 : decode b_Ref_answer 16 = .ok (.lconst 0, 1) := by decide +kernel
theorem d_Ref_answer_17 : decode b_Ref_answer 17 = .ok (.lcmp, 1) := by decide +kernel
theorem d_Ref_answer_18 : decode b_Ref_answer 18 = .ok (.ifCond .ge (5), 3) := by decide +kernel
theorem d_Ref_answer_21 : decode b_Ref_answer 21 = .ok (.iconst 0, 1) := by decide +kernel
theorem d_Ref_answer_22 : decode b_Ref_answer 22 = .ok (.ireturn, 1) := by decide +kernel
theorem d_Ref_answer_23 : decode b_Ref_answer 23 = .ok (.bipush (9), 2) := by decide +kernel
theorem d_Ref_answer_25 : decode b_Ref_answer 25 = .ok (.bipush (64), 2) := by decide +kernel
theorem d_Ref_answer_27 : decode b_Ref_answer 27 = .ok (.aload_n 0, 1) := by decide +kernel
theorem d_Ref_answer_28 : decode b_Ref_answer 28 = .ok (.getfield 48, 3) := by decide +kernel
theorem d_Ref_answer_31 : decode b_Ref_answer 31 = .ok (.imul, 1) := by decide +kernel
theorem d_Ref_answer_32 : decode b_Ref_answer 32 = .ok (.aload_n 0, 1) := by decide +kernel
theorem d_Ref_answer_33 : decode b_Ref_answer 33 = .ok (.getfield 54, 3) := by decide +kernel
theorem d_Ref_answer_36 : decode b_Ref_answer 36 = .ok (.iadd, 1) := by decide +kernel
theorem d_Ref_answer_37 : decode b_Ref_answer 37 = .ok (.imul, 1) := by decide +kernel
theorem d_Ref_answer_38 : decode b_Ref_answer 38 = .ok (.istore 5, 2) := by decide +kernel
theorem d_Ref_answer_40 : decode b_Ref_answer 40 = .ok (.iconst 3, 1) := by decide +kernel
theorem d_Ref_answer_41 : decode b_Ref_answer 41 = .ok (.iload_n 1, 1) := by decide +kernel
theorem d_Ref_answer_42 : decode b_Ref_answer 42 = .ok (.imul, 1) := by decide +kernel
theorem d_Ref_answer_43 : decode b_Ref_answer 43 = .ok (.iload_n 2, 1) := by decide +kernel
theorem d_Ref_answer_44 : decode b_Ref_answer 44 = .ok (.iadd, 1) := by decide +kernel
theorem d_Ref_answer_45 : decode b_Ref_answer 45 = .ok (.istore 6, 2) := by decide +kernel
theorem d_Ref_answer_47 : decode b_Ref_answer 47 = .ok (.lconst 0, 1) := by decide +kernel
theorem d_Ref_answer_48 : decode b_Ref_answer 48 = .ok (.lstore 7, 2) := by decide +kernel
theorem d_Ref_answer_50 : decode b_Ref_answer 50 = .ok (.iconst 0, 1) := by decide +kernel
theorem d_Ref_answer_51 : decode b_Ref_answer 51 = .ok (.istore 9, 2) := by decide +kernel
theorem d_Ref_answer_53 : decode b_Ref_answer 53 = .ok (.iload 9, 2) := by decide +kernel
theorem d_Ref_answer_55 : decode b_Ref_answer 55 = .ok (.bipush (9), 2) := by decide +kernel
theorem d_Ref_answer_57 : decode b_Ref_answer 57 = .ok (.if_icmp .ge (36), 3) := by decide +kernel
theorem d_Ref_answer_60 : decode b_Ref_answer 60 = .ok (.lload 7, 2) := by decide +kernel
theorem d_Ref_answer_62 : decode b_Ref_answer 62 = .ok (.iload 9, 2) := by decide +kernel
theorem d_Ref_answer_64 : decode b_Ref_answer 64 = .ok (.iload 6, 2) := by decide +kernel
theorem d_Ref_answer_66 : decode b_Ref_answer 66 = .ok (.if_icmp .ne (7), 3) := by decide +kernel
theorem d_Ref_answer_69 : decode b_Ref_answer 69 = .ok (.lconst 0, 1) := by decide +kernel
theorem d_Ref_answer_70 : decode b_Ref_answer 70 = .ok (.goto (14), 3) := by decide +kernel
theorem d_Ref_answer_73 : decode b_Ref_answer 73 = .ok (.aload_n 0, 1) := by decide +kernel
theorem d_Ref_answer_74 : decode b_Ref_answer 74 = .ok (.getfield 42, 3) := by decide +kernel
theorem d_Ref_answer_77 : decode b_Ref_answer 77 = .ok (.iload 5, 2) := by decide +kernel
theorem d_Ref_answer_79 : decode b_Ref_answer 79 = .ok (.iload 9, 2) := by decide +kernel
theorem d_Ref_answer_81 : decode b_Ref_answer 81 = .ok (.iadd, 1) := by decide +kernel
theorem d_Ref_answer_82 : decode b_Ref_answer 82 = .ok (.iaload, 1) := by decide +kernel
theorem d_Ref_answer_83 : decode b_Ref_answer 83 = .ok (.i2l, 1) := by decide +kernel
theorem d_Ref_answer_84 : decode b_Ref_answer 84 = .ok (.ladd, 1) := by decide +kernel
theorem d_Ref_answer_85 : decode b_Ref_answer 85 = .ok (.lstore 7, 2) := by decide +kernel
theorem d_Ref_answer_87 : decode b_Ref_answer 87 = .ok (.iinc 9 (1), 3) := by decide +kernel
theorem d_Ref_answer_90 : decode b_Ref_answer 90 = .ok (.goto (-37), 3) := by decide +kernel
theorem d_Ref_answer_93 : decode b_Ref_answer 93 = .ok (.lload_n 3, 1) := by decide +kernel
theorem d_Ref_answer_94 : decode b_Ref_answer 94 = .ok (.aload_n 0, 1) := by decide +kernel
theorem d_Ref_answer_95 : decode b_Ref_answer 95 = .ok (.getfield 35, 3) := by decide +kernel
theorem d_Ref_answer_98 : decode b_Ref_answer 98 = .ok (.aload_n 0, 1) := by decide +kernel
theorem d_Ref_answer_99 : decode b_Ref_answer 99 = .ok (.getfield 48, 3) := by decide +kernel
theorem d_Ref_answer_102 : decode b_Ref_answer 102 = .ok (.iaload, 1) := by decide +kernel
theorem d_Ref_answer_103 : decode b_Ref_answer 103 = .ok (.i2l, 1) := by decide +kernel
theorem d_Ref_answer_104 : decode b_Ref_answer 104 = .ok (.lload 7, 2) := by decide +kernel
theorem d_Ref_answer_106 : decode b_Ref_answer 106 = .ok (.lsub, 1) := by decide +kernel
theorem d_Ref_answer_107 : decode b_Ref_answer 107 = .ok (.lcmp, 1) := by decide +kernel
theorem d_Ref_answer_108 : decode b_Ref_answer 108 = .ok (.ifCond .le (5), 3) := by decide +kernel
theorem d_Ref_answer_111 : decode b_Ref_answer 111 = .ok (.iconst 0, 1) := by decide +kernel
theorem d_Ref_answer_112 : decode b_Ref_answer 112 = .ok (.ireturn, 1) := by decide +kernel
theorem d_Ref_answer_113 : decode b_Ref_answer 113 = .ok (.aload_n 0, 1) := by decide +kernel
theorem d_Ref_answer_114 : decode b_Ref_answer 114 = .ok (.getfield 42, 3) := by decide +kernel
theorem d_Ref_answer_117 : decode b_Ref_answer 117 = .ok (.iload 5, 2) := by decide +kernel
theorem d_Ref_answer_119 : decode b_Ref_answer 119 = .ok (.iload 6, 2) := by decide +kernel
theorem d_Ref_answer_121 : decode b_Ref_answer 121 = .ok (.iadd, 1) := by decide +kernel
theorem d_Ref_answer_122 : decode b_Ref_answer 122 = .ok (.lload_n 3, 1) := by decide +kernel
theorem d_Ref_answer_123 : decode b_Ref_answer 123 = .ok (.l2i, 1) := by decide +kernel
theorem d_Ref_answer_124 : decode b_Ref_answer 124 = .ok (.iastore, 1) := by decide +kernel
theorem d_Ref_answer_125 : decode b_Ref_answer 125 = .ok (.iconst 1, 1) := by decide +kernel
theorem d_Ref_answer_126 : decode b_Ref_answer 126 = .ok (.ireturn, 1) := by decide +kernel
theorem d_Ref_load_0 : decode b_Ref_load 0 = .ok (.aload_n 0, 1) := by decide +kernel
theorem d_Ref_load_1 : decode b_Ref_load 1 = .ok (.getfield 54, 3) := by decide +kernel
theorem d_Ref_load_4 : decode b_Ref_load 4 = .ok (.ifCond .lt (23), 3) := by decide +kernel
theorem d_Ref_load_7 : decode b_Ref_load 7 = .ok (.aload_n 0, 1) := by decide +kernel
theorem d_Ref_load_8 : decode b_Ref_load 8 = .ok (.iload_n 1, 1) := by decide +kernel
theorem d_Ref_load_9 : decode b_Ref_load 9 = .ok (.invokevirtual 92, 3) := by decide +kernel
theorem d_Ref_load_12 : decode b_Ref_load 12 = .ok (.ifCond .eq (15), 3) := by decide +kernel
theorem d_Ref_load_15 : decode b_Ref_load 15 = .ok (.iload_n 2, 1) := by decide +kernel
theorem d_Ref_load_16 : decode b_Ref_load 16 = .ok (.i2l, 1) := by decide +kernel
theorem d_Ref_load_17 : decode b_Ref_load 17 = .ok (.lconst 0, 1) := by decide +kernel
theorem d_Ref_load_18 : decode b_Ref_load 18 = .ok (.ldc2_w 98, 3) := by decide +kernel
theorem d_Ref_load_21 : decode b_Ref_load 21 = .ok (.invokestatic 65, 3) := by decide +kernel
theorem d_Ref_load_24 : decode b_Ref_load 24 = .ok (.ifCond .ne (5), 3) := by decide +kernel
theorem d_Ref_load_27 : decode b_Ref_load 27 = .ok (.iconst 0, 1) := by decide +kernel
theorem d_Ref_load_28 : decode b_Ref_load 28 = .ok (.ireturn, 1) := by decide +kernel
theorem d_Ref_load_29 : decode b_Ref_load 29 = .ok (.aload_n 0, 1) := by decide +kernel
theorem d_Ref_load_30 : decode b_Ref_load 30 = .ok (.getfield 45, 3) := by decide +kernel
theorem d_Ref_load_33 : decode b_Ref_load 33 = .ok (.iconst 5, 1) := by decide +kernel
theorem d_Ref_load_34 : decode b_Ref_load 34 = .ok (.bipush (64), 2) := by decide +kernel
theorem d_Ref_load_36 : decode b_Ref_load 36 = .ok (.aload_n 0, 1) := by decide +kernel
theorem d_Ref_load_37 : decode b_Ref_load 37 = .ok (.getfield 48, 3) := by decide +kernel
theorem d_Ref_load_40 : decode b_Ref_load 40 = .ok (.imul, 1) := by decide +kernel
theorem d_Ref_load_41 : decode b_Ref_load 41 = .ok (.aload_n 0, 1) := by decide +kernel
theorem d_Ref_load_42 : decode b_Ref_load 42 = .ok (.getfield 54, 3) := by decide +kernel
theorem d_Ref_load_45 : decode b_Ref_load 45 = .ok (.iadd, 1) := by decide +kernel
theorem d_Ref_load_46 : decode b_Ref_load 46 = .ok (.imul, 1) := by decide +kernel
theorem d_Ref_load_47 : decode b_Ref_load 47 = .ok (.iload_n 1, 1) := by decide +kernel
theorem d_Ref_load_48 : decode b_Ref_load 48 = .ok (.iadd, 1) := by decide +kernel
theorem d_Ref_load_49 : decode b_Ref_load 49 = .ok (.iload_n 2, 1) := by decide +kernel
theorem d_Ref_load_50 : decode b_Ref_load 50 = .ok (.iastore, 1) := by decide +kernel
theorem d_Ref_load_51 : decode b_Ref_load 51 = .ok (.iconst 1, 1) := by decide +kernel
theorem d_Ref_load_52 : decode b_Ref_load 52 = .ok (.ireturn, 1) := by decide +kernel
theorem d_Ref_best_0 : decode b_Ref_best 0 = .ok (.aload_n 0, 1) := by decide +kernel
theorem d_Ref_best_1 : decode b_Ref_best 1 = .ok (.getfield 57, 3) := by decide +kernel
theorem d_Ref_best_4 : decode b_Ref_best 4 = .ok (.ifCond .lt (23), 3) := by decide +kernel
theorem d_Ref_best_7 : decode b_Ref_best 7 = .ok (.aload_n 0, 1) := by decide +kernel
theorem d_Ref_best_8 : decode b_Ref_best 8 = .ok (.iload_n 1, 1) := by decide +kernel
theorem d_Ref_best_9 : decode b_Ref_best 9 = .ok (.invokevirtual 92, 3) := by decide +kernel
theorem d_Ref_best_12 : decode b_Ref_best 12 = .ok (.ifCond .eq (15), 3) := by decide +kernel
theorem d_Ref_best_15 : decode b_Ref_best 15 = .ok (.aload_n 0, 1) := by decide +kernel
theorem d_Ref_best_16 : decode b_Ref_best 16 = .ok (.aload_n 0, 1) := by decide +kernel
theorem d_Ref_best_17 : decode b_Ref_best 17 = .ok (.getfield 57, 3) := by decide +kernel
theorem d_Ref_best_20 : decode b_Ref_best 20 = .ok (.iload_n 1, 1) := by decide +kernel
theorem d_Ref_best_21 : decode b_Ref_best 21 = .ok (.invokevirtual 100, 3) := by decide +kernel
theorem d_Ref_best_24 : decode b_Ref_best 24 = .ok (.goto (4), 3) := by decide +kernel
theorem d_Ref_best_27 : decode b_Ref_best 27 = .ok (.iconst (-1), 1) := by decide +kernel
theorem d_Ref_best_28 : decode b_Ref_best 28 = .ok (.ireturn, 1) := by decide +kernel
theorem d_Ref_sum_0 : decode b_Ref_sum 0 = .ok (.aload_n 0, 1) := by decide +kernel
theorem d_Ref_sum_1 : decode b_Ref_sum 1 = .ok (.getfield 57, 3) := by decide +kernel
theorem d_Ref_sum_4 : decode b_Ref_sum 4 = .ok (.ifCond .lt (10), 3) := by decide +kernel
theorem d_Ref_sum_7 : decode b_Ref_sum 7 = .ok (.aload_n 0, 1) := by decide +kernel
theorem d_Ref_sum_8 : decode b_Ref_sum 8 = .ok (.getfield 125, 3) := by decide +kernel
theorem d_Ref_sum_11 : decode b_Ref_sum 11 = .ok (.goto (6), 3) := by decide +kernel
theorem d_Ref_sum_14 : decode b_Ref_sum 14 = .ok (.ldc2_w 137, 3) := by decide +kernel
theorem d_Ref_sum_17 : decode b_Ref_sum 17 = .ok (.lreturn, 1) := by decide +kernel
theorem d_Ref_bound_0 : decode b_Ref_bound 0 = .ok (.aload_n 0, 1) := by decide +kernel
theorem d_Ref_bound_1 : decode b_Ref_bound 1 = .ok (.getfield 48, 3) := by decide +kernel
theorem d_Ref_bound_4 : decode b_Ref_bound 4 = .ok (.ifCond .lt (10), 3) := by decide +kernel
theorem d_Ref_bound_7 : decode b_Ref_bound 7 = .ok (.aload_n 0, 1) := by decide +kernel
theorem d_Ref_bound_8 : decode b_Ref_bound 8 = .ok (.invokevirtual 129, 3) := by decide +kernel
theorem d_Ref_bound_11 : decode b_Ref_bound 11 = .ok (.goto (6), 3) := by decide +kernel
theorem d_Ref_bound_14 : decode b_Ref_bound 14 = .ok (.ldc2_w 96, 3) := by decide +kernel
theorem d_Ref_bound_17 : decode b_Ref_bound 17 = .ok (.lreturn, 1) := by decide +kernel
theorem d_Ref_proved_0 : decode b_Ref_proved 0 = .ok (.aload_n 0, 1) := by decide +kernel
theorem d_Ref_proved_1 : decode b_Ref_proved 1 = .ok (.getfield 78, 3) := by decide +kernel
theorem d_Ref_proved_4 : decode b_Ref_proved 4 = .ok (.ireturn, 1) := by decide +kernel
theorem d_Ref_changes_0 : decode b_Ref_changes 0 = .ok (.aload_n 0, 1) := by decide +kernel
theorem d_Ref_changes_1 : decode b_Ref_changes 1 = .ok (.getfield 57, 3) := by decide +kernel
theorem d_Ref_changes_4 : decode b_Ref_changes 4 = .ok (.ifCond .lt (14), 3) := by decide +kernel
theorem d_Ref_changes_7 : decode b_Ref_changes 7 = .ok (.aload_n 0, 1) := by decide +kernel
theorem d_Ref_changes_8 : decode b_Ref_changes 8 = .ok (.aload_n 0, 1) := by decide +kernel
theorem d_Ref_changes_9 : decode b_Ref_changes 9 = .ok (.getfield 57, 3) := by decide +kernel
theorem d_Ref_changes_12 : decode b_Ref_changes 12 = .ok (.invokevirtual 111, 3) := by decide +kernel
theorem d_Ref_changes_15 : decode b_Ref_changes 15 = .ok (.goto (4), 3) := by decide +kernel
theorem d_Ref_changes_18 : decode b_Ref_changes 18 = .ok (.iconst (-1), 1) := by decide +kernel
theorem d_Ref_changes_19 : decode b_Ref_changes 19 = .ok (.ireturn, 1) := by decide +kernel
theorem d_Ref_take_0 : decode b_Ref_take 0 = .ok (.aload_n 0, 1) := by decide +kernel
theorem d_Ref_take_1 : decode b_Ref_take 1 = .ok (.getfield 69, 3) := by decide +kernel
theorem d_Ref_take_4 : decode b_Ref_take 4 = .ok (.ifCond .ne (10), 3) := by decide +kernel
theorem d_Ref_take_7 : decode b_Ref_take 7 = .ok (.aload_n 0, 1) := by decide +kernel
theorem d_Ref_take_8 : decode b_Ref_take 8 = .ok (.getfield 57, 3) := by decide +kernel
theorem d_Ref_take_11 : decode b_Ref_take 11 = .ok (.ifCond .ge (5), 3) := by decide +kernel
theorem d_Ref_take_14 : decode b_Ref_take 14 = .ok (.iconst (-1), 1) := by decide +kernel
theorem d_Ref_take_15 : decode b_Ref_take 15 = .ok (.ireturn, 1) := by decide +kernel
theorem d_Ref_take_16 : decode b_Ref_take 16 = .ok (.aload_n 0, 1) := by decide +kernel
theorem d_Ref_take_17 : decode b_Ref_take 17 = .ok (.aload_n 0, 1) := by decide +kernel
theorem d_Ref_take_18 : decode b_Ref_take 18 = .ok (.getfield 57, 3) := by decide +kernel
theorem d_Ref_take_21 : decode b_Ref_take 21 = .ok (.invokevirtual 111, 3) := by decide +kernel
theorem d_Ref_take_24 : decode b_Ref_take 24 = .ok (.istore_n 1, 1) := by decide +kernel
theorem d_Ref_take_25 : decode b_Ref_take 25 = .ok (.iconst 0, 1) := by decide +kernel
theorem d_Ref_take_26 : decode b_Ref_take 26 = .ok (.istore_n 2, 1) := by decide +kernel
theorem d_Ref_take_27 : decode b_Ref_take 27 = .ok (.iload_n 2, 1) := by decide +kernel
theorem d_Ref_take_28 : decode b_Ref_take 28 = .ok (.aload_n 0, 1) := by decide +kernel
theorem d_Ref_take_29 : decode b_Ref_take 29 = .ok (.getfield 60, 3) := by decide +kernel
theorem d_Ref_take_32 : decode b_Ref_take 32 = .ok (.if_icmp .ge (24), 3) := by decide +kernel
theorem d_Ref_take_35 : decode b_Ref_take 35 = .ok (.aload_n 0, 1) := by decide +kernel
theorem d_Ref_take_36 : decode b_Ref_take 36 = .ok (.getfield 13, 3) := by decide +kernel
theorem d_Ref_take_39 : decode b_Ref_take 39 = .ok (.iload_n 2, 1) := by decide +kernel
theorem d_Ref_take_40 : decode b_Ref_take 40 = .ok (.aload_n 0, 1) := by decide +kernel
theorem d_Ref_take_41 : decode b_Ref_take 41 = .ok (.aload_n 0, 1) := by decide +kernel
theorem d_Ref_take_42 : decode b_Ref_take 42 = .ok (.getfield 57, 3) := by decide +kernel
theorem d_Ref_take_45 : decode b_Ref_take 45 = .ok (.iload_n 2, 1) := by decide +kernel
theorem d_Ref_take_46 : decode b_Ref_take 46 = .ok (.invokevirtual 100, 3) := by decide +kernel
theorem d_Ref_take_49 : decode b_Ref_take 49 = .ok (.iastore, 1) := by decide +kernel
theorem d_Ref_take_50 : decode b_Ref_take 50 = .ok (.iinc 2 (1), 3) := by decide +kernel
theorem d_Ref_take_53 : decode b_Ref_take 53 = .ok (.goto (-26), 3) := by decide +kernel
theorem d_Ref_take_56 : decode b_Ref_take 56 = .ok (.iload_n 1, 1) := by decide +kernel
theorem d_Ref_take_57 : decode b_Ref_take 57 = .ok (.ireturn, 1) := by decide +kernel
theorem d_Ref_kept_0 : decode b_Ref_kept 0 = .ok (.aload_n 0, 1) := by decide +kernel
theorem d_Ref_kept_1 : decode b_Ref_kept 1 = .ok (.lload_n 1, 1) := by decide +kernel
theorem d_Ref_kept_2 : decode b_Ref_kept 2 = .ok (.invokevirtual 107, 3) := by decide +kernel
theorem d_Ref_kept_5 : decode b_Ref_kept 5 = .ok (.istore_n 3, 1) := by decide +kernel
theorem d_Ref_kept_6 : decode b_Ref_kept 6 = .ok (.iconst 0, 1) := by decide +kernel
theorem d_Ref_kept_7 : decode b_Ref_kept 7 = .ok (.istore 4, 2) := by decide +kernel
theorem d_Ref_kept_9 : decode b_Ref_kept 9 = .ok (.iconst 0, 1) := by decide +kernel
theorem d_Ref_kept_10 : decode b_Ref_kept 10 = .ok (.istore 5, 2) := by decide +kernel
theorem d_Ref_kept_12 : decode b_Ref_kept 12 = .ok (.iload 5, 2) := by decide +kernel
theorem d_Ref_kept_14 : decode b_Ref_kept 14 = .ok (.bipush (64), 2) := by decide +kernel
theorem d_Ref_kept_16 : decode b_Ref_kept 16 = .ok (.if_icmp .ge (38), 3) := by decide +kernel
theorem d_Ref_kept_19 : decode b_Ref_kept 19 = .ok (.iload_n 3, 1) := by decide +kernel
theorem d_Ref_kept_20 : decode b_Ref_kept 20 = .ok (.ifCond .lt (34), 3) := by decide +kernel
theorem d_Ref_kept_23 : decode b_Ref_kept 23 = .ok (.iload 4, 2) := by decide +kernel
theorem d_Ref_kept_25 : decode b_Ref_kept 25 = .ok (.aload_n 0, 1) := by decide +kernel
theorem d_Ref_kept_26 : decode b_Ref_kept 26 = .ok (.getfield 38, 3) := by decide +kernel
theorem d_Ref_kept_29 : decode b_Ref_kept 29 = .ok (.bipush (64), 2) := by decide +kernel
theorem d_Ref_kept_31 : decode b_Ref_kept 31 = .ok (.iload_n 3, 1) := by decide +kernel
theorem d_Ref_kept_32 : decode b_Ref_kept 32 = .ok (.imul, 1) := by decide +kernel
theorem d_Ref_kept_33 : decode b_Ref_kept 33 = .ok (.iload 5, 2) := by decide +kernel
theorem d_Ref_kept_35 : decode b_Ref_kept 35 = .ok (.iadd, 1) := by decide +kernel
theorem d_Ref_kept_36 : decode b_Ref_kept 36 = .ok (.baload, 1) := by decide +kernel
theorem d_Ref_kept_37 : decode b_Ref_kept 37 = .ok (.ifCond .eq (7), 3) := by decide +kernel
theorem d_Ref_kept_40 : decode b_Ref_kept 40 = .ok (.iconst 1, 1) := by decide +kernel
theorem d_Ref_kept_41 : decode b_Ref_kept 41 = .ok (.goto (4), 3) := by decide +kernel
theorem d_Ref_kept_44 : decode b_Ref_kept 44 = .ok (.iconst 0, 1) := by decide +kernel
theorem d_Ref_kept_45 : decode b_Ref_kept 45 = .ok (.iadd, 1) := by decide +kernel
theorem d_Ref_kept_46 : decode b_Ref_kept 46 = .ok (.istore 4, 2) := by decide +kernel
theorem d_Ref_kept_48 : decode b_Ref_kept 48 = .ok (.iinc 5 (1), 3) := by decide +kernel
theorem d_Ref_kept_51 : decode b_Ref_kept 51 = .ok (.goto (-39), 3) := by decide +kernel
theorem d_Ref_kept_54 : decode b_Ref_kept 54 = .ok (.iload 4, 2) := by decide +kernel
theorem d_Ref_kept_56 : decode b_Ref_kept 56 = .ok (.ireturn, 1) := by decide +kernel
theorem d_Ref_canBeKept_0 : decode b_Ref_canBeKept 0 = .ok (.iconst 0, 1) := by decide +kernel
theorem d_Ref_canBeKept_1 : decode b_Ref_canBeKept 1 = .ok (.istore_n 2, 1) := by decide +kernel
theorem d_Ref_canBeKept_2 : decode b_Ref_canBeKept 2 = .ok (.iload_n 2, 1) := by decide +kernel
theorem d_Ref_canBeKept_3 : decode b_Ref_canBeKept 3 = .ok (.aload_n 0, 1) := by decide +kernel
theorem d_Ref_canBeKept_4 : decode b_Ref_canBeKept 4 = .ok (.getfield 16, 3) := by decide +kernel
theorem d_Ref_canBeKept_7 : decode b_Ref_canBeKept 7 = .ok (.if_icmp .ge (83), 3) := by decide +kernel
theorem d_Ref_canBeKept_10 : decode b_Ref_canBeKept 10 = .ok (.aload_n 0, 1) := by decide +kernel
theorem d_Ref_canBeKept_11 : decode b_Ref_canBeKept 11 = .ok (.getfield 38, 3) := by decide +kernel
theorem d_Ref_canBeKept_14 : decode b_Ref_canBeKept 14 = .ok (.bipush (64), 2) := by decide +kernel
theorem d_Ref_canBeKept_16 : decode b_Ref_canBeKept 16 = .ok (.aload_n 0, 1) := by decide +kernel
theorem d_Ref_canBeKept_17 : decode b_Ref_canBeKept 17 = .ok (.getfield 48, 3) := by decide +kernel
theorem d_Ref_canBeKept_20 : decode b_Ref_canBeKept 20 = .ok (.imul, 1) := by decide +kernel
theorem d_Ref_canBeKept_21 : decode b_Ref_canBeKept 21 = .ok (.iload_n 2, 1) := by decide +kernel
theorem d_Ref_canBeKept_22 : decode b_Ref_canBeKept 22 = .ok (.iadd, 1) := by decide +kernel
theorem d_Ref_canBeKept_23 : decode b_Ref_canBeKept 23 = .ok (.baload, 1) := by decide +kernel
theorem d_Ref_canBeKept_24 : decode b_Ref_canBeKept 24 = .ok (.istore_n 3, 1) := by decide +kernel
theorem d_Ref_canBeKept_25 : decode b_Ref_canBeKept 25 = .ok (.iconst 0, 1) := by decide +kernel
theorem d_Ref_canBeKept_26 : decode b_Ref_canBeKept 26 = .ok (.istore 4, 2) := by decide +kernel
theorem d_Ref_canBeKept_28 : decode b_Ref_canBeKept 28 = .ok (.iload 4, 2) := by decide +kernel
theorem d_Ref_canBeKept_30 : decode b_Ref_canBeKept 30 = .ok (.bipush (9), 2) := by decide +kernel
theorem d_Ref_canBeKept_32 : decode b_Ref_canBeKept 32 = .ok (.if_icmp .ge (46), 3) := by decide +kernel
theorem d_Ref_canBeKept_35 : decode b_Ref_canBeKept 35 = .ok (.iload_n 3, 1) := by decide +kernel
theorem d_Ref_canBeKept_36 : decode b_Ref_canBeKept 36 = .ok (.ifCond .eq (34), 3) := by decide +kernel
theorem d_Ref_canBeKept_39 : decode b_Ref_canBeKept 39 = .ok (.iload_n 1, 1) := by decide +kernel
theorem d_Ref_canBeKept_40 : decode b_Ref_canBeKept 40 = .ok (.iload 4, 2) := by decide +kernel
theorem d_Ref_canBeKept_42 : decode b_Ref_canBeKept 42 = .ok (.ishr, 1) := by decide +kernel
theorem d_Ref_canBeKept_43 : decode b_Ref_canBeKept 43 = .ok (.iconst 1, 1) := by decide +kernel
theorem d_Ref_canBeKept_44 : decode b_Ref_canBeKept 44 = .ok (.iand, 1) := by decide +kernel
theorem d_Ref_canBeKept_45 : decode b_Ref_canBeKept 45 = .ok (.ifCond .eq (21), 3) := by decide +kernel
theorem d_Ref_canBeKept_48 : decode b_Ref_canBeKept 48 = .ok (.aload_n 0, 1) := by decide +kernel
theorem d_Ref_canBeKept_49 : decode b_Ref_canBeKept 49 = .ok (.bipush (64), 2) := by decide +kernel
theorem d_Ref_canBeKept_51 : decode b_Ref_canBeKept 51 = .ok (.aload_n 0, 1) := by decide +kernel
theorem d_Ref_canBeKept_52 : decode b_Ref_canBeKept 52 = .ok (.getfield 48, 3) := by decide +kernel
theorem d_Ref_canBeKept_55 : decode b_Ref_canBeKept 55 = .ok (.imul, 1) := by decide +kernel
theorem d_Ref_canBeKept_56 : decode b_Ref_canBeKept 56 = .ok (.iload_n 2, 1) := by decide +kernel
theorem d_Ref_canBeKept_57 : decode b_Ref_canBeKept 57 = .ok (.iadd, 1) := by decide +kernel
theorem d_Ref_canBeKept_58 : decode b_Ref_canBeKept 58 = .ok (.iload 4, 2) := by decide +kernel
theorem d_Ref_canBeKept_60 : decode b_Ref_canBeKept 60 = .ok (.invokevirtual 104, 3) := by decide +kernel
theorem d_Ref_canBeKept_63 : decode b_Ref_canBeKept 63 = .ok (.ifCond .eq (7), 3) := by decide +kernel
theorem d_Ref_canBeKept_66 : decode b_Ref_canBeKept 66 = .ok (.iconst 1, 1) := by decide +kernel
theorem d_Ref_canBeKept_67 : decode b_Ref_canBeKept 67 = .ok (.goto (4), 3) := by decide +kernel
theorem d_Ref_canBeKept_70 : decode b_Ref_canBeKept 70 = .ok (.iconst 0, 1) := by decide +kernel
theorem d_Ref_canBeKept_71 : decode b_Ref_canBeKept 71 = .ok (.istore_n 3, 1) := by decide +kernel
theorem d_Ref_canBeKept_72 : decode b_Ref_canBeKept 72 = .ok (.iinc 4 (1), 3) := by decide +kernel
theorem d_Ref_canBeKept_75 : decode b_Ref_canBeKept 75 = .ok (.goto (-47), 3) := by decide +kernel
theorem d_Ref_canBeKept_78 : decode b_Ref_canBeKept 78 = .ok (.iload_n 3, 1) := by decide +kernel
theorem d_Ref_canBeKept_79 : decode b_Ref_canBeKept 79 = .ok (.ifCond .eq (5), 3) := by decide +kernel
theorem d_Ref_canBeKept_82 : decode b_Ref_canBeKept 82 = .ok (.iconst 1, 1) := by decide +kernel
theorem d_Ref_canBeKept_83 : decode b_Ref_canBeKept 83 = .ok (.ireturn, 1) := by decide +kernel
theorem d_Ref_canBeKept_84 : decode b_Ref_canBeKept 84 = .ok (.iinc 2 (1), 3) := by decide +kernel
theorem d_Ref_canBeKept_87 : decode b_Ref_canBeKept 87 = .ok (.goto (-85), 3) := by decide +kernel
theorem d_Ref_canBeKept_90 : decode b_Ref_canBeKept 90 = .ok (.iconst 0, 1) := by decide +kernel
theorem d_Ref_canBeKept_91 : decode b_Ref_canBeKept 91 = .ok (.ireturn, 1) := by decide +kernel
theorem d_Ref_sizeOf_0 : decode b_Ref_sizeOf 0 = .ok (.iconst 0, 1) := by decide +kernel
theorem d_Ref_sizeOf_1 : decode b_Ref_sizeOf 1 = .ok (.istore_n 1, 1) := by decide +kernel
theorem d_Ref_sizeOf_2 : decode b_Ref_sizeOf 2 = .ok (.iconst 0, 1) := by decide +kernel
theorem d_Ref_sizeOf_3 : decode b_Ref_sizeOf 3 = .ok (.istore_n 2, 1) := by decide +kernel
theorem d_Ref_sizeOf_4 : decode b_Ref_sizeOf 4 = .ok (.iload_n 2, 1) := by decide +kernel
theorem d_Ref_sizeOf_5 : decode b_Ref_sizeOf 5 = .ok (.bipush (9), 2) := by decide +kernel
theorem d_Ref_sizeOf_7 : decode b_Ref_sizeOf 7 = .ok (.if_icmp .ge (17), 3) := by decide +kernel
theorem d_Ref_sizeOf_10 : decode b_Ref_sizeOf 10 = .ok (.iload_n 1, 1) := by decide +kernel
theorem d_Ref_sizeOf_11 : decode b_Ref_sizeOf 11 = .ok (.iload_n 0, 1) := by decide +kernel
theorem d_Ref_sizeOf_12 : decode b_Ref_sizeOf 12 = .ok (.iload_n 2, 1) := by decide +kernel
theorem d_Ref_sizeOf_13 : decode b_Ref_sizeOf 13 = .ok (.ishr, 1) := by decide +kernel
theorem d_Ref_sizeOf_14 : decode b_Ref_sizeOf 14 = .ok (.iconst 1, 1) := by decide +kernel
theorem d_Ref_sizeOf_15 : decode b_Ref_sizeOf 15 = .ok (.iand, 1) := by decide +kernel
theorem d_Ref_sizeOf_16 : decode b_Ref_sizeOf 16 = .ok (.iadd, 1) := by decide +kernel
theorem d_Ref_sizeOf_17 : decode b_Ref_sizeOf 17 = .ok (.istore_n 1, 1) := by decide +kernel
theorem d_Ref_sizeOf_18 : decode b_Ref_sizeOf 18 = .ok (.iinc 2 (1), 3) := by decide +kernel
theorem d_Ref_sizeOf_21 : decode b_Ref_sizeOf 21 = .ok (.goto (-17), 3) := by decide +kernel
theorem d_Ref_sizeOf_24 : decode b_Ref_sizeOf 24 = .ok (.iload_n 1, 1) := by decide +kernel
theorem d_Ref_sizeOf_25 : decode b_Ref_sizeOf 25 = .ok (.ireturn, 1) := by decide +kernel
theorem d_Ref_clash_0 : decode b_Ref_clash 0 = .ok (.aload_n 0, 1) := by decide +kernel
theorem d_Ref_clash_1 : decode b_Ref_clash 1 = .ok (.getfield 78, 3) := by decide +kernel
theorem d_Ref_clash_4 : decode b_Ref_clash 4 = .ok (.ifCond .ne (5), 3) := by decide +kernel
theorem d_Ref_clash_7 : decode b_Ref_clash 7 = .ok (.iconst (-1), 1) := by decide +kernel
theorem d_Ref_clash_8 : decode b_Ref_clash 8 = .ok (.ireturn, 1) := by decide +kernel
theorem d_Ref_clash_9 : decode b_Ref_clash 9 = .ok (.iconst 0, 1) := by decide +kernel
theorem d_Ref_clash_10 : decode b_Ref_clash 10 = .ok (.istore_n 2, 1) := by decide +kernel
theorem d_Ref_clash_11 : decode b_Ref_clash 11 = .ok (.iconst 0, 1) := by decide +kernel
theorem d_Ref_clash_12 : decode b_Ref_clash 12 = .ok (.istore_n 3, 1) := by decide +kernel
theorem d_Ref_clash_13 : decode b_Ref_clash 13 = .ok (.iload_n 3, 1) := by decide +kernel
theorem d_Ref_clash_14 : decode b_Ref_clash 14 = .ok (.bipush (9), 2) := by decide +kernel
theorem d_Ref_clash_16 : decode b_Ref_clash 16 = .ok (.if_icmp .ge (27), 3) := by decide +kernel
theorem d_Ref_clash_19 : decode b_Ref_clash 19 = .ok (.iload_n 2, 1) := by decide +kernel
theorem d_Ref_clash_20 : decode b_Ref_clash 20 = .ok (.aload_n 0, 1) := by decide +kernel
theorem d_Ref_clash_21 : decode b_Ref_clash 21 = .ok (.iload_n 3, 1) := by decide +kernel
theorem d_Ref_clash_22 : decode b_Ref_clash 22 = .ok (.invokevirtual 139, 3) := by decide +kernel
theorem d_Ref_clash_25 : decode b_Ref_clash 25 = .ok (.ifCond .eq (9), 3) := by decide +kernel
theorem d_Ref_clash_28 : decode b_Ref_clash 28 = .ok (.iconst 1, 1) := by decide +kernel
theorem d_Ref_clash_29 : decode b_Ref_clash 29 = .ok (.iload_n 3, 1) := by decide +kernel
theorem d_Ref_clash_30 : decode b_Ref_clash 30 = .ok (.ishl, 1) := by decide +kernel
theorem d_Ref_clash_31 : decode b_Ref_clash 31 = .ok (.goto (4), 3) := by decide +kernel
theorem d_Ref_clash_34 : decode b_Ref_clash 34 = .ok (.iconst 0, 1) := by decide +kernel
theorem d_Ref_clash_35 : decode b_Ref_clash 35 = .ok (.ior, 1) := by decide +kernel
theorem d_Ref_clash_36 : decode b_Ref_clash 36 = .ok (.istore_n 2, 1) := by decide +kernel
theorem d_Ref_clash_37 : decode b_Ref_clash 37 = .ok (.iinc 3 (1), 3) := by decide +kernel
theorem d_Ref_clash_40 : decode b_Ref_clash 40 = .ok (.goto (-27), 3) := by decide +kernel
theorem d_Ref_clash_43 : decode b_Ref_clash 43 = .ok (.iconst 0, 1) := by decide +kernel
theorem d_Ref_clash_44 : decode b_Ref_clash 44 = .ok (.istore_n 3, 1) := by decide +kernel
theorem d_Ref_clash_45 : decode b_Ref_clash 45 = .ok (.iconst 1, 1) := by decide +kernel
theorem d_Ref_clash_46 : decode b_Ref_clash 46 = .ok (.istore 4, 2) := by decide +kernel
theorem d_Ref_clash_48 : decode b_Ref_clash 48 = .ok (.iload 4, 2) := by decide +kernel
theorem d_Ref_clash_50 : decode b_Ref_clash 50 = .ok (.sipush (512), 3) := by decide +kernel
theorem d_Ref_clash_53 : decode b_Ref_clash 53 = .ok (.if_icmp .ge (46), 3) := by decide +kernel
theorem d_Ref_clash_56 : decode b_Ref_clash 56 = .ok (.iload 4, 2) := by decide +kernel
theorem d_Ref_clash_58 : decode b_Ref_clash 58 = .ok (.iload_n 2, 1) := by decide +kernel
theorem d_Ref_clash_59 : decode b_Ref_clash 59 = .ok (.iand, 1) := by decide +kernel
theorem d_Ref_clash_60 : decode b_Ref_clash 60 = .ok (.iload 4, 2) := by decide +kernel
theorem d_Ref_clash_62 : decode b_Ref_clash 62 = .ok (.if_icmp .ne (31), 3) := by decide +kernel
theorem d_Ref_clash_65 : decode b_Ref_clash 65 = .ok (.iload_n 3, 1) := by decide +kernel
theorem d_Ref_clash_66 : decode b_Ref_clash 66 = .ok (.ifCond .eq (15), 3) := by decide +kernel
theorem d_Ref_clash_69 : decode b_Ref_clash 69 = .ok (.iload 4, 2) := by decide +kernel
theorem d_Ref_clash_71 : decode b_Ref_clash 71 = .ok (.invokestatic 142, 3) := by decide +kernel
theorem d_Ref_clash_74 : decode b_Ref_clash 74 = .ok (.iload_n 3, 1) := by decide +kernel
theorem d_Ref_clash_75 : decode b_Ref_clash 75 = .ok (.invokestatic 142, 3) := by decide +kernel
theorem d_Ref_clash_78 : decode b_Ref_clash 78 = .ok (.if_icmp .ge (15), 3) := by decide +kernel
theorem d_Ref_clash_81 : decode b_Ref_clash 81 = .ok (.aload_n 0, 1) := by decide +kernel
theorem d_Ref_clash_82 : decode b_Ref_clash 82 = .ok (.iload 4, 2) := by decide +kernel
theorem d_Ref_clash_84 : decode b_Ref_clash 84 = .ok (.invokevirtual 145, 3) := by decide +kernel

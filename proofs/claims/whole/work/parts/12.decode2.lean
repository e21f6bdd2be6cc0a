theorem d_Mo_total_171 : decode b_Mo_total 171 = .ok (.iload_n 3, 1) := by decide +kernel
theorem d_Mo_total_172 : decode b_Mo_total 172 = .ok (.ifCond .lt 99, 3) := by decide +kernel
theorem d_Mo_total_175 : decode b_Mo_total 175 = .ok (.iload_n 3, 1) := by decide +kernel
theorem d_Mo_total_176 : decode b_Mo_total 176 = .ok (.iconst 4, 1) := by decide +kernel
theorem d_Mo_total_177 : decode b_Mo_total 177 = .ok (.imul, 1) := by decide +kernel
theorem d_Mo_total_178 : decode b_Mo_total 178 = .ok (.istore 4, 2) := by decide +kernel
theorem d_Mo_total_180 : decode b_Mo_total 180 = .ok (.iload 4, 2) := by decide +kernel
theorem d_Mo_total_182 : decode b_Mo_total 182 = .ok (.iload_n 3, 1) := by decide +kernel
theorem d_Mo_total_183 : decode b_Mo_total 183 = .ok (.iconst 4, 1) := by decide +kernel
theorem d_Mo_total_184 : decode b_Mo_total 184 = .ok (.imul, 1) := by decide +kernel
theorem d_Mo_total_185 : decode b_Mo_total 185 = .ok (.aload_n 0, 1) := by decide +kernel
theorem d_Mo_total_186 : decode b_Mo_total 186 = .ok (.getfield 31, 3) := by decide +kernel
theorem d_Mo_total_189 : decode b_Mo_total 189 = .ok (.iload_n 3, 1) := by decide +kernel
theorem d_Mo_total_190 : decode b_Mo_total 190 = .ok (.iaload, 1) := by decide +kernel
theorem d_Mo_total_191 : decode b_Mo_total 191 = .ok (.iadd, 1) := by decide +kernel
theorem d_Mo_total_192 : decode b_Mo_total 192 = .ok (.if_icmp .ge 64, 3) := by decide +kernel
theorem d_Mo_total_195 : decode b_Mo_total 195 = .ok (.aload_n 0, 1) := by decide +kernel
theorem d_Mo_total_196 : decode b_Mo_total 196 = .ok (.getfield 47, 3) := by decide +kernel
theorem d_Mo_total_199 : decode b_Mo_total 199 = .ok (.iload_n 3, 1) := by decide +kernel
theorem d_Mo_total_200 : decode b_Mo_total 200 = .ok (.baload, 1) := by decide +kernel
theorem d_Mo_total_201 : decode b_Mo_total 201 = .ok (.ifCond .eq 49, 3) := by decide +kernel
theorem d_Mo_total_204 : decode b_Mo_total 204 = .ok (.aload_n 0, 1) := by decide +kernel
theorem d_Mo_total_205 : decode b_Mo_total 205 = .ok (.getfield 22, 3) := by decide +kernel
theorem d_Mo_total_208 : decode b_Mo_total 208 = .ok (.iload 4, 2) := by decide +kernel
theorem d_Mo_total_210 : decode b_Mo_total 210 = .ok (.iaload, 1) := by decide +kernel
theorem d_Mo_total_211 : decode b_Mo_total 211 = .ok (.ifCond .lt 39, 3) := by decide +kernel
theorem d_Mo_total_214 : decode b_Mo_total 214 = .ok (.aload_n 0, 1) := by decide +kernel
theorem d_Mo_total_215 : decode b_Mo_total 215 = .ok (.getfield 19, 3) := by decide +kernel
theorem d_Mo_total_218 : decode b_Mo_total 218 = .ok (.aload_n 0, 1) := by decide +kernel
theorem d_Mo_total_219 : decode b_Mo_total 219 = .ok (.getfield 22, 3) := by decide +kernel
theorem d_Mo_total_222 : decode b_Mo_total 222 = .ok (.iload 4, 2) := by decide +kernel
theorem d_Mo_total_224 : decode b_Mo_total 224 = .ok (.iaload, 1) := by decide +kernel
theorem d_Mo_total_225 : decode b_Mo_total 225 = .ok (.iaload, 1) := by decide +kernel
theorem d_Mo_total_226 : decode b_Mo_total 226 = .ok (.ifCond .ne 24, 3) := by decide +kernel
theorem d_Mo_total_229 : decode b_Mo_total 229 = .ok (.aload_n 0, 1) := by decide +kernel
theorem d_Mo_total_230 : decode b_Mo_total 230 = .ok (.getfield 57, 3) := by decide +kernel
theorem d_Mo_total_233 : decode b_Mo_total 233 = .ok (.aload_n 0, 1) := by decide +kernel
theorem d_Mo_total_234 : decode b_Mo_total 234 = .ok (.getfield 22, 3) := by decide +kernel
theorem d_Mo_total_237 : decode b_Mo_total 237 = .ok (.iload 4, 2) := by decide +kernel
theorem d_Mo_total_239 : decode b_Mo_total 239 = .ok (.iaload, 1) := by decide +kernel
theorem d_Mo_total_240 : decode b_Mo_total 240 = .ok (.dup2, 1) := by decide +kernel
theorem d_Mo_total_241 : decode b_Mo_total 241 = .ok (.laload, 1) := by decide +kernel
theorem d_Mo_total_242 : decode b_Mo_total 242 = .ok (.aload_n 0, 1) := by decide +kernel
theorem d_Mo_total_243 : decode b_Mo_total 243 = .ok (.getfield 57, 3) := by decide +kernel
theorem d_Mo_total_246 : decode b_Mo_total 246 = .ok (.iload_n 3, 1) := by decide +kernel
theorem d_Mo_total_247 : decode b_Mo_total 247 = .ok (.laload, 1) := by decide +kernel
theorem d_Mo_total_248 : decode b_Mo_total 248 = .ok (.ladd, 1) := by decide +kernel
theorem d_Mo_total_249 : decode b_Mo_total 249 = .ok (.lastore, 1) := by decide +kernel
theorem d_Mo_total_250 : decode b_Mo_total 250 = .ok (.iinc 4 1, 3) := by decide +kernel
theorem d_Mo_total_253 : decode b_Mo_total 253 = .ok (.goto (-73), 3) := by decide +kernel
theorem d_Mo_total_256 : decode b_Mo_total 256 = .ok (.lload_n 1, 1) := by decide +kernel
theorem d_Mo_total_257 : decode b_Mo_total 257 = .ok (.aload_n 0, 1) := by decide +kernel
theorem d_Mo_total_258 : decode b_Mo_total 258 = .ok (.getfield 57, 3) := by decide +kernel
theorem d_Mo_total_261 : decode b_Mo_total 261 = .ok (.iload_n 3, 1) := by decide +kernel
theorem d_Mo_total_262 : decode b_Mo_total 262 = .ok (.laload, 1) := by decide +kernel
theorem d_Mo_total_263 : decode b_Mo_total 263 = .ok (.ladd, 1) := by decide +kernel
theorem d_Mo_total_264 : decode b_Mo_total 264 = .ok (.lstore_n 1, 1) := by decide +kernel
theorem d_Mo_total_265 : decode b_Mo_total 265 = .ok (.iinc 3 (-1), 3) := by decide +kernel
theorem d_Mo_total_268 : decode b_Mo_total 268 = .ok (.goto (-97), 3) := by decide +kernel
theorem d_Mo_total_271 : decode b_Mo_total 271 = .ok (.lload_n 1, 1) := by decide +kernel
theorem d_Mo_total_272 : decode b_Mo_total 272 = .ok (.lreturn, 1) := by decide +kernel
theorem d_Mo_leans_0 : decode b_Mo_leans 0 = .ok (.iconst 1, 1) := by decide +kernel
theorem d_Mo_leans_1 : decode b_Mo_leans 1 = .ok (.iload_n 1, 1) := by decide +kernel
theorem d_Mo_leans_2 : decode b_Mo_leans 2 = .ok (.ishl, 1) := by decide +kernel
theorem d_Mo_leans_3 : decode b_Mo_leans 3 = .ok (.istore_n 2, 1) := by decide +kernel
theorem d_Mo_leans_4 : decode b_Mo_leans 4 = .ok (.iload_n 1, 1) := by decide +kernel
theorem d_Mo_leans_5 : decode b_Mo_leans 5 = .ok (.istore_n 3, 1) := by decide +kernel
theorem d_Mo_leans_6 : decode b_Mo_leans 6 = .ok (.iload_n 3, 1) := by decide +kernel
theorem d_Mo_leans_7 : decode b_Mo_leans 7 = .ok (.ifCond .lt 116, 3) := by decide +kernel
theorem d_Mo_leans_10 : decode b_Mo_leans 10 = .ok (.iload_n 2, 1) := by decide +kernel
theorem d_Mo_leans_11 : decode b_Mo_leans 11 = .ok (.iload_n 3, 1) := by decide +kernel
theorem d_Mo_leans_12 : decode b_Mo_leans 12 = .ok (.ishr, 1) := by decide +kernel
theorem d_Mo_leans_13 : decode b_Mo_leans 13 = .ok (.iconst 1, 1) := by decide +kernel
theorem d_Mo_leans_14 : decode b_Mo_leans 14 = .ok (.iand, 1) := by decide +kernel
theorem d_Mo_leans_15 : decode b_Mo_leans 15 = .ok (.ifCond .eq 21, 3) := by decide +kernel
theorem d_Mo_leans_18 : decode b_Mo_leans 18 = .ok (.iload_n 3, 1) := by decide +kernel
theorem d_Mo_leans_19 : decode b_Mo_leans 19 = .ok (.iload_n 1, 1) := by decide +kernel
theorem d_Mo_leans_20 : decode b_Mo_leans 20 = .ok (.if_icmp .eq 12, 3) := by decide +kernel
theorem d_Mo_leans_23 : decode b_Mo_leans 23 = .ok (.aload_n 0, 1) := by decide +kernel
theorem d_Mo_leans_24 : decode b_Mo_leans 24 = .ok (.getfield 19, 3) := by decide +kernel
theorem d_Mo_leans_27 : decode b_Mo_leans 27 = .ok (.iload_n 3, 1) := by decide +kernel
theorem d_Mo_leans_28 : decode b_Mo_leans 28 = .ok (.iaload, 1) := by decide +kernel
theorem d_Mo_leans_29 : decode b_Mo_leans 29 = .ok (.ifCond .ne 7, 3) := by decide +kernel
theorem d_Mo_leans_32 : decode b_Mo_leans 32 = .ok (.iconst 1, 1) := by decide +kernel
theorem d_Mo_leans_33 : decode b_Mo_leans 33 = .ok (.goto 4, 3) := by decide +kernel
theorem d_Mo_leans_36 : decode b_Mo_leans 36 = .ok (.iconst 0, 1) := by decide +kernel
theorem d_Mo_leans_37 : decode b_Mo_leans 37 = .ok (.istore 4, 2) := by decide +kernel
theorem d_Mo_leans_39 : decode b_Mo_leans 39 = .ok (.iload_n 3, 1) := by decide +kernel
theorem d_Mo_leans_40 : decode b_Mo_leans 40 = .ok (.iload_n 1, 1) := by decide +kernel
theorem d_Mo_leans_41 : decode b_Mo_leans 41 = .ok (.if_icmp .ge 23, 3) := by decide +kernel
theorem d_Mo_leans_44 : decode b_Mo_leans 44 = .ok (.iload_n 2, 1) := by decide +kernel
theorem d_Mo_leans_45 : decode b_Mo_leans 45 = .ok (.iload_n 3, 1) := by decide +kernel
theorem d_Mo_leans_46 : decode b_Mo_leans 46 = .ok (.ishr, 1) := by decide +kernel
theorem d_Mo_leans_47 : decode b_Mo_leans 47 = .ok (.iconst 1, 1) := by decide +kernel
theorem d_Mo_leans_48 : decode b_Mo_leans 48 = .ok (.iand, 1) := by decide +kernel
theorem d_Mo_leans_49 : decode b_Mo_leans 49 = .ok (.ifCond .eq 15, 3) := by decide +kernel
theorem d_Mo_leans_52 : decode b_Mo_leans 52 = .ok (.aload_n 0, 1) := by decide +kernel
theorem d_Mo_leans_53 : decode b_Mo_leans 53 = .ok (.getfield 19, 3) := by decide +kernel
theorem d_Mo_leans_56 : decode b_Mo_leans 56 = .ok (.iload_n 3, 1) := by decide +kernel
theorem d_Mo_leans_57 : decode b_Mo_leans 57 = .ok (.iaload, 1) := by decide +kernel
theorem d_Mo_leans_58 : decode b_Mo_leans 58 = .ok (.iconst 2, 1) := by decide +kernel
theorem d_Mo_leans_59 : decode b_Mo_leans 59 = .ok (.if_icmp .ne 5, 3) := by decide +kernel
theorem d_Mo_leans_62 : decode b_Mo_leans 62 = .ok (.iconst 1, 1) := by decide +kernel
theorem d_Mo_leans_63 : decode b_Mo_leans 63 = .ok (.ireturn, 1) := by decide +kernel
theorem d_Mo_leans_64 : decode b_Mo_leans 64 = .ok (.iload_n 3, 1) := by decide +kernel
theorem d_Mo_leans_65 : decode b_Mo_leans 65 = .ok (.iconst 4, 1) := by decide +kernel
theorem d_Mo_leans_66 : decode b_Mo_leans 66 = .ok (.imul, 1) := by decide +kernel
theorem d_Mo_leans_67 : decode b_Mo_leans 67 = .ok (.istore 5, 2) := by decide +kernel
theorem d_Mo_leans_69 : decode b_Mo_leans 69 = .ok (.iload 5, 2) := by decide +kernel
theorem d_Mo_leans_71 : decode b_Mo_leans 71 = .ok (.iload_n 3, 1) := by decide +kernel
theorem d_Mo_leans_72 : decode b_Mo_leans 72 = .ok (.iconst 4, 1) := by decide +kernel
theorem d_Mo_leans_73 : decode b_Mo_leans 73 = .ok (.imul, 1) := by decide +kernel
theorem d_Mo_leans_74 : decode b_Mo_leans 74 = .ok (.aload_n 0, 1) := by decide +kernel
theorem d_Mo_leans_75 : decode b_Mo_leans 75 = .ok (.getfield 31, 3) := by decide +kernel
theorem d_Mo_leans_78 : decode b_Mo_leans 78 = .ok (.iload_n 3, 1) := by decide +kernel
theorem d_Mo_leans_79 : decode b_Mo_leans 79 = .ok (.iaload, 1) := by decide +kernel
theorem d_Mo_leans_80 : decode b_Mo_leans 80 = .ok (.iadd, 1) := by decide +kernel
theorem d_Mo_leans_81 : decode b_Mo_leans 81 = .ok (.if_icmp .ge 36, 3) := by decide +kernel
theorem d_Mo_leans_84 : decode b_Mo_leans 84 = .ok (.iload 4, 2) := by decide +kernel
theorem d_Mo_leans_86 : decode b_Mo_leans 86 = .ok (.ifCond .eq 25, 3) := by decide +kernel
theorem d_Mo_leans_89 : decode b_Mo_leans 89 = .ok (.aload_n 0, 1) := by decide +kernel
theorem d_Mo_leans_90 : decode b_Mo_leans 90 = .ok (.getfield 22, 3) := by decide +kernel
theorem d_Mo_leans_93 : decode b_Mo_leans 93 = .ok (.iload 5, 2) := by decide +kernel
theorem d_Mo_leans_95 : decode b_Mo_leans 95 = .ok (.iaload, 1) := by decide +kernel
theorem d_Mo_leans_96 : decode b_Mo_leans 96 = .ok (.ifCond .lt 15, 3) := by decide +kernel
theorem d_Mo_leans_99 : decode b_Mo_leans 99 = .ok (.iload_n 2, 1) := by decide +kernel
theorem d_Mo_leans_100 : decode b_Mo_leans 100 = .ok (.iconst 1, 1) := by decide +kernel
theorem d_Mo_leans_101 : decode b_Mo_leans 101 = .ok (.aload_n 0, 1) := by decide +kernel
theorem d_Mo_leans_102 : decode b_Mo_leans 102 = .ok (.getfield 22, 3) := by decide +kernel
theorem d_Mo_leans_105 : decode b_Mo_leans 105 = .ok (.iload 5, 2) := by decide +kernel
theorem d_Mo_leans_107 : decode b_Mo_leans 107 = .ok (.iaload, 1) := by decide +kernel
theorem d_Mo_leans_108 : decode b_Mo_leans 108 = .ok (.ishl, 1) := by decide +kernel
theorem d_Mo_leans_109 : decode b_Mo_leans 109 = .ok (.ior, 1) := by decide +kernel
theorem d_Mo_leans_110 : decode b_Mo_leans 110 = .ok (.istore_n 2, 1) := by decide +kernel
theorem d_Mo_leans_111 : decode b_Mo_leans 111 = .ok (.iinc 5 1, 3) := by decide +kernel
theorem d_Mo_leans_114 : decode b_Mo_leans 114 = .ok (.goto (-45), 3) := by decide +kernel
theorem d_Mo_leans_117 : decode b_Mo_leans 117 = .ok (.iinc 3 (-1), 3) := by decide +kernel
theorem d_Mo_leans_120 : decode b_Mo_leans 120 = .ok (.goto (-114), 3) := by decide +kernel
theorem d_Mo_leans_123 : decode b_Mo_leans 123 = .ok (.iconst 0, 1) := by decide +kernel
theorem d_Mo_leans_124 : decode b_Mo_leans 124 = .ok (.ireturn, 1) := by decide +kernel
theorem d_Mo_compile_0 : decode b_Mo_compile 0 = .ok (.aload_n 0, 1) := by decide +kernel
theorem d_Mo_compile_1 : decode b_Mo_compile 1 = .ok (.getfield 67, 3) := by decide +kernel
theorem d_Mo_compile_4 : decode b_Mo_compile 4 = .ok (.ifCond .eq 6, 3) := by decide +kernel
theorem d_Mo_compile_7 : decode b_Mo_compile 7 = .ok (.bipush (-3), 2) := by decide +kernel
theorem d_Mo_compile_9 : decode b_Mo_compile 9 = .ok (.ireturn, 1) := by decide +kernel
theorem d_Mo_compile_10 : decode b_Mo_compile 10 = .ok (.aload_n 0, 1) := by decide +kernel
theorem d_Mo_compile_11 : decode b_Mo_compile 11 = .ok (.getfield 38, 3) := by decide +kernel
theorem d_Mo_compile_14 : decode b_Mo_compile 14 = .ok (.ifCond .ge 6, 3) := by decide +kernel
theorem d_Mo_compile_17 : decode b_Mo_compile 17 = .ok (.bipush (-100), 2) := by decide +kernel
theorem d_Mo_compile_19 : decode b_Mo_compile 19 = .ok (.ireturn, 1) := by decide +kernel
theorem d_Mo_compile_20 : decode b_Mo_compile 20 = .ok (.aload_n 0, 1) := by decide +kernel
theorem d_Mo_compile_21 : decode b_Mo_compile 21 = .ok (.iconst 0, 1) := by decide +kernel
theorem d_Mo_compile_22 : decode b_Mo_compile 22 = .ok (.aload_n 0, 1) := by decide +kernel
theorem d_Mo_compile_23 : decode b_Mo_compile 23 = .ok (.getfield 82, 3) := by decide +kernel
theorem d_Mo_compile_26 : decode b_Mo_compile 26 = .ok (.iconst 1, 1) := by decide +kernel
theorem d_Mo_compile_27 : decode b_Mo_compile 27 = .ok (.isub, 1) := by decide +kernel
theorem d_Mo_compile_28 : decode b_Mo_compile 28 = .ok (.invokevirtual 103, 3) := by decide +kernel
theorem d_Mo_compile_31 : decode b_Mo_compile 31 = .ok (.iconst 0, 1) := by decide +kernel
theorem d_Mo_compile_32 : decode b_Mo_compile 32 = .ok (.istore_n 1, 1) := by decide +kernel
theorem d_Mo_compile_33 : decode b_Mo_compile 33 = .ok (.iload_n 1, 1) := by decide +kernel
theorem d_Mo_compile_34 : decode b_Mo_compile 34 = .ok (.aload_n 0, 1) := by decide +kernel
theorem d_Mo_compile_35 : decode b_Mo_compile 35 = .ok (.getfield 38, 3) := by decide +kernel
theorem d_Mo_compile_38 : decode b_Mo_compile 38 = .ok (.if_icmp .ge 32, 3) := by decide +kernel
theorem d_Mo_compile_41 : decode b_Mo_compile 41 = .ok (.aload_n 0, 1) := by decide +kernel
theorem d_Mo_compile_42 : decode b_Mo_compile 42 = .ok (.iload_n 1, 1) := by decide +kernel
theorem d_Mo_compile_43 : decode b_Mo_compile 43 = .ok (.iconst 1, 1) := by decide +kernel
theorem d_Mo_compile_44 : decode b_Mo_compile 44 = .ok (.invokevirtual 106, 3) := by decide +kernel
theorem d_Mo_compile_47 : decode b_Mo_compile 47 = .ok (.ifCond .eq 17, 3) := by decide +kernel
theorem d_Mo_compile_50 : decode b_Mo_compile 50 = .ok (.aload_n 0, 1) := by decide +kernel
theorem d_Mo_compile_51 : decode b_Mo_compile 51 = .ok (.iload_n 1, 1) := by decide +kernel
theorem d_Mo_compile_52 : decode b_Mo_compile 52 = .ok (.invokevirtual 118, 3) := by decide +kernel
theorem d_Mo_compile_55 : decode b_Mo_compile 55 = .ok (.ifCond .eq 9, 3) := by decide +kernel
theorem d_Mo_compile_58 : decode b_Mo_compile 58 = .ok (.sipush (-200), 3) := by decide +kernel
theorem d_Mo_compile_61 : decode b_Mo_compile 61 = .ok (.iload_n 1, 1) := by decide +kernel
theorem d_Mo_compile_62 : decode b_Mo_compile 62 = .ok (.isub, 1) := by decide +kernel
theorem d_Mo_compile_63 : decode b_Mo_compile 63 = .ok (.ireturn, 1) := by decide +kernel
theorem d_Mo_compile_64 : decode b_Mo_compile 64 = .ok (.iinc 1 1, 3) := by decide +kernel
theorem d_Mo_compile_67 : decode b_Mo_compile 67 = .ok (.goto (-34), 3) := by decide +kernel
theorem d_Mo_compile_70 : decode b_Mo_compile 70 = .ok (.aload_n 0, 1) := by decide +kernel
theorem d_Mo_compile_71 : decode b_Mo_compile 71 = .ok (.invokevirtual 121, 3) := by decide +kernel
theorem d_Mo_compile_74 : decode b_Mo_compile 74 = .ok (.lstore_n 1, 1) := by decide +kernel
theorem d_Mo_compile_75 : decode b_Mo_compile 75 = .ok (.lload_n 1, 1) := by decide +kernel
theorem d_Mo_compile_76 : decode b_Mo_compile 76 = .ok (.ldc2_w 125, 3) := by decide +kernel
theorem d_Mo_compile_79 : decode b_Mo_compile 79 = .ok (.lcmp, 1) := by decide +kernel
theorem d_Mo_compile_80 : decode b_Mo_compile 80 = .ok (.ifCond .le 7, 3) := by decide +kernel
theorem d_Mo_compile_83 : decode b_Mo_compile 83 = .ok (.sipush (-300), 3) := by decide +kernel
theorem d_Mo_compile_86 : decode b_Mo_compile 86 = .ok (.ireturn, 1) := by decide +kernel
theorem d_Mo_compile_87 : decode b_Mo_compile 87 = .ok (.aload_n 0, 1) := by decide +kernel
theorem d_Mo_compile_88 : decode b_Mo_compile 88 = .ok (.iconst 1, 1) := by decide +kernel
theorem d_Mo_compile_89 : decode b_Mo_compile 89 = .ok (.putfield 67, 3) := by decide +kernel
theorem d_Mo_compile_92 : decode b_Mo_compile 92 = .ok (.lload_n 1, 1) := by decide +kernel
theorem d_Mo_compile_93 : decode b_Mo_compile 93 = .ok (.l2i, 1) := by decide +kernel
theorem d_Mo_compile_94 : decode b_Mo_compile 94 = .ok (.ireturn, 1) := by decide +kernel
theorem d_Mo_run_0 : decode b_Mo_run 0 = .ok (.aload_n 0, 1) := by decide +kernel
theorem d_Mo_run_1 : decode b_Mo_run 1 = .ok (.getfield 67, 3) := by decide +kernel
theorem d_Mo_run_4 : decode b_Mo_run 4 = .ok (.ifCond .ne 6, 3) := by decide +kernel
theorem d_Mo_run_7 : decode b_Mo_run 7 = .ok (.bipush (-3), 2) := by decide +kernel
theorem d_Mo_run_9 : decode b_Mo_run 9 = .ok (.ireturn, 1) := by decide +kernel
theorem d_Mo_run_10 : decode b_Mo_run 10 = .ok (.iconst 0, 1) := by decide +kernel
theorem d_Mo_run_11 : decode b_Mo_run 11 = .ok (.istore_n 1, 1) := by decide +kernel
theorem d_Mo_run_12 : decode b_Mo_run 12 = .ok (.iload_n 1, 1) := by decide +kernel
theorem d_Mo_run_13 : decode b_Mo_run 13 = .ok (.aload_n 0, 1) := by decide +kernel
theorem d_Mo_run_14 : decode b_Mo_run 14 = .ok (.getfield 82, 3) := by decide +kernel
theorem d_Mo_run_17 : decode b_Mo_run 17 = .ok (.if_icmp .ge 24, 3) := by decide +kernel
theorem d_Mo_run_20 : decode b_Mo_run 20 = .ok (.aload_n 0, 1) := by decide +kernel
theorem d_Mo_run_21 : decode b_Mo_run 21 = .ok (.getfield 41, 3) := by decide +kernel
theorem d_Mo_run_24 : decode b_Mo_run 24 = .ok (.iload_n 1, 1) := by decide +kernel
theorem d_Mo_run_25 : decode b_Mo_run 25 = .ok (.aload_n 0, 1) := by decide +kernel
theorem d_Mo_run_26 : decode b_Mo_run 26 = .ok (.aload_n 0, 1) := by decide +kernel
theorem d_Mo_run_27 : decode b_Mo_run 27 = .ok (.getfield 38, 3) := by decide +kernel
theorem d_Mo_run_30 : decode b_Mo_run 30 = .ok (.iload_n 1, 1) := by decide +kernel
theorem d_Mo_run_31 : decode b_Mo_run 31 = .ok (.invokevirtual 96, 3) := by decide +kernel
theorem d_Mo_run_34 : decode b_Mo_run 34 = .ok (.iastore, 1) := by decide +kernel
theorem d_Mo_run_35 : decode b_Mo_run 35 = .ok (.iinc 1 1, 3) := by decide +kernel
theorem d_Mo_run_38 : decode b_Mo_run 38 = .ok (.goto (-26), 3) := by decide +kernel
theorem d_Mo_run_41 : decode b_Mo_run 41 = .ok (.aload_n 0, 1) := by decide +kernel
theorem d_Mo_run_42 : decode b_Mo_run 42 = .ok (.iconst 1, 1) := by decide +kernel
theorem d_Mo_run_43 : decode b_Mo_run 43 = .ok (.putfield 71, 3) := by decide +kernel
theorem d_Mo_run_46 : decode b_Mo_run 46 = .ok (.aload_n 0, 1) := by decide +kernel
theorem d_Mo_run_47 : decode b_Mo_run 47 = .ok (.invokevirtual 110, 3) := by decide +kernel
theorem d_Mo_run_50 : decode b_Mo_run 50 = .ok (.ireturn, 1) := by decide +kernel
theorem d_Mo_cell_0 : decode b_Mo_cell 0 = .ok (.aload_n 0, 1) := by decide +kernel
theorem d_Mo_cell_1 : decode b_Mo_cell 1 = .ok (.getfield 71, 3) := by decide +kernel
theorem d_Mo_cell_4 : decode b_Mo_cell 4 = .ok (.ifCond .eq 15, 3) := by decide +kernel
theorem d_Mo_cell_7 : decode b_Mo_cell 7 = .ok (.iload_n 1, 1) := by decide +kernel
theorem d_Mo_cell_8 : decode b_Mo_cell 8 = .ok (.ifCond .lt 11, 3) := by decide +kernel
theorem d_Mo_cell_11 : decode b_Mo_cell 11 = .ok (.iload_n 1, 1) := by decide +kernel
theorem d_Mo_cell_12 : decode b_Mo_cell 12 = .ok (.aload_n 0, 1) := by decide +kernel
theorem d_Mo_cell_13 : decode b_Mo_cell 13 = .ok (.getfield 82, 3) := by decide +kernel
theorem d_Mo_cell_16 : decode b_Mo_cell 16 = .ok (.if_icmp .lt 9, 3) := by decide +kernel
theorem d_Mo_cell_19 : decode b_Mo_cell 19 = .ok (.ldc2_w 92, 3) := by decide +kernel
theorem d_Mo_cell_22 : decode b_Mo_cell 22 = .ok (.goto 10, 3) := by decide +kernel
theorem d_Mo_cell_25 : decode b_Mo_cell 25 = .ok (.aload_n 0, 1) := by decide +kernel
theorem d_Mo_cell_26 : decode b_Mo_cell 26 = .ok (.getfield 41, 3) := by decide +kernel
theorem d_Mo_cell_29 : decode b_Mo_cell 29 = .ok (.iload_n 1, 1) := by decide +kernel
theorem d_Mo_cell_30 : decode b_Mo_cell 30 = .ok (.iaload, 1) := by decide +kernel
theorem d_Mo_cell_31 : decode b_Mo_cell 31 = .ok (.i2l, 1) := by decide +kernel
theorem d_Mo_cell_32 : decode b_Mo_cell 32 = .ok (.lreturn, 1) := by decide +kernel
theorem d_Mo_region_0 : decode b_Mo_region 0 = .ok (.aload_n 0, 1) := by decide +kernel
theorem d_Mo_region_1 : decode b_Mo_region 1 = .ok (.getfield 67, 3) := by decide +kernel
theorem d_Mo_region_4 : decode b_Mo_region 4 = .ok (.ifCond .ne 7, 3) := by decide +kernel
theorem d_Mo_region_7 : decode b_Mo_region 7 = .ok (.sipush (-1000), 3) := by decide +kernel
theorem d_Mo_region_10 : decode b_Mo_region 10 = .ok (.ireturn, 1) := by decide +kernel
theorem d_Mo_region_11 : decode b_Mo_region 11 = .ok (.aload_n 0, 1) := by decide +kernel
theorem d_Mo_region_12 : decode b_Mo_region 12 = .ok (.iload_n 1, 1) := by decide +kernel
theorem d_Mo_region_13 : decode b_Mo_region 13 = .ok (.invokevirtual 78, 3) := by decide +kernel
theorem d_Mo_region_16 : decode b_Mo_region 16 = .ok (.ifCond .eq 7, 3) := by decide +kernel
theorem d_Mo_region_19 : decode b_Mo_region 19 = .ok (.sipush (-2000), 3) := by decide +kernel
theorem d_Mo_region_22 : decode b_Mo_region 22 = .ok (.ireturn, 1) := by decide +kernel
theorem d_Mo_region_23 : decode b_Mo_region 23 = .ok (.aload_n 0, 1) := by decide +kernel
theorem d_Mo_region_24 : decode b_Mo_region 24 = .ok (.iconst 0, 1) := by decide +kernel
theorem d_Mo_region_25 : decode b_Mo_region 25 = .ok (.aload_n 0, 1) := by decide +kernel
theorem d_Mo_region_26 : decode b_Mo_region 26 = .ok (.getfield 82, 3) := by decide +kernel
theorem d_Mo_region_29 : decode b_Mo_region 29 = .ok (.iconst 1, 1) := by decide +kernel
theorem d_Mo_region_30 : decode b_Mo_region 30 = .ok (.isub, 1) := by decide +kernel
theorem d_Mo_region_31 : decode b_Mo_region 31 = .ok (.invokevirtual 103, 3) := by decide +kernel
theorem d_Mo_region_34 : decode b_Mo_region 34 = .ok (.aload_n 0, 1) := by decide +kernel
theorem d_Mo_region_35 : decode b_Mo_region 35 = .ok (.getfield 47, 3) := by decide +kernel
theorem d_Mo_region_38 : decode b_Mo_region 38 = .ok (.iload_n 1, 1) := by decide +kernel
theorem d_Mo_region_39 : decode b_Mo_region 39 = .ok (.baload, 1) := by decide +kernel
theorem d_Mo_region_40 : decode b_Mo_region 40 = .ok (.ifCond .ne 7, 3) := by decide +kernel
theorem d_Mo_region_43 : decode b_Mo_region 43 = .ok (.sipush (-2000), 3) := by decide +kernel
theorem d_Mo_region_46 : decode b_Mo_region 46 = .ok (.ireturn, 1) := by decide +kernel
theorem d_Mo_region_47 : decode b_Mo_region 47 = .ok (.iload_n 2, 1) := by decide +kernel
theorem d_Mo_region_48 : decode b_Mo_region 48 = .ok (.ifCond .eq 12, 3) := by decide +kernel
theorem d_Mo_region_51 : decode b_Mo_region 51 = .ok (.aload_n 0, 1) := by decide +kernel
theorem d_Mo_region_52 : decode b_Mo_region 52 = .ok (.getfield 54, 3) := by decide +kernel
theorem d_Mo_region_55 : decode b_Mo_region 55 = .ok (.iload_n 1, 1) := by decide +kernel
theorem d_Mo_region_56 : decode b_Mo_region 56 = .ok (.iaload, 1) := by decide +kernel
theorem d_Mo_region_57 : decode b_Mo_region 57 = .ok (.goto 9, 3) := by decide +kernel
theorem d_Mo_region_60 : decode b_Mo_region 60 = .ok (.aload_n 0, 1) := by decide +kernel
theorem d_Mo_region_61 : decode b_Mo_region 61 = .ok (.getfield 51, 3) := by decide +kernel
theorem d_Mo_region_64 : decode b_Mo_region 64 = .ok (.iload_n 1, 1) := by decide +kernel
theorem d_Mo_region_65 : decode b_Mo_region 65 = .ok (.iaload, 1) := by decide +kernel
theorem d_Mo_region_66 : decode b_Mo_region 66 = .ok (.ireturn, 1) := by decide +kernel
theorem d_Mo_work_0 : decode b_Mo_work 0 = .ok (.aload_n 0, 1) := by decide +kernel
theorem d_Mo_work_1 : decode b_Mo_work 1 = .ok (.iload_n 1, 1) := by decide +kernel
theorem d_Mo_work_2 : decode b_Mo_work 2 = .ok (.invokevirtual 78, 3) := by decide +kernel
theorem d_Mo_work_5 : decode b_Mo_work 5 = .ok (.ifCond .eq 5, 3) := by decide +kernel
theorem d_Mo_work_8 : decode b_Mo_work 8 = .ok (.iconst (-1), 1) := by decide +kernel
theorem d_Mo_work_9 : decode b_Mo_work 9 = .ok (.ireturn, 1) := by decide +kernel
theorem d_Mo_work_10 : decode b_Mo_work 10 = .ok (.aload_n 0, 1) := by decide +kernel
theorem d_Mo_work_11 : decode b_Mo_work 11 = .ok (.getfield 67, 3) := by decide +kernel
theorem d_Mo_work_14 : decode b_Mo_work 14 = .ok (.ifCond .ne 6, 3) := by decide +kernel
theorem d_Mo_work_17 : decode b_Mo_work 17 = .ok (.bipush (-3), 2) := by decide +kernel
theorem d_Mo_work_19 : decode b_Mo_work 19 = .ok (.ireturn, 1) := by decide +kernel
theorem d_Mo_work_20 : decode b_Mo_work 20 = .ok (.aload_n 0, 1) := by decide +kernel
theorem d_Mo_work_21 : decode b_Mo_work 21 = .ok (.invokevirtual 121, 3) := by decide +kernel
theorem d_Mo_work_24 : decode b_Mo_work 24 = .ok (.lstore_n 2, 1) := by decide +kernel
theorem d_Mo_work_25 : decode b_Mo_work 25 = .ok (.aload_n 0, 1) := by decide +kernel
theorem d_Mo_work_26 : decode b_Mo_work 26 = .ok (.getfield 57, 3) := by decide +kernel
theorem d_Mo_work_29 : decode b_Mo_work 29 = .ok (.iload_n 1, 1) := by decide +kernel
theorem d_Mo_work_30 : decode b_Mo_work 30 = .ok (.laload, 1) := by decide +kernel
theorem d_Mo_work_31 : decode b_Mo_work 31 = .ok (.l2i, 1) := by decide +kernel
theorem d_Mo_work_32 : decode b_Mo_work 32 = .ok (.ireturn, 1) := by decide +kernel
theorem d_Mo_greatest_0 : decode b_Mo_greatest 0 = .ok (.iconst 0, 1) := by decide +kernel
theorem d_Mo_greatest_1 : decode b_Mo_greatest 1 = .ok (.istore_n 2, 1) := by decide +kernel
theorem d_Mo_greatest_2 : decode b_Mo_greatest 2 = .ok (.iconst 0, 1) := by decide +kernel
theorem d_Mo_greatest_3 : decode b_Mo_greatest 3 = .ok (.istore_n 3, 1) := by decide +kernel
theorem d_Mo_greatest_4 : decode b_Mo_greatest 4 = .ok (.iload_n 3, 1) := by decide +kernel
theorem d_Mo_greatest_5 : decode b_Mo_greatest 5 = .ok (.aload_n 0, 1) := by decide +kernel
theorem d_Mo_greatest_6 : decode b_Mo_greatest 6 = .ok (.invokevirtual 110, 3) := by decide +kernel
theorem d_Mo_greatest_9 : decode b_Mo_greatest 9 = .ok (.if_icmp .ge 105, 3) := by decide +kernel
theorem d_Mo_greatest_12 : decode b_Mo_greatest 12 = .ok (.iconst 0, 1) := by decide +kernel
theorem d_Mo_greatest_13 : decode b_Mo_greatest 13 = .ok (.istore 4, 2) := by decide +kernel
theorem d_Mo_greatest_15 : decode b_Mo_greatest 15 = .ok (.aload_n 0, 1) := by decide +kernel
theorem d_Mo_greatest_16 : decode b_Mo_greatest 16 = .ok (.iload_n 3, 1) := by decide +kernel
theorem d_Mo_greatest_17 : decode b_Mo_greatest 17 = .ok (.invokevirtual 114, 3) := by decide +kernel
theorem d_Mo_greatest_20 : decode b_Mo_greatest 20 = .ok (.iconst 0, 1) := by decide +kernel
theorem d_Mo_greatest_21 : decode b_Mo_greatest 21 = .ok (.istore 5, 2) := by decide +kernel
theorem d_Mo_greatest_23 : decode b_Mo_greatest 23 = .ok (.iload 5, 2) := by decide +kernel
theorem d_Mo_greatest_25 : decode b_Mo_greatest 25 = .ok (.aload_n 0, 1) := by decide +kernel
theorem d_Mo_greatest_26 : decode b_Mo_greatest 26 = .ok (.getfield 38, 3) := by decide +kernel
theorem d_Mo_greatest_29 : decode b_Mo_greatest 29 = .ok (.if_icmp .ge 70, 3) := by decide +kernel
theorem d_Mo_greatest_32 : decode b_Mo_greatest 32 = .ok (.aload_n 0, 1) := by decide +kernel
theorem d_Mo_greatest_33 : decode b_Mo_greatest 33 = .ok (.iload 5, 2) := by decide +kernel
theorem d_Mo_greatest_35 : decode b_Mo_greatest 35 = .ok (.iconst 2, 1) := by decide +kernel
theorem d_Mo_greatest_36 : decode b_Mo_greatest 36 = .ok (.invokevirtual 106, 3) := by decide +kernel
theorem d_Mo_greatest_39 : decode b_Mo_greatest 39 = .ok (.ifCond .eq 23, 3) := by decide +kernel
theorem d_Mo_greatest_42 : decode b_Mo_greatest 42 = .ok (.aload_n 0, 1) := by decide +kernel
theorem d_Mo_greatest_43 : decode b_Mo_greatest 43 = .ok (.getfield 54, 3) := by decide +kernel
theorem d_Mo_greatest_46 : decode b_Mo_greatest 46 = .ok (.iload 5, 2) := by decide +kernel
theorem d_Mo_greatest_48 : decode b_Mo_greatest 48 = .ok (.iaload, 1) := by decide +kernel
theorem d_Mo_greatest_49 : decode b_Mo_greatest 49 = .ok (.aload_n 0, 1) := by decide +kernel
theorem d_Mo_greatest_50 : decode b_Mo_greatest 50 = .ok (.getfield 51, 3) := by decide +kernel
theorem d_Mo_greatest_53 : decode b_Mo_greatest 53 = .ok (.iload 5, 2) := by decide +kernel
theorem d_Mo_greatest_55 : decode b_Mo_greatest 55 = .ok (.iaload, 1) := by decide +kernel
theorem d_Mo_greatest_56 : decode b_Mo_greatest 56 = .ok (.isub, 1) := by decide +kernel
theorem d_Mo_greatest_57 : decode b_Mo_greatest 57 = .ok (.iconst 1, 1) := by decide +kernel
theorem d_Mo_greatest_58 : decode b_Mo_greatest 58 = .ok (.iadd, 1) := by decide +kernel
theorem d_Mo_greatest_59 : decode b_Mo_greatest 59 = .ok (.goto 4, 3) := by decide +kernel
theorem d_Mo_greatest_62 : decode b_Mo_greatest 62 = .ok (.iconst 0, 1) := by decide +kernel
theorem d_Mo_greatest_63 : decode b_Mo_greatest 63 = .ok (.istore 6, 2) := by decide +kernel
theorem d_Mo_greatest_65 : decode b_Mo_greatest 65 = .ok (.iload_n 1, 1) := by decide +kernel
theorem d_Mo_greatest_66 : decode b_Mo_greatest 66 = .ok (.ifCond .eq 11, 3) := by decide +kernel
theorem d_Mo_greatest_69 : decode b_Mo_greatest 69 = .ok (.iload 4, 2) := by decide +kernel
theorem d_Mo_greatest_71 : decode b_Mo_greatest 71 = .ok (.iload 6, 2) := by decide +kernel
theorem d_Mo_greatest_73 : decode b_Mo_greatest 73 = .ok (.iadd, 1) := by decide +kernel
theorem d_Mo_greatest_74 : decode b_Mo_greatest 74 = .ok (.goto 17, 3) := by decide +kernel
theorem d_Mo_greatest_77 : decode b_Mo_greatest 77 = .ok (.iload 6, 2) := by decide +kernel
theorem d_Mo_greatest_79 : decode b_Mo_greatest 79 = .ok (.iload 4, 2) := by decide +kernel
theorem d_Mo_greatest_81 : decode b_Mo_greatest 81 = .ok (.if_icmp .le 8, 3) := by decide +kernel
theorem d_Mo_greatest_84 : decode b_Mo_greatest 84 = .ok (.iload 6, 2) := by decide +kernel
theorem d_Mo_greatest_86 : decode b_Mo_greatest 86 = .ok (.goto 5, 3) := by decide +kernel
theorem d_Mo_greatest_89 : decode b_Mo_greatest 89 = .ok (.iload 4, 2) := by decide +kernel
theorem d_Mo_greatest_91 : decode b_Mo_greatest 91 = .ok (.istore 4, 2) := by decide +kernel
theorem d_Mo_greatest_93 : decode b_Mo_greatest 93 = .ok (.iinc 5 1, 3) := by decide +kernel
theorem d_Mo_greatest_96 : decode b_Mo_greatest 96 = .ok (.goto (-73), 3) := by decide +kernel
theorem d_Mo_greatest_99 : decode b_Mo_greatest 99 = .ok (.iload 4, 2) := by decide +kernel
theorem d_Mo_greatest_101 : decode b_Mo_greatest 101 = .ok (.iload_n 2, 1) := by decide +kernel
theorem d_Mo_greatest_102 : decode b_Mo_greatest 102 = .ok (.if_icmp .le 6, 3) := by decide +kernel
theorem d_Mo_greatest_105 : decode b_Mo_greatest 105 = .ok (.iload 4, 2) := by decide +kernel
theorem d_Mo_greatest_107 : decode b_Mo_greatest 107 = .ok (.istore_n 2, 1) := by decide +kernel
theorem d_Mo_greatest_108 : decode b_Mo_greatest 108 = .ok (.iinc 3 1, 3) := by decide +kernel
theorem d_Mo_greatest_111 : decode b_Mo_greatest 111 = .ok (.goto (-107), 3) := by decide +kernel
theorem d_Mo_greatest_114 : decode b_Mo_greatest 114 = .ok (.iload_n 2, 1) := by decide +kernel
theorem d_Mo_greatest_115 : decode b_Mo_greatest 115 = .ok (.ireturn, 1) := by decide +kernel
theorem d_Mo_count_0 : decode b_Mo_count 0 = .ok (.iload_n 1, 1) := by decide +kernel
theorem d_Mo_count_1 : decode b_Mo_count 1 = .ok (.ifCond .ne 8, 3) := by decide +kernel
theorem d_Mo_count_4 : decode b_Mo_count 4 = .ok (.aload_n 0, 1) := by decide +kernel
theorem d_Mo_count_5 : decode b_Mo_count 5 = .ok (.getfield 64, 3) := by decide +kernel
theorem d_Mo_count_8 : decode b_Mo_count 8 = .ok (.ireturn, 1) := by decide +kernel
theorem d_Mo_count_9 : decode b_Mo_count 9 = .ok (.iload_n 1, 1) := by decide +kernel
theorem d_Mo_count_10 : decode b_Mo_count 10 = .ok (.iconst 1, 1) := by decide +kernel
theorem d_Mo_count_11 : decode b_Mo_count 11 = .ok (.if_icmp .lt 9, 3) := by decide +kernel
theorem d_Mo_count_14 : decode b_Mo_count 14 = .ok (.iload_n 1, 1) := by decide +kernel
theorem d_Mo_count_15 : decode b_Mo_count 15 = .ok (.bipush 6, 2) := by decide +kernel
theorem d_Mo_count_17 : decode b_Mo_count 17 = .ok (.if_icmp .le 5, 3) := by decide +kernel
theorem d_Mo_count_20 : decode b_Mo_count 20 = .ok (.iconst (-1), 1) := by decide +kernel
theorem d_Mo_count_21 : decode b_Mo_count 21 = .ok (.ireturn, 1) := by decide +kernel
theorem d_Mo_count_22 : decode b_Mo_count 22 = .ok (.iload_n 1, 1) := by decide +kernel
theorem d_Mo_count_23 : decode b_Mo_count 23 = .ok (.iconst 1, 1) := by decide +kernel
theorem d_Mo_count_24 : decode b_Mo_count 24 = .ok (.if_icmp .ne 16, 3) := by decide +kernel
theorem d_Mo_count_27 : decode b_Mo_count 27 = .ok (.aload_n 0, 1) := by decide +kernel
theorem d_Mo_count_28 : decode b_Mo_count 28 = .ok (.getfield 67, 3) := by decide +kernel
theorem d_Mo_count_31 : decode b_Mo_count 31 = .ok (.ifCond .eq 7, 3) := by decide +kernel
theorem d_Mo_count_34 : decode b_Mo_count 34 = .ok (.iconst 1, 1) := by decide +kernel
theorem d_Mo_count_35 : decode b_Mo_count 35 = .ok (.goto 4, 3) := by decide +kernel
theorem d_Mo_count_38 : decode b_Mo_count 38 = .ok (.iconst 0, 1) := by decide +kernel
theorem d_Mo_count_39 : decode b_Mo_count 39 = .ok (.ireturn, 1) := by decide +kernel
theorem d_Mo_count_40 : decode b_Mo_count 40 = .ok (.aload_n 0, 1) := by decide +kernel
theorem d_Mo_count_41 : decode b_Mo_count 41 = .ok (.getfield 67, 3) := by decide +kernel
theorem d_Mo_count_44 : decode b_Mo_count 44 = .ok (.ifCond .ne 5, 3) := by decide +kernel
theorem d_Mo_count_47 : decode b_Mo_count 47 = .ok (.iconst 0, 1) := by decide +kernel
theorem d_Mo_count_48 : decode b_Mo_count 48 = .ok (.ireturn, 1) := by decide +kernel
theorem d_Mo_count_49 : decode b_Mo_count 49 = .ok (.iload_n 1, 1) := by decide +kernel
theorem d_Mo_count_50 : decode b_Mo_count 50 = .ok (.iconst 4, 1) := by decide +kernel
theorem d_Mo_count_51 : decode b_Mo_count 51 = .ok (.if_icmp .ne 8, 3) := by decide +kernel
theorem d_Mo_count_54 : decode b_Mo_count 54 = .ok (.aload_n 0, 1) := by decide +kernel
theorem d_Mo_count_55 : decode b_Mo_count 55 = .ok (.invokevirtual 110, 3) := by decide +kernel
theorem d_Mo_count_58 : decode b_Mo_count 58 = .ok (.ireturn, 1) := by decide +kernel
theorem d_Mo_count_59 : decode b_Mo_count 59 = .ok (.iload_n 1, 1) := by decide +kernel
theorem d_Mo_count_60 : decode b_Mo_count 60 = .ok (.iconst 5, 1) := by decide +kernel
theorem d_Mo_count_61 : decode b_Mo_count 61 = .ok (.if_icmp .ne 9, 3) := by decide +kernel
theorem d_Mo_count_64 : decode b_Mo_count 64 = .ok (.aload_n 0, 1) := by decide +kernel
theorem d_Mo_count_65 : decode b_Mo_count 65 = .ok (.iconst 0, 1) := by decide +kernel
theorem d_Mo_count_66 : decode b_Mo_count 66 = .ok (.invokevirtual 127, 3) := by decide +kernel
theorem d_Mo_count_69 : decode b_Mo_count 69 = .ok (.ireturn, 1) := by decide +kernel
theorem d_Mo_count_70 : decode b_Mo_count 70 = .ok (.iload_n 1, 1) := by decide +kernel
theorem d_Mo_count_71 : decode b_Mo_count 71 = .ok (.bipush 6, 2) := by decide +kernel

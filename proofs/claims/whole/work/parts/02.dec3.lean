theorem dX7_across_78 : decode cX7_across 78 = .ok (.iaload, 1) := by decide +kernel
theorem dX7_across_79 : decode cX7_across 79 = .ok (.bipush 8, 2) := by decide +kernel
theorem dX7_across_81 : decode cX7_across 81 = .ok (.invokevirtual 157, 3) := by decide +kernel
theorem dX7_across_84 : decode cX7_across 84 = .ok (.invokestatic 167, 3) := by decide +kernel
theorem dX7_across_87 : decode cX7_across 87 = .ok (.goto 4, 3) := by decide +kernel
theorem dX7_across_90 : decode cX7_across 90 = .ok (.iload_n 3, 1) := by decide +kernel
theorem dX7_across_91 : decode cX7_across 91 = .ok (.istore_n 3, 1) := by decide +kernel
theorem dX7_across_92 : decode cX7_across 92 = .ok (.iload 4, 2) := by decide +kernel
theorem dX7_across_94 : decode cX7_across 94 = .ok (.aload_n 0, 1) := by decide +kernel
theorem dX7_across_95 : decode cX7_across 95 = .ok (.aload_n 0, 1) := by decide +kernel
theorem dX7_across_96 : decode cX7_across 96 = .ok (.getfield 22, 3) := by decide +kernel
theorem dX7_across_99 : decode cX7_across 99 = .ok (.iload 5, 2) := by decide +kernel
theorem dX7_across_101 : decode cX7_across 101 = .ok (.iaload, 1) := by decide +kernel
theorem dX7_across_102 : decode cX7_across 102 = .ok (.bipush 7, 2) := by decide +kernel
theorem dX7_across_104 : decode cX7_across 104 = .ok (.invokevirtual 157, 3) := by decide +kernel
theorem dX7_across_107 : decode cX7_across 107 = .ok (.invokestatic 167, 3) := by decide +kernel
theorem dX7_across_110 : decode cX7_across 110 = .ok (.istore 4, 2) := by decide +kernel
theorem dX7_across_112 : decode cX7_across 112 = .ok (.iinc 5 1, 3) := by decide +kernel
theorem dX7_across_115 : decode cX7_across 115 = .ok (.goto (-98), 3) := by decide +kernel
theorem dX7_across_118 : decode cX7_across 118 = .ok (.iload_n 2, 1) := by decide +kernel
theorem dX7_across_119 : decode cX7_across 119 = .ok (.sipush (-1001), 3) := by decide +kernel
theorem dX7_across_122 : decode cX7_across 122 = .ok (.if_icmp .ne 8, 3) := by decide +kernel
theorem dX7_across_125 : decode cX7_across 125 = .ok (.iload 4, 2) := by decide +kernel
theorem dX7_across_127 : decode cX7_across 127 = .ok (.goto 11, 3) := by decide +kernel
theorem dX7_across_130 : decode cX7_across 130 = .ok (.iload 4, 2) := by decide +kernel
theorem dX7_across_132 : decode cX7_across 132 = .ok (.iload_n 2, 1) := by decide +kernel
theorem dX7_across_133 : decode cX7_across 133 = .ok (.iload_n 3, 1) := by decide +kernel
theorem dX7_across_134 : decode cX7_across 134 = .ok (.iadd, 1) := by decide +kernel
theorem dX7_across_135 : decode cX7_across 135 = .ok (.invokestatic 167, 3) := by decide +kernel
theorem dX7_across_138 : decode cX7_across 138 = .ok (.istore 4, 2) := by decide +kernel
theorem dX7_across_140 : decode cX7_across 140 = .ok (.aload_n 0, 1) := by decide +kernel
theorem dX7_across_141 : decode cX7_across 141 = .ok (.getfield 65, 3) := by decide +kernel
theorem dX7_across_144 : decode cX7_across 144 = .ok (.iload_n 1, 1) := by decide +kernel
theorem dX7_across_145 : decode cX7_across 145 = .ok (.iload_n 1, 1) := by decide +kernel
theorem dX7_across_146 : decode cX7_across 146 = .ok (.ifCond .ne 7, 3) := by decide +kernel
theorem dX7_across_149 : decode cX7_across 149 = .ok (.iconst 0, 1) := by decide +kernel
theorem dX7_across_150 : decode cX7_across 150 = .ok (.goto 29, 3) := by decide +kernel
theorem dX7_across_153 : decode cX7_across 153 = .ok (.aload_n 0, 1) := by decide +kernel
theorem dX7_across_154 : decode cX7_across 154 = .ok (.getfield 65, 3) := by decide +kernel
theorem dX7_across_157 : decode cX7_across 157 = .ok (.iload_n 1, 1) := by decide +kernel
theorem dX7_across_158 : decode cX7_across 158 = .ok (.iconst 1, 1) := by decide +kernel
theorem dX7_across_159 : decode cX7_across 159 = .ok (.isub, 1) := by decide +kernel
theorem dX7_across_160 : decode cX7_across 160 = .ok (.iaload, 1) := by decide +kernel
theorem dX7_across_161 : decode cX7_across 161 = .ok (.aload_n 0, 1) := by decide +kernel
theorem dX7_across_162 : decode cX7_across 162 = .ok (.getfield 68, 3) := by decide +kernel
theorem dX7_across_165 : decode cX7_across 165 = .ok (.iload_n 1, 1) := by decide +kernel
theorem dX7_across_166 : decode cX7_across 166 = .ok (.iconst 1, 1) := by decide +kernel
theorem dX7_across_167 : decode cX7_across 167 = .ok (.isub, 1) := by decide +kernel
theorem dX7_across_168 : decode cX7_across 168 = .ok (.iaload, 1) := by decide +kernel
theorem dX7_across_169 : decode cX7_across 169 = .ok (.iadd, 1) := by decide +kernel
theorem dX7_across_170 : decode cX7_across 170 = .ok (.aload_n 0, 1) := by decide +kernel
theorem dX7_across_171 : decode cX7_across 171 = .ok (.getfield 7, 3) := by decide +kernel
theorem dX7_across_174 : decode cX7_across 174 = .ok (.sipush 179, 3) := by decide +kernel
theorem dX7_across_177 : decode cX7_across 177 = .ok (.iaload, 1) := by decide +kernel
theorem dX7_across_178 : decode cX7_across 178 = .ok (.iadd, 1) := by decide +kernel
theorem dX7_across_179 : decode cX7_across 179 = .ok (.iastore, 1) := by decide +kernel
theorem dX7_across_180 : decode cX7_across 180 = .ok (.aload_n 0, 1) := by decide +kernel
theorem dX7_across_181 : decode cX7_across 181 = .ok (.getfield 68, 3) := by decide +kernel
theorem dX7_across_184 : decode cX7_across 184 = .ok (.iload_n 1, 1) := by decide +kernel
theorem dX7_across_185 : decode cX7_across 185 = .ok (.iload 4, 2) := by decide +kernel
theorem dX7_across_187 : decode cX7_across 187 = .ok (.iastore, 1) := by decide +kernel
theorem dX7_across_188 : decode cX7_across 188 = .ok (.aload_n 0, 1) := by decide +kernel
theorem dX7_across_189 : decode cX7_across 189 = .ok (.getfield 28, 3) := by decide +kernel
theorem dX7_across_192 : decode cX7_across 192 = .ok (.iload_n 1, 1) := by decide +kernel
theorem dX7_across_193 : decode cX7_across 193 = .ok (.iaload, 1) := by decide +kernel
theorem dX7_across_194 : decode cX7_across 194 = .ok (.istore 5, 2) := by decide +kernel
theorem dX7_across_196 : decode cX7_across 196 = .ok (.iload 5, 2) := by decide +kernel
theorem dX7_across_198 : decode cX7_across 198 = .ok (.aload_n 0, 1) := by decide +kernel
theorem dX7_across_199 : decode cX7_across 199 = .ok (.getfield 31, 3) := by decide +kernel
theorem dX7_across_202 : decode cX7_across 202 = .ok (.iload_n 1, 1) := by decide +kernel
theorem dX7_across_203 : decode cX7_across 203 = .ok (.iaload, 1) := by decide +kernel
theorem dX7_across_204 : decode cX7_across 204 = .ok (.if_icmp .ge 90, 3) := by decide +kernel
theorem dX7_across_207 : decode cX7_across 207 = .ok (.iload 4, 2) := by decide +kernel
theorem dX7_across_209 : decode cX7_across 209 = .ok (.aload_n 0, 1) := by decide +kernel
theorem dX7_across_210 : decode cX7_across 210 = .ok (.aload_n 0, 1) := by decide +kernel
theorem dX7_across_211 : decode cX7_across 211 = .ok (.getfield 22, 3) := by decide +kernel
theorem dX7_across_214 : decode cX7_across 214 = .ok (.iload 5, 2) := by decide +kernel
theorem dX7_across_216 : decode cX7_across 216 = .ok (.iaload, 1) := by decide +kernel
theorem dX7_across_217 : decode cX7_across 217 = .ok (.bipush 7, 2) := by decide +kernel
theorem dX7_across_219 : decode cX7_across 219 = .ok (.invokevirtual 157, 3) := by decide +kernel
theorem dX7_across_222 : decode cX7_across 222 = .ok (.isub, 1) := by decide +kernel
theorem dX7_across_223 : decode cX7_across 223 = .ok (.istore 6, 2) := by decide +kernel
theorem dX7_across_225 : decode cX7_across 225 = .ok (.aload_n 0, 1) := by decide +kernel
theorem dX7_across_226 : decode cX7_across 226 = .ok (.iload 5, 2) := by decide +kernel
theorem dX7_across_228 : decode cX7_across 228 = .ok (.invokevirtual 207, 3) := by decide +kernel
theorem dX7_across_231 : decode cX7_across 231 = .ok (.istore 7, 2) := by decide +kernel
theorem dX7_across_233 : decode cX7_across 233 = .ok (.aload_n 0, 1) := by decide +kernel
theorem dX7_across_234 : decode cX7_across 234 = .ok (.getfield 62, 3) := by decide +kernel
theorem dX7_across_237 : decode cX7_across 237 = .ok (.iload 5, 2) := by decide +kernel
theorem dX7_across_239 : decode cX7_across 239 = .ok (.aload_n 0, 1) := by decide +kernel
theorem dX7_across_240 : decode cX7_across 240 = .ok (.getfield 65, 3) := by decide +kernel
theorem dX7_across_243 : decode cX7_across 243 = .ok (.iload_n 1, 1) := by decide +kernel
theorem dX7_across_244 : decode cX7_across 244 = .ok (.iaload, 1) := by decide +kernel
theorem dX7_across_245 : decode cX7_across 245 = .ok (.iload 7, 2) := by decide +kernel
theorem dX7_across_247 : decode cX7_across 247 = .ok (.ifCond .ne 7, 3) := by decide +kernel
theorem dX7_across_250 : decode cX7_across 250 = .ok (.iconst 0, 1) := by decide +kernel
theorem dX7_across_251 : decode cX7_across 251 = .ok (.goto 35, 3) := by decide +kernel
theorem dX7_across_254 : decode cX7_across 254 = .ok (.iload 7, 2) := by decide +kernel
theorem dX7_across_256 : decode cX7_across 256 = .ok (.iconst 1, 1) := by decide +kernel
theorem dX7_across_257 : decode cX7_across 257 = .ok (.if_icmp .ne 8, 3) := by decide +kernel
theorem dX7_across_260 : decode cX7_across 260 = .ok (.iload 6, 2) := by decide +kernel
theorem dX7_across_262 : decode cX7_across 262 = .ok (.goto 24, 3) := by decide +kernel
theorem dX7_across_265 : decode cX7_across 265 = .ok (.iload 7, 2) := by decide +kernel
theorem dX7_across_267 : decode cX7_across 267 = .ok (.iconst 2, 1) := by decide +kernel
theorem dX7_across_268 : decode cX7_across 268 = .ok (.if_icmp .ne 10, 3) := by decide +kernel
theorem dX7_across_271 : decode cX7_across 271 = .ok (.iload 6, 2) := by decide +kernel
theorem dX7_across_273 : decode cX7_across 273 = .ok (.iconst 2, 1) := by decide +kernel
theorem dX7_across_274 : decode cX7_across 274 = .ok (.idiv, 1) := by decide +kernel
theorem dX7_across_275 : decode cX7_across 275 = .ok (.goto 11, 3) := by decide +kernel
theorem dX7_across_278 : decode cX7_across 278 = .ok (.iload_n 2, 1) := by decide +kernel
theorem dX7_across_279 : decode cX7_across 279 = .ok (.aload_n 0, 1) := by decide +kernel
theorem dX7_across_280 : decode cX7_across 280 = .ok (.iload 5, 2) := by decide +kernel
theorem dX7_across_282 : decode cX7_across 282 = .ok (.invokevirtual 210, 3) := by decide +kernel
theorem dX7_across_285 : decode cX7_across 285 = .ok (.isub, 1) := by decide +kernel
theorem dX7_across_286 : decode cX7_across 286 = .ok (.iadd, 1) := by decide +kernel
theorem dX7_across_287 : decode cX7_across 287 = .ok (.iastore, 1) := by decide +kernel
theorem dX7_across_288 : decode cX7_across 288 = .ok (.iinc 5 1, 3) := by decide +kernel
theorem dX7_across_291 : decode cX7_across 291 = .ok (.goto (-95), 3) := by decide +kernel
theorem dX7_across_294 : decode cX7_across 294 = .ok (.return_, 1) := by decide +kernel
theorem dX7_draws_0 : decode cX7_draws 0 = .ok (.aload_n 0, 1) := by decide +kernel
theorem dX7_draws_1 : decode cX7_draws 1 = .ok (.invokevirtual 213, 3) := by decide +kernel
theorem dX7_draws_4 : decode cX7_draws 4 = .ok (.aload_n 0, 1) := by decide +kernel
theorem dX7_draws_5 : decode cX7_draws 5 = .ok (.iload_n 1, 1) := by decide +kernel
theorem dX7_draws_6 : decode cX7_draws 6 = .ok (.invokevirtual 216, 3) := by decide +kernel
theorem dX7_draws_9 : decode cX7_draws 9 = .ok (.iconst 0, 1) := by decide +kernel
theorem dX7_draws_10 : decode cX7_draws 10 = .ok (.istore_n 2, 1) := by decide +kernel
theorem dX7_draws_11 : decode cX7_draws 11 = .ok (.iload_n 2, 1) := by decide +kernel
theorem dX7_draws_12 : decode cX7_draws 12 = .ok (.aload_n 0, 1) := by decide +kernel
theorem dX7_draws_13 : decode cX7_draws 13 = .ok (.getfield 182, 3) := by decide +kernel
theorem dX7_draws_16 : decode cX7_draws 16 = .ok (.if_icmp .ge 26, 3) := by decide +kernel
theorem dX7_draws_19 : decode cX7_draws 19 = .ok (.aload_n 0, 1) := by decide +kernel
theorem dX7_draws_20 : decode cX7_draws 20 = .ok (.iload_n 2, 1) := by decide +kernel
theorem dX7_draws_21 : decode cX7_draws 21 = .ok (.iload_n 1, 1) := by decide +kernel
theorem dX7_draws_22 : decode cX7_draws 22 = .ok (.invokevirtual 219, 3) := by decide +kernel
theorem dX7_draws_25 : decode cX7_draws 25 = .ok (.aload_n 0, 1) := by decide +kernel
theorem dX7_draws_26 : decode cX7_draws 26 = .ok (.iload_n 2, 1) := by decide +kernel
theorem dX7_draws_27 : decode cX7_draws 27 = .ok (.iload_n 1, 1) := by decide +kernel
theorem dX7_draws_28 : decode cX7_draws 28 = .ok (.invokevirtual 222, 3) := by decide +kernel
theorem dX7_draws_31 : decode cX7_draws 31 = .ok (.aload_n 0, 1) := by decide +kernel
theorem dX7_draws_32 : decode cX7_draws 32 = .ok (.iload_n 2, 1) := by decide +kernel
theorem dX7_draws_33 : decode cX7_draws 33 = .ok (.invokevirtual 225, 3) := by decide +kernel
theorem dX7_draws_36 : decode cX7_draws 36 = .ok (.iinc 2 1, 3) := by decide +kernel
theorem dX7_draws_39 : decode cX7_draws 39 = .ok (.goto (-28), 3) := by decide +kernel
theorem dX7_draws_42 : decode cX7_draws 42 = .ok (.return_, 1) := by decide +kernel
theorem dX7_item_0 : decode cX7_item 0 = .ok (.aload_n 0, 1) := by decide +kernel
theorem dX7_item_1 : decode cX7_item 1 = .ok (.iload_n 1, 1) := by decide +kernel
theorem dX7_item_2 : decode cX7_item 2 = .ok (.invokevirtual 153, 3) := by decide +kernel
theorem dX7_item_5 : decode cX7_item 5 = .ok (.ifCond .eq 13, 3) := by decide +kernel
theorem dX7_item_8 : decode cX7_item 8 = .ok (.iload_n 2, 1) := by decide +kernel
theorem dX7_item_9 : decode cX7_item 9 = .ok (.iconst 0, 1) := by decide +kernel
theorem dX7_item_10 : decode cX7_item 10 = .ok (.bipush 11, 2) := by decide +kernel
theorem dX7_item_12 : decode cX7_item 12 = .ok (.invokestatic 75, 3) := by decide +kernel
theorem dX7_item_15 : decode cX7_item 15 = .ok (.ifCond .ne 7, 3) := by decide +kernel
theorem dX7_item_18 : decode cX7_item 18 = .ok (.sipush (-1002), 3) := by decide +kernel
theorem dX7_item_21 : decode cX7_item 21 = .ok (.ireturn, 1) := by decide +kernel
theorem dX7_item_22 : decode cX7_item 22 = .ok (.iload_n 2, 1) := by decide +kernel
theorem dX7_item_23 : decode cX7_item 23 = .ok (.bipush 11, 2) := by decide +kernel
theorem dX7_item_25 : decode cX7_item 25 = .ok (.if_icmp .ne 11, 3) := by decide +kernel
theorem dX7_item_28 : decode cX7_item 28 = .ok (.aload_n 0, 1) := by decide +kernel
theorem dX7_item_29 : decode cX7_item 29 = .ok (.iload_n 1, 1) := by decide +kernel
theorem dX7_item_30 : decode cX7_item 30 = .ok (.invokevirtual 179, 3) := by decide +kernel
theorem dX7_item_33 : decode cX7_item 33 = .ok (.goto 9, 3) := by decide +kernel
theorem dX7_item_36 : decode cX7_item 36 = .ok (.aload_n 0, 1) := by decide +kernel
theorem dX7_item_37 : decode cX7_item 37 = .ok (.iload_n 1, 1) := by decide +kernel
theorem dX7_item_38 : decode cX7_item 38 = .ok (.iload_n 2, 1) := by decide +kernel
theorem dX7_item_39 : decode cX7_item 39 = .ok (.invokevirtual 157, 3) := by decide +kernel
theorem dX7_item_42 : decode cX7_item 42 = .ok (.ireturn, 1) := by decide +kernel
theorem dX7_liesAt_0 : decode cX7_liesAt 0 = .ok (.iload_n 2, 1) := by decide +kernel
theorem dX7_liesAt_1 : decode cX7_liesAt 1 = .ok (.tableswitch 104 0 6 #[43, 50, 52, 59, 66, 73, 86], 43) := by decide +kernel
theorem dX7_liesAt_44 : decode cX7_liesAt 44 = .ok (.aload_n 0, 1) := by decide +kernel
theorem dX7_liesAt_45 : decode cX7_liesAt 45 = .ok (.getfield 25, 3) := by decide +kernel
theorem dX7_liesAt_48 : decode cX7_liesAt 48 = .ok (.iload_n 1, 1) := by decide +kernel
theorem dX7_liesAt_49 : decode cX7_liesAt 49 = .ok (.iaload, 1) := by decide +kernel
theorem dX7_liesAt_50 : decode cX7_liesAt 50 = .ok (.ireturn, 1) := by decide +kernel
theorem dX7_liesAt_51 : decode cX7_liesAt 51 = .ok (.iload_n 1, 1) := by decide +kernel
theorem dX7_liesAt_52 : decode cX7_liesAt 52 = .ok (.ireturn, 1) := by decide +kernel
theorem dX7_liesAt_53 : decode cX7_liesAt 53 = .ok (.aload_n 0, 1) := by decide +kernel
theorem dX7_liesAt_54 : decode cX7_liesAt 54 = .ok (.getfield 59, 3) := by decide +kernel
theorem dX7_liesAt_57 : decode cX7_liesAt 57 = .ok (.iload_n 1, 1) := by decide +kernel
theorem dX7_liesAt_58 : decode cX7_liesAt 58 = .ok (.iaload, 1) := by decide +kernel
theorem dX7_liesAt_59 : decode cX7_liesAt 59 = .ok (.ireturn, 1) := by decide +kernel
theorem dX7_liesAt_60 : decode cX7_liesAt 60 = .ok (.aload_n 0, 1) := by decide +kernel
theorem dX7_liesAt_61 : decode cX7_liesAt 61 = .ok (.getfield 34, 3) := by decide +kernel
theorem dX7_liesAt_64 : decode cX7_liesAt 64 = .ok (.iload_n 1, 1) := by decide +kernel
theorem dX7_liesAt_65 : decode cX7_liesAt 65 = .ok (.iaload, 1) := by decide +kernel
theorem dX7_liesAt_66 : decode cX7_liesAt 66 = .ok (.ireturn, 1) := by decide +kernel
theorem dX7_liesAt_67 : decode cX7_liesAt 67 = .ok (.aload_n 0, 1) := by decide +kernel
theorem dX7_liesAt_68 : decode cX7_liesAt 68 = .ok (.getfield 62, 3) := by decide +kernel
theorem dX7_liesAt_71 : decode cX7_liesAt 71 = .ok (.iload_n 1, 1) := by decide +kernel
theorem dX7_liesAt_72 : decode cX7_liesAt 72 = .ok (.iaload, 1) := by decide +kernel
theorem dX7_liesAt_73 : decode cX7_liesAt 73 = .ok (.ireturn, 1) := by decide +kernel
theorem dX7_liesAt_74 : decode cX7_liesAt 74 = .ok (.aload_n 0, 1) := by decide +kernel
theorem dX7_liesAt_75 : decode cX7_liesAt 75 = .ok (.getfield 62, 3) := by decide +kernel
theorem dX7_liesAt_78 : decode cX7_liesAt 78 = .ok (.iload_n 1, 1) := by decide +kernel
theorem dX7_liesAt_79 : decode cX7_liesAt 79 = .ok (.iaload, 1) := by decide +kernel
theorem dX7_liesAt_80 : decode cX7_liesAt 80 = .ok (.aload_n 0, 1) := by decide +kernel
theorem dX7_liesAt_81 : decode cX7_liesAt 81 = .ok (.iload_n 1, 1) := by decide +kernel
theorem dX7_liesAt_82 : decode cX7_liesAt 82 = .ok (.invokevirtual 210, 3) := by decide +kernel
theorem dX7_liesAt_85 : decode cX7_liesAt 85 = .ok (.iadd, 1) := by decide +kernel
theorem dX7_liesAt_86 : decode cX7_liesAt 86 = .ok (.ireturn, 1) := by decide +kernel
theorem dX7_liesAt_87 : decode cX7_liesAt 87 = .ok (.aload_n 0, 1) := by decide +kernel
theorem dX7_liesAt_88 : decode cX7_liesAt 88 = .ok (.getfield 34, 3) := by decide +kernel
theorem dX7_liesAt_91 : decode cX7_liesAt 91 = .ok (.iload_n 1, 1) := by decide +kernel
theorem dX7_liesAt_92 : decode cX7_liesAt 92 = .ok (.iaload, 1) := by decide +kernel
theorem dX7_liesAt_93 : decode cX7_liesAt 93 = .ok (.aload_n 0, 1) := by decide +kernel
theorem dX7_liesAt_94 : decode cX7_liesAt 94 = .ok (.aload_n 0, 1) := by decide +kernel
theorem dX7_liesAt_95 : decode cX7_liesAt 95 = .ok (.getfield 22, 3) := by decide +kernel
theorem dX7_liesAt_98 : decode cX7_liesAt 98 = .ok (.iload_n 1, 1) := by decide +kernel
theorem dX7_liesAt_99 : decode cX7_liesAt 99 = .ok (.iaload, 1) := by decide +kernel
theorem dX7_liesAt_100 : decode cX7_liesAt 100 = .ok (.invokevirtual 179, 3) := by decide +kernel
theorem dX7_liesAt_103 : decode cX7_liesAt 103 = .ok (.isub, 1) := by decide +kernel
theorem dX7_liesAt_104 : decode cX7_liesAt 104 = .ok (.ireturn, 1) := by decide +kernel
theorem dX7_liesAt_105 : decode cX7_liesAt 105 = .ok (.aload_n 0, 1) := by decide +kernel
theorem dX7_liesAt_106 : decode cX7_liesAt 106 = .ok (.getfield 40, 3) := by decide +kernel
theorem dX7_liesAt_109 : decode cX7_liesAt 109 = .ok (.iload_n 1, 1) := by decide +kernel
theorem dX7_liesAt_110 : decode cX7_liesAt 110 = .ok (.iaload, 1) := by decide +kernel
theorem dX7_liesAt_111 : decode cX7_liesAt 111 = .ok (.ireturn, 1) := by decide +kernel
theorem dX7_lies_0 : decode cX7_lies 0 = .ok (.aload_n 0, 1) := by decide +kernel
theorem dX7_lies_1 : decode cX7_lies 1 = .ok (.iload_n 1, 1) := by decide +kernel
theorem dX7_lies_2 : decode cX7_lies 2 = .ok (.invokevirtual 153, 3) := by decide +kernel
theorem dX7_lies_5 : decode cX7_lies 5 = .ok (.ifCond .eq 13, 3) := by decide +kernel
theorem dX7_lies_8 : decode cX7_lies 8 = .ok (.iload_n 2, 1) := by decide +kernel
theorem dX7_lies_9 : decode cX7_lies 9 = .ok (.iconst 0, 1) := by decide +kernel
theorem dX7_lies_10 : decode cX7_lies 10 = .ok (.bipush 7, 2) := by decide +kernel
theorem dX7_lies_12 : decode cX7_lies 12 = .ok (.invokestatic 75, 3) := by decide +kernel
theorem dX7_lies_15 : decode cX7_lies 15 = .ok (.ifCond .ne 7, 3) := by decide +kernel
theorem dX7_lies_18 : decode cX7_lies 18 = .ok (.sipush (-1002), 3) := by decide +kernel
theorem dX7_lies_21 : decode cX7_lies 21 = .ok (.ireturn, 1) := by decide +kernel
theorem dX7_lies_22 : decode cX7_lies 22 = .ok (.aload_n 0, 1) := by decide +kernel
theorem dX7_lies_23 : decode cX7_lies 23 = .ok (.iload_n 1, 1) := by decide +kernel
theorem dX7_lies_24 : decode cX7_lies 24 = .ok (.bipush 10, 2) := by decide +kernel
theorem dX7_lies_26 : decode cX7_lies 26 = .ok (.invokevirtual 157, 3) := by decide +kernel
theorem dX7_lies_29 : decode cX7_lies 29 = .ok (.iconst 1, 1) := by decide +kernel
theorem dX7_lies_30 : decode cX7_lies 30 = .ok (.if_icmp .ne 7, 3) := by decide +kernel
theorem dX7_lies_33 : decode cX7_lies 33 = .ok (.sipush (-1003), 3) := by decide +kernel
theorem dX7_lies_36 : decode cX7_lies 36 = .ok (.ireturn, 1) := by decide +kernel
theorem dX7_lies_37 : decode cX7_lies 37 = .ok (.aload_n 0, 1) := by decide +kernel
theorem dX7_lies_38 : decode cX7_lies 38 = .ok (.aload_n 0, 1) := by decide +kernel
theorem dX7_lies_39 : decode cX7_lies 39 = .ok (.getfield 7, 3) := by decide +kernel
theorem dX7_lies_42 : decode cX7_lies 42 = .ok (.sipush 177, 3) := by decide +kernel
theorem dX7_lies_45 : decode cX7_lies 45 = .ok (.iaload, 1) := by decide +kernel
theorem dX7_lies_46 : decode cX7_lies 46 = .ok (.invokevirtual 161, 3) := by decide +kernel
theorem dX7_lies_49 : decode cX7_lies 49 = .ok (.aload_n 0, 1) := by decide +kernel
theorem dX7_lies_50 : decode cX7_lies 50 = .ok (.aload_n 0, 1) := by decide +kernel
theorem dX7_lies_51 : decode cX7_lies 51 = .ok (.iload_n 1, 1) := by decide +kernel
theorem dX7_lies_52 : decode cX7_lies 52 = .ok (.invokevirtual 164, 3) := by decide +kernel
theorem dX7_lies_55 : decode cX7_lies 55 = .ok (.iload_n 2, 1) := by decide +kernel
theorem dX7_lies_56 : decode cX7_lies 56 = .ok (.invokevirtual 228, 3) := by decide +kernel
theorem dX7_lies_59 : decode cX7_lies 59 = .ok (.ireturn, 1) := by decide +kernel
theorem dX7_ordered_0 : decode cX7_ordered 0 = .ok (.iload_n 1, 1) := by decide +kernel
theorem dX7_ordered_1 : decode cX7_ordered 1 = .ok (.ifCond .ge 7, 3) := by decide +kernel
theorem dX7_ordered_4 : decode cX7_ordered 4 = .ok (.sipush (-1002), 3) := by decide +kernel
theorem dX7_ordered_7 : decode cX7_ordered 7 = .ok (.ireturn, 1) := by decide +kernel
theorem dX7_ordered_8 : decode cX7_ordered 8 = .ok (.aload_n 0, 1) := by decide +kernel
theorem dX7_ordered_9 : decode cX7_ordered 9 = .ok (.invokevirtual 213, 3) := by decide +kernel
theorem dX7_ordered_12 : decode cX7_ordered 12 = .ok (.iload_n 1, 1) := by decide +kernel
theorem dX7_ordered_13 : decode cX7_ordered 13 = .ok (.aload_n 0, 1) := by decide +kernel
theorem dX7_ordered_14 : decode cX7_ordered 14 = .ok (.getfield 176, 3) := by decide +kernel
theorem dX7_ordered_17 : decode cX7_ordered 17 = .ok (.if_icmp .ge 12, 3) := by decide +kernel
theorem dX7_ordered_20 : decode cX7_ordered 20 = .ok (.aload_n 0, 1) := by decide +kernel
theorem dX7_ordered_21 : decode cX7_ordered 21 = .ok (.getfield 22, 3) := by decide +kernel
theorem dX7_ordered_24 : decode cX7_ordered 24 = .ok (.iload_n 1, 1) := by decide +kernel
theorem dX7_ordered_25 : decode cX7_ordered 25 = .ok (.iaload, 1) := by decide +kernel
theorem dX7_ordered_26 : decode cX7_ordered 26 = .ok (.goto 6, 3) := by decide +kernel
theorem dX7_ordered_29 : decode cX7_ordered 29 = .ok (.sipush (-1001), 3) := by decide +kernel
theorem dX7_ordered_32 : decode cX7_ordered 32 = .ok (.ireturn, 1) := by decide +kernel
theorem dX7_outer_0 : decode cX7_outer 0 = .ok (.aload_n 0, 1) := by decide +kernel
theorem dX7_outer_1 : decode cX7_outer 1 = .ok (.getfield 7, 3) := by decide +kernel
theorem dX7_outer_4 : decode cX7_outer 4 = .ok (.sipush 178, 3) := by decide +kernel
theorem dX7_outer_7 : decode cX7_outer 7 = .ok (.iaload, 1) := by decide +kernel
theorem dX7_outer_8 : decode cX7_outer 8 = .ok (.aload_n 0, 1) := by decide +kernel
theorem dX7_outer_9 : decode cX7_outer 9 = .ok (.getfield 31, 3) := by decide +kernel
theorem dX7_outer_12 : decode cX7_outer 12 = .ok (.iload_n 1, 1) := by decide +kernel
theorem dX7_outer_13 : decode cX7_outer 13 = .ok (.iaload, 1) := by decide +kernel
theorem dX7_outer_14 : decode cX7_outer 14 = .ok (.aload_n 0, 1) := by decide +kernel
theorem dX7_outer_15 : decode cX7_outer 15 = .ok (.getfield 28, 3) := by decide +kernel
theorem dX7_outer_18 : decode cX7_outer 18 = .ok (.iload_n 1, 1) := by decide +kernel
theorem dX7_outer_19 : decode cX7_outer 19 = .ok (.iaload, 1) := by decide +kernel
theorem dX7_outer_20 : decode cX7_outer 20 = .ok (.isub, 1) := by decide +kernel
theorem dX7_outer_21 : decode cX7_outer 21 = .ok (.iconst 1, 1) := by decide +kernel
theorem dX7_outer_22 : decode cX7_outer 22 = .ok (.isub, 1) := by decide +kernel
theorem dX7_outer_23 : decode cX7_outer 23 = .ok (.imul, 1) := by decide +kernel
theorem dX7_outer_24 : decode cX7_outer 24 = .ok (.istore_n 2, 1) := by decide +kernel
theorem dX7_outer_25 : decode cX7_outer 25 = .ok (.aload_n 0, 1) := by decide +kernel
theorem dX7_outer_26 : decode cX7_outer 26 = .ok (.getfield 28, 3) := by decide +kernel
theorem dX7_outer_29 : decode cX7_outer 29 = .ok (.iload_n 1, 1) := by decide +kernel
theorem dX7_outer_30 : decode cX7_outer 30 = .ok (.iaload, 1) := by decide +kernel
theorem dX7_outer_31 : decode cX7_outer 31 = .ok (.istore_n 3, 1) := by decide +kernel
theorem dX7_outer_32 : decode cX7_outer 32 = .ok (.iload_n 3, 1) := by decide +kernel
theorem dX7_outer_33 : decode cX7_outer 33 = .ok (.aload_n 0, 1) := by decide +kernel
theorem dX7_outer_34 : decode cX7_outer 34 = .ok (.getfield 31, 3) := by decide +kernel
theorem dX7_outer_37 : decode cX7_outer 37 = .ok (.iload_n 1, 1) := by decide +kernel
theorem dX7_outer_38 : decode cX7_outer 38 = .ok (.iaload, 1) := by decide +kernel
theorem dX7_outer_39 : decode cX7_outer 39 = .ok (.if_icmp .ge 17, 3) := by decide +kernel
theorem dX7_outer_42 : decode cX7_outer 42 = .ok (.iload_n 2, 1) := by decide +kernel
theorem dX7_outer_43 : decode cX7_outer 43 = .ok (.aload_n 0, 1) := by decide +kernel
theorem dX7_outer_44 : decode cX7_outer 44 = .ok (.iload_n 3, 1) := by decide +kernel
theorem dX7_outer_45 : decode cX7_outer 45 = .ok (.invokevirtual 185, 3) := by decide +kernel
theorem dX7_outer_48 : decode cX7_outer 48 = .ok (.iadd, 1) := by decide +kernel
theorem dX7_outer_49 : decode cX7_outer 49 = .ok (.istore_n 2, 1) := by decide +kernel
theorem dX7_outer_50 : decode cX7_outer 50 = .ok (.iinc 3 1, 3) := by decide +kernel
theorem dX7_outer_53 : decode cX7_outer 53 = .ok (.goto (-21), 3) := by decide +kernel
theorem dX7_outer_56 : decode cX7_outer 56 = .ok (.iload_n 2, 1) := by decide +kernel
theorem dX7_outer_57 : decode cX7_outer 57 = .ok (.ireturn, 1) := by decide +kernel
theorem dX7_linePart_0 : decode cX7_linePart 0 = .ok (.iload_n 2, 1) := by decide +kernel
theorem dX7_linePart_1 : decode cX7_linePart 1 = .ok (.tableswitch 107 0 6 #[43, 57, 64, 71, 78, 85, 100], 43) := by decide +kernel
theorem dX7_linePart_44 : decode cX7_linePart 44 = .ok (.aload_n 0, 1) := by decide +kernel
theorem dX7_linePart_45 : decode cX7_linePart 45 = .ok (.getfield 31, 3) := by decide +kernel
theorem dX7_linePart_48 : decode cX7_linePart 48 = .ok (.iload_n 1, 1) := by decide +kernel
theorem dX7_linePart_49 : decode cX7_linePart 49 = .ok (.iaload, 1) := by decide +kernel
theorem dX7_linePart_50 : decode cX7_linePart 50 = .ok (.aload_n 0, 1) := by decide +kernel
theorem dX7_linePart_51 : decode cX7_linePart 51 = .ok (.getfield 28, 3) := by decide +kernel
theorem dX7_linePart_54 : decode cX7_linePart 54 = .ok (.iload_n 1, 1) := by decide +kernel
theorem dX7_linePart_55 : decode cX7_linePart 55 = .ok (.iaload, 1) := by decide +kernel
theorem dX7_linePart_56 : decode cX7_linePart 56 = .ok (.isub, 1) := by decide +kernel
theorem dX7_linePart_57 : decode cX7_linePart 57 = .ok (.ireturn, 1) := by decide +kernel
theorem dX7_linePart_58 : decode cX7_linePart 58 = .ok (.aload_n 0, 1) := by decide +kernel
theorem dX7_linePart_59 : decode cX7_linePart 59 = .ok (.getfield 28, 3) := by decide +kernel
theorem dX7_linePart_62 : decode cX7_linePart 62 = .ok (.iload_n 1, 1) := by decide +kernel
theorem dX7_linePart_63 : decode cX7_linePart 63 = .ok (.iaload, 1) := by decide +kernel
theorem dX7_linePart_64 : decode cX7_linePart 64 = .ok (.ireturn, 1) := by decide +kernel
theorem dX7_linePart_65 : decode cX7_linePart 65 = .ok (.aload_n 0, 1) := by decide +kernel
theorem dX7_linePart_66 : decode cX7_linePart 66 = .ok (.getfield 65, 3) := by decide +kernel
theorem dX7_linePart_69 : decode cX7_linePart 69 = .ok (.iload_n 1, 1) := by decide +kernel
theorem dX7_linePart_70 : decode cX7_linePart 70 = .ok (.iaload, 1) := by decide +kernel
theorem dX7_linePart_71 : decode cX7_linePart 71 = .ok (.ireturn, 1) := by decide +kernel
theorem dX7_linePart_72 : decode cX7_linePart 72 = .ok (.aload_n 0, 1) := by decide +kernel
theorem dX7_linePart_73 : decode cX7_linePart 73 = .ok (.getfield 68, 3) := by decide +kernel
theorem dX7_linePart_76 : decode cX7_linePart 76 = .ok (.iload_n 1, 1) := by decide +kernel
theorem dX7_linePart_77 : decode cX7_linePart 77 = .ok (.iaload, 1) := by decide +kernel
theorem dX7_linePart_78 : decode cX7_linePart 78 = .ok (.ireturn, 1) := by decide +kernel
theorem dX7_linePart_79 : decode cX7_linePart 79 = .ok (.aload_n 0, 1) := by decide +kernel
theorem dX7_linePart_80 : decode cX7_linePart 80 = .ok (.getfield 50, 3) := by decide +kernel
theorem dX7_linePart_83 : decode cX7_linePart 83 = .ok (.iload_n 1, 1) := by decide +kernel
theorem dX7_linePart_84 : decode cX7_linePart 84 = .ok (.iaload, 1) := by decide +kernel
theorem dX7_linePart_85 : decode cX7_linePart 85 = .ok (.ireturn, 1) := by decide +kernel
theorem dX7_linePart_86 : decode cX7_linePart 86 = .ok (.aload_n 0, 1) := by decide +kernel
theorem dX7_linePart_87 : decode cX7_linePart 87 = .ok (.getfield 56, 3) := by decide +kernel
theorem dX7_linePart_90 : decode cX7_linePart 90 = .ok (.iload_n 1, 1) := by decide +kernel
theorem dX7_linePart_91 : decode cX7_linePart 91 = .ok (.baload, 1) := by decide +kernel
theorem dX7_linePart_92 : decode cX7_linePart 92 = .ok (.ifCond .eq 7, 3) := by decide +kernel
theorem dX7_linePart_95 : decode cX7_linePart 95 = .ok (.iconst 1, 1) := by decide +kernel
theorem dX7_linePart_96 : decode cX7_linePart 96 = .ok (.goto 4, 3) := by decide +kernel
theorem dX7_linePart_99 : decode cX7_linePart 99 = .ok (.iconst 0, 1) := by decide +kernel
theorem dX7_linePart_100 : decode cX7_linePart 100 = .ok (.ireturn, 1) := by decide +kernel
theorem dX7_linePart_101 : decode cX7_linePart 101 = .ok (.aload_n 0, 1) := by decide +kernel
theorem dX7_linePart_102 : decode cX7_linePart 102 = .ok (.getfield 53, 3) := by decide +kernel
theorem dX7_linePart_105 : decode cX7_linePart 105 = .ok (.iload_n 1, 1) := by decide +kernel
theorem dX7_linePart_106 : decode cX7_linePart 106 = .ok (.iaload, 1) := by decide +kernel
theorem dX7_linePart_107 : decode cX7_linePart 107 = .ok (.ireturn, 1) := by decide +kernel
theorem dX7_linePart_108 : decode cX7_linePart 108 = .ok (.aload_n 0, 1) := by decide +kernel
theorem dX7_linePart_109 : decode cX7_linePart 109 = .ok (.iload_n 1, 1) := by decide +kernel
theorem dX7_linePart_110 : decode cX7_linePart 110 = .ok (.invokevirtual 231, 3) := by decide +kernel
theorem dX7_linePart_113 : decode cX7_linePart 113 = .ok (.ireturn, 1) := by decide +kernel
theorem dX7_line_0 : decode cX7_line 0 = .ok (.iload_n 1, 1) := by decide +kernel
theorem dX7_line_1 : decode cX7_line 1 = .ok (.ifCond .lt 13, 3) := by decide +kernel
theorem dX7_line_4 : decode cX7_line 4 = .ok (.iload_n 2, 1) := by decide +kernel
theorem dX7_line_5 : decode cX7_line 5 = .ok (.iconst 0, 1) := by decide +kernel
theorem dX7_line_6 : decode cX7_line 6 = .ok (.bipush 7, 2) := by decide +kernel
theorem dX7_line_8 : decode cX7_line 8 = .ok (.invokestatic 75, 3) := by decide +kernel
theorem dX7_line_11 : decode cX7_line 11 = .ok (.ifCond .ne 7, 3) := by decide +kernel
theorem dX7_line_14 : decode cX7_line 14 = .ok (.sipush (-1002), 3) := by decide +kernel
theorem dX7_line_17 : decode cX7_line 17 = .ok (.ireturn, 1) := by decide +kernel
theorem dX7_line_18 : decode cX7_line 18 = .ok (.aload_n 0, 1) := by decide +kernel
theorem dX7_line_19 : decode cX7_line 19 = .ok (.aload_n 0, 1) := by decide +kernel
theorem dX7_line_20 : decode cX7_line 20 = .ok (.getfield 7, 3) := by decide +kernel
theorem dX7_line_23 : decode cX7_line 23 = .ok (.sipush 177, 3) := by decide +kernel
theorem dX7_line_26 : decode cX7_line 26 = .ok (.iaload, 1) := by decide +kernel
theorem dX7_line_27 : decode cX7_line 27 = .ok (.invokevirtual 161, 3) := by decide +kernel
theorem dX7_line_30 : decode cX7_line 30 = .ok (.iload_n 1, 1) := by decide +kernel
theorem dX7_line_31 : decode cX7_line 31 = .ok (.aload_n 0, 1) := by decide +kernel
theorem dX7_line_32 : decode cX7_line 32 = .ok (.getfield 182, 3) := by decide +kernel
theorem dX7_line_35 : decode cX7_line 35 = .ok (.if_icmp .ge 12, 3) := by decide +kernel
theorem dX7_line_38 : decode cX7_line 38 = .ok (.aload_n 0, 1) := by decide +kernel
theorem dX7_line_39 : decode cX7_line 39 = .ok (.iload_n 1, 1) := by decide +kernel
theorem dX7_line_40 : decode cX7_line 40 = .ok (.iload_n 2, 1) := by decide +kernel
theorem dX7_line_41 : decode cX7_line 41 = .ok (.invokevirtual 234, 3) := by decide +kernel
theorem dX7_line_44 : decode cX7_line 44 = .ok (.goto 6, 3) := by decide +kernel
theorem dX7_line_47 : decode cX7_line 47 = .ok (.sipush (-1001), 3) := by decide +kernel
theorem dX7_line_50 : decode cX7_line 50 = .ok (.ireturn, 1) := by decide +kernel
theorem dX7_at_0 : decode cX7_at 0 = .ok (.iload_n 1, 1) := by decide +kernel
theorem dX7_at_1 : decode cX7_at 1 = .ok (.sipush (-2000), 3) := by decide +kernel
theorem dX7_at_4 : decode cX7_at 4 = .ok (.sipush 2000, 3) := by decide +kernel
theorem dX7_at_7 : decode cX7_at 7 = .ok (.invokestatic 75, 3) := by decide +kernel
theorem dX7_at_10 : decode cX7_at 10 = .ok (.ifCond .eq 14, 3) := by decide +kernel
theorem dX7_at_13 : decode cX7_at 13 = .ok (.iload_n 2, 1) := by decide +kernel
theorem dX7_at_14 : decode cX7_at 14 = .ok (.iconst 0, 1) := by decide +kernel
theorem dX7_at_15 : decode cX7_at 15 = .ok (.sipush 5000, 3) := by decide +kernel
theorem dX7_at_18 : decode cX7_at 18 = .ok (.invokestatic 75, 3) := by decide +kernel
theorem dX7_at_21 : decode cX7_at 21 = .ok (.ifCond .ne 7, 3) := by decide +kernel
theorem dX7_at_24 : decode cX7_at 24 = .ok (.sipush (-1002), 3) := by decide +kernel
theorem dX7_at_27 : decode cX7_at 27 = .ok (.ireturn, 1) := by decide +kernel
theorem dX7_at_28 : decode cX7_at 28 = .ok (.aload_n 0, 1) := by decide +kernel
theorem dX7_at_29 : decode cX7_at 29 = .ok (.aload_n 0, 1) := by decide +kernel
theorem dX7_at_30 : decode cX7_at 30 = .ok (.getfield 7, 3) := by decide +kernel
theorem dX7_at_33 : decode cX7_at 33 = .ok (.sipush 177, 3) := by decide +kernel
theorem dX7_at_36 : decode cX7_at 36 = .ok (.iaload, 1) := by decide +kernel
theorem dX7_at_37 : decode cX7_at 37 = .ok (.invokevirtual 161, 3) := by decide +kernel
theorem dX7_at_40 : decode cX7_at 40 = .ok (.sipush (-1001), 3) := by decide +kernel
theorem dX7_at_43 : decode cX7_at 43 = .ok (.istore_n 3, 1) := by decide +kernel
theorem dX7_at_44 : decode cX7_at 44 = .ok (.iconst 0, 1) := by decide +kernel
theorem dX7_at_45 : decode cX7_at 45 = .ok (.istore 4, 2) := by decide +kernel
theorem dX7_at_47 : decode cX7_at 47 = .ok (.iload 4, 2) := by decide +kernel
theorem dX7_at_49 : decode cX7_at 49 = .ok (.aload_n 0, 1) := by decide +kernel
theorem dX7_at_50 : decode cX7_at 50 = .ok (.getfield 176, 3) := by decide +kernel
theorem dX7_at_53 : decode cX7_at 53 = .ok (.if_icmp .ge 101, 3) := by decide +kernel
theorem dX7_at_56 : decode cX7_at 56 = .ok (.iload_n 1, 1) := by decide +kernel
theorem dX7_at_57 : decode cX7_at 57 = .ok (.aload_n 0, 1) := by decide +kernel
theorem dX7_at_58 : decode cX7_at 58 = .ok (.getfield 59, 3) := by decide +kernel
theorem dX7_at_61 : decode cX7_at 61 = .ok (.iload 4, 2) := by decide +kernel
theorem dX7_at_63 : decode cX7_at 63 = .ok (.iaload, 1) := by decide +kernel
theorem dX7_at_64 : decode cX7_at 64 = .ok (.aload_n 0, 1) := by decide +kernel
theorem dX7_at_65 : decode cX7_at 65 = .ok (.getfield 59, 3) := by decide +kernel
theorem dX7_at_68 : decode cX7_at 68 = .ok (.iload 4, 2) := by decide +kernel
theorem dX7_at_70 : decode cX7_at 70 = .ok (.iaload, 1) := by decide +kernel
theorem dX7_at_71 : decode cX7_at 71 = .ok (.aload_n 0, 1) := by decide +kernel
theorem dX7_at_72 : decode cX7_at 72 = .ok (.getfield 34, 3) := by decide +kernel
theorem dX7_at_75 : decode cX7_at 75 = .ok (.iload 4, 2) := by decide +kernel
theorem dX7_at_77 : decode cX7_at 77 = .ok (.iaload, 1) := by decide +kernel
theorem dX7_at_78 : decode cX7_at 78 = .ok (.iadd, 1) := by decide +kernel
theorem dX7_at_79 : decode cX7_at 79 = .ok (.iconst 1, 1) := by decide +kernel
theorem dX7_at_80 : decode cX7_at 80 = .ok (.isub, 1) := by decide +kernel
theorem dX7_at_81 : decode cX7_at 81 = .ok (.invokestatic 75, 3) := by decide +kernel
theorem dX7_at_84 : decode cX7_at 84 = .ok (.ifCond .eq 44, 3) := by decide +kernel
theorem dX7_at_87 : decode cX7_at 87 = .ok (.iload_n 2, 1) := by decide +kernel
theorem dX7_at_88 : decode cX7_at 88 = .ok (.aload_n 0, 1) := by decide +kernel
theorem dX7_at_89 : decode cX7_at 89 = .ok (.getfield 62, 3) := by decide +kernel
theorem dX7_at_92 : decode cX7_at 92 = .ok (.iload 4, 2) := by decide +kernel
theorem dX7_at_94 : decode cX7_at 94 = .ok (.iaload, 1) := by decide +kernel
theorem dX7_at_95 : decode cX7_at 95 = .ok (.aload_n 0, 1) := by decide +kernel
theorem dX7_at_96 : decode cX7_at 96 = .ok (.getfield 62, 3) := by decide +kernel
theorem dX7_at_99 : decode cX7_at 99 = .ok (.iload 4, 2) := by decide +kernel
theorem dX7_at_101 : decode cX7_at 101 = .ok (.iaload, 1) := by decide +kernel
theorem dX7_at_102 : decode cX7_at 102 = .ok (.aload_n 0, 1) := by decide +kernel
theorem dX7_at_103 : decode cX7_at 103 = .ok (.aload_n 0, 1) := by decide +kernel
theorem dX7_at_104 : decode cX7_at 104 = .ok (.getfield 22, 3) := by decide +kernel
theorem dX7_at_107 : decode cX7_at 107 = .ok (.iload 4, 2) := by decide +kernel
theorem dX7_at_109 : decode cX7_at 109 = .ok (.iaload, 1) := by decide +kernel
theorem dX7_at_110 : decode cX7_at 110 = .ok (.bipush 7, 2) := by decide +kernel
theorem dX7_at_112 : decode cX7_at 112 = .ok (.invokevirtual 157, 3) := by decide +kernel
theorem dX7_at_115 : decode cX7_at 115 = .ok (.iadd, 1) := by decide +kernel
theorem dX7_at_116 : decode cX7_at 116 = .ok (.iconst 1, 1) := by decide +kernel
theorem dX7_at_117 : decode cX7_at 117 = .ok (.isub, 1) := by decide +kernel
theorem dX7_at_118 : decode cX7_at 118 = .ok (.invokestatic 75, 3) := by decide +kernel
theorem dX7_at_121 : decode cX7_at 121 = .ok (.ifCond .eq 7, 3) := by decide +kernel
theorem dX7_at_124 : decode cX7_at 124 = .ok (.iconst 1, 1) := by decide +kernel
theorem dX7_at_125 : decode cX7_at 125 = .ok (.goto 4, 3) := by decide +kernel
theorem dX7_at_128 : decode cX7_at 128 = .ok (.iconst 0, 1) := by decide +kernel
theorem dX7_at_129 : decode cX7_at 129 = .ok (.istore 5, 2) := by decide +kernel
theorem dX7_at_131 : decode cX7_at 131 = .ok (.iload 5, 2) := by decide +kernel
theorem dX7_at_133 : decode cX7_at 133 = .ok (.ifCond .eq 13, 3) := by decide +kernel
theorem dX7_at_136 : decode cX7_at 136 = .ok (.aload_n 0, 1) := by decide +kernel
theorem dX7_at_137 : decode cX7_at 137 = .ok (.getfield 22, 3) := by decide +kernel
theorem dX7_at_140 : decode cX7_at 140 = .ok (.iload 4, 2) := by decide +kernel
theorem dX7_at_142 : decode cX7_at 142 = .ok (.iaload, 1) := by decide +kernel
theorem dX7_at_143 : decode cX7_at 143 = .ok (.goto 4, 3) := by decide +kernel
theorem dX7_at_146 : decode cX7_at 146 = .ok (.iload_n 3, 1) := by decide +kernel
theorem dX7_at_147 : decode cX7_at 147 = .ok (.istore_n 3, 1) := by decide +kernel
theorem dX7_at_148 : decode cX7_at 148 = .ok (.iinc 4 1, 3) := by decide +kernel
theorem dX7_at_151 : decode cX7_at 151 = .ok (.goto (-104), 3) := by decide +kernel
theorem dX7_at_154 : decode cX7_at 154 = .ok (.iload_n 3, 1) := by decide +kernel
theorem dX7_at_155 : decode cX7_at 155 = .ok (.ireturn, 1) := by decide +kernel
theorem dX7_fits_0 : decode cX7_fits 0 = .ok (.iload_n 1, 1) := by decide +kernel
theorem dX7_fits_1 : decode cX7_fits 1 = .ok (.iconst 1, 1) := by decide +kernel
theorem dX7_fits_2 : decode cX7_fits 2 = .ok (.if_icmp .eq 11, 3) := by decide +kernel
theorem dX7_fits_5 : decode cX7_fits 5 = .ok (.aload_n 0, 1) := by decide +kernel
theorem dX7_fits_6 : decode cX7_fits 6 = .ok (.getfield 182, 3) := by decide +kernel
theorem dX7_fits_9 : decode cX7_fits 9 = .ok (.iload_n 2, 1) := by decide +kernel
theorem dX7_fits_10 : decode cX7_fits 10 = .ok (.if_icmp .gt 7, 3) := by decide +kernel
theorem dX7_fits_13 : decode cX7_fits 13 = .ok (.iconst 1, 1) := by decide +kernel
theorem dX7_fits_14 : decode cX7_fits 14 = .ok (.goto 4, 3) := by decide +kernel
theorem dX7_fits_17 : decode cX7_fits 17 = .ok (.iconst 0, 1) := by decide +kernel
theorem dX7_fits_18 : decode cX7_fits 18 = .ok (.istore_n 3, 1) := by decide +kernel
theorem dX7_fits_19 : decode cX7_fits 19 = .ok (.iconst 0, 1) := by decide +kernel
theorem dX7_fits_20 : decode cX7_fits 20 = .ok (.istore 4, 2) := by decide +kernel
theorem dX7_fits_22 : decode cX7_fits 22 = .ok (.iload 4, 2) := by decide +kernel
theorem dX7_fits_24 : decode cX7_fits 24 = .ok (.aload_n 0, 1) := by decide +kernel
theorem dX7_fits_25 : decode cX7_fits 25 = .ok (.getfield 182, 3) := by decide +kernel
theorem dX7_fits_28 : decode cX7_fits 28 = .ok (.if_icmp .ge 34, 3) := by decide +kernel
theorem dX7_fits_31 : decode cX7_fits 31 = .ok (.iload_n 1, 1) := by decide +kernel
theorem dX7_fits_32 : decode cX7_fits 32 = .ok (.iconst 1, 1) := by decide +kernel
theorem dX7_fits_33 : decode cX7_fits 33 = .ok (.if_icmp .ne 29, 3) := by decide +kernel
theorem dX7_fits_36 : decode cX7_fits 36 = .ok (.iload_n 3, 1) := by decide +kernel
theorem dX7_fits_37 : decode cX7_fits 37 = .ok (.ifCond .eq 17, 3) := by decide +kernel
theorem dX7_fits_40 : decode cX7_fits 40 = .ok (.aload_n 0, 1) := by decide +kernel
theorem dX7_fits_41 : decode cX7_fits 41 = .ok (.getfield 50, 3) := by decide +kernel
theorem dX7_fits_44 : decode cX7_fits 44 = .ok (.iload 4, 2) := by decide +kernel
theorem dX7_fits_46 : decode cX7_fits 46 = .ok (.iaload, 1) := by decide +kernel
theorem dX7_fits_47 : decode cX7_fits 47 = .ok (.ifCond .lt 7, 3) := by decide +kernel
theorem dX7_fits_50 : decode cX7_fits 50 = .ok (.iconst 1, 1) := by decide +kernel
theorem dX7_fits_51 : decode cX7_fits 51 = .ok (.goto 4, 3) := by decide +kernel
theorem dX7_fits_54 : decode cX7_fits 54 = .ok (.iconst 0, 1) := by decide +kernel
theorem dX7_fits_55 : decode cX7_fits 55 = .ok (.istore_n 3, 1) := by decide +kernel
theorem dX7_fits_56 : decode cX7_fits 56 = .ok (.iinc 4 1, 3) := by decide +kernel
theorem dX7_fits_59 : decode cX7_fits 59 = .ok (.goto (-37), 3) := by decide +kernel
theorem dX7_fits_62 : decode cX7_fits 62 = .ok (.iload_n 3, 1) := by decide +kernel
theorem dX7_fits_63 : decode cX7_fits 63 = .ok (.ireturn, 1) := by decide +kernel
theorem dX7_leastWidth_0 : decode cX7_leastWidth 0 = .ok (.iload_n 1, 1) := by decide +kernel
theorem dX7_leastWidth_1 : decode cX7_leastWidth 1 = .ok (.iconst 0, 1) := by decide +kernel
theorem dX7_leastWidth_2 : decode cX7_leastWidth 2 = .ok (.iconst 1, 1) := by decide +kernel
theorem dX7_leastWidth_3 : decode cX7_leastWidth 3 = .ok (.invokestatic 75, 3) := by decide +kernel
theorem dX7_leastWidth_6 : decode cX7_leastWidth 6 = .ok (.ifCond .eq 29, 3) := by decide +kernel
theorem dX7_leastWidth_9 : decode cX7_leastWidth 9 = .ok (.iload_n 2, 1) := by decide +kernel
theorem dX7_leastWidth_10 : decode cX7_leastWidth 10 = .ok (.iload_n 1, 1) := by decide +kernel
theorem dX7_leastWidth_11 : decode cX7_leastWidth 11 = .ok (.ifCond .ne 7, 3) := by decide +kernel
theorem dX7_leastWidth_14 : decode cX7_leastWidth 14 = .ok (.iconst 1, 1) := by decide +kernel
theorem dX7_leastWidth_15 : decode cX7_leastWidth 15 = .ok (.goto 4, 3) := by decide +kernel
theorem dX7_leastWidth_18 : decode cX7_leastWidth 18 = .ok (.iconst 0, 1) := by decide +kernel
theorem dX7_leastWidth_19 : decode cX7_leastWidth 19 = .ok (.iload_n 1, 1) := by decide +kernel
theorem dX7_leastWidth_20 : decode cX7_leastWidth 20 = .ok (.ifCond .ne 8, 3) := by decide +kernel
theorem dX7_leastWidth_23 : decode cX7_leastWidth 23 = .ok (.bipush 16, 2) := by decide +kernel
theorem dX7_leastWidth_25 : decode cX7_leastWidth 25 = .ok (.goto 4, 3) := by decide +kernel
theorem dX7_leastWidth_28 : decode cX7_leastWidth 28 = .ok (.iconst 0, 1) := by decide +kernel
theorem dX7_leastWidth_29 : decode cX7_leastWidth 29 = .ok (.invokestatic 75, 3) := by decide +kernel
theorem dX7_leastWidth_32 : decode cX7_leastWidth 32 = .ok (.ifCond .ne 7, 3) := by decide +kernel
theorem dX7_leastWidth_35 : decode cX7_leastWidth 35 = .ok (.sipush (-1002), 3) := by decide +kernel
theorem dX7_leastWidth_38 : decode cX7_leastWidth 38 = .ok (.ireturn, 1) := by decide +kernel
theorem dX7_leastWidth_39 : decode cX7_leastWidth 39 = .ok (.bipush 20, 2) := by decide +kernel
theorem dX7_leastWidth_41 : decode cX7_leastWidth 41 = .ok (.istore_n 3, 1) := by decide +kernel
theorem dX7_leastWidth_42 : decode cX7_leastWidth 42 = .ok (.iload_n 3, 1) := by decide +kernel
theorem dX7_leastWidth_43 : decode cX7_leastWidth 43 = .ok (.sipush 999, 3) := by decide +kernel
theorem dX7_leastWidth_46 : decode cX7_leastWidth 46 = .ok (.if_icmp .gt 25, 3) := by decide +kernel
theorem dX7_leastWidth_49 : decode cX7_leastWidth 49 = .ok (.aload_n 0, 1) := by decide +kernel
theorem dX7_leastWidth_50 : decode cX7_leastWidth 50 = .ok (.iload_n 3, 1) := by decide +kernel
theorem dX7_leastWidth_51 : decode cX7_leastWidth 51 = .ok (.invokevirtual 161, 3) := by decide +kernel
theorem dX7_leastWidth_54 : decode cX7_leastWidth 54 = .ok (.aload_n 0, 1) := by decide +kernel
theorem dX7_leastWidth_55 : decode cX7_leastWidth 55 = .ok (.iload_n 1, 1) := by decide +kernel
theorem dX7_leastWidth_56 : decode cX7_leastWidth 56 = .ok (.iload_n 2, 1) := by decide +kernel
theorem dX7_leastWidth_57 : decode cX7_leastWidth 57 = .ok (.invokevirtual 237, 3) := by decide +kernel
theorem dX7_leastWidth_60 : decode cX7_leastWidth 60 = .ok (.ifCond .eq 5, 3) := by decide +kernel
theorem dX7_leastWidth_63 : decode cX7_leastWidth 63 = .ok (.iload_n 3, 1) := by decide +kernel
theorem dX7_leastWidth_64 : decode cX7_leastWidth 64 = .ok (.ireturn, 1) := by decide +kernel
theorem dX7_leastWidth_65 : decode cX7_leastWidth 65 = .ok (.iinc 3 1, 3) := by decide +kernel
theorem dX7_leastWidth_68 : decode cX7_leastWidth 68 = .ok (.goto (-26), 3) := by decide +kernel
theorem dX7_leastWidth_71 : decode cX7_leastWidth 71 = .ok (.sipush (-1001), 3) := by decide +kernel
theorem dX7_leastWidth_74 : decode cX7_leastWidth 74 = .ok (.ireturn, 1) := by decide +kernel
theorem dX7_hidden_0 : decode cX7_hidden 0 = .ok (.iconst 0, 1) := by decide +kernel
theorem dX7_hidden_1 : decode cX7_hidden 1 = .ok (.istore_n 1, 1) := by decide +kernel
theorem dX7_hidden_2 : decode cX7_hidden 2 = .ok (.iconst 0, 1) := by decide +kernel
theorem dX7_hidden_3 : decode cX7_hidden 3 = .ok (.istore_n 2, 1) := by decide +kernel
theorem dX7_hidden_4 : decode cX7_hidden 4 = .ok (.iload_n 2, 1) := by decide +kernel
theorem dX7_hidden_5 : decode cX7_hidden 5 = .ok (.aload_n 0, 1) := by decide +kernel
theorem dX7_hidden_6 : decode cX7_hidden 6 = .ok (.getfield 7, 3) := by decide +kernel
theorem dX7_hidden_9 : decode cX7_hidden 9 = .ok (.sipush 176, 3) := by decide +kernel
theorem dX7_hidden_12 : decode cX7_hidden 12 = .ok (.iaload, 1) := by decide +kernel
theorem dX7_hidden_13 : decode cX7_hidden 13 = .ok (.if_icmp .ge 19, 3) := by decide +kernel
theorem dX7_hidden_16 : decode cX7_hidden 16 = .ok (.iload_n 1, 1) := by decide +kernel
theorem dX7_hidden_17 : decode cX7_hidden 17 = .ok (.aload_n 0, 1) := by decide +kernel
theorem dX7_hidden_18 : decode cX7_hidden 18 = .ok (.iload_n 2, 1) := by decide +kernel
theorem dX7_hidden_19 : decode cX7_hidden 19 = .ok (.bipush 10, 2) := by decide +kernel
theorem dX7_hidden_21 : decode cX7_hidden 21 = .ok (.invokevirtual 157, 3) := by decide +kernel
theorem dX7_hidden_24 : decode cX7_hidden 24 = .ok (.iadd, 1) := by decide +kernel
theorem dX7_hidden_25 : decode cX7_hidden 25 = .ok (.istore_n 1, 1) := by decide +kernel
theorem dX7_hidden_26 : decode cX7_hidden 26 = .ok (.iinc 2 1, 3) := by decide +kernel
theorem dX7_hidden_29 : decode cX7_hidden 29 = .ok (.goto (-25), 3) := by decide +kernel
theorem dX7_hidden_32 : decode cX7_hidden 32 = .ok (.iload_n 1, 1) := by decide +kernel
theorem dX7_hidden_33 : decode cX7_hidden 33 = .ok (.ireturn, 1) := by decide +kernel
theorem dX7_farthest_0 : decode cX7_farthest 0 = .ok (.sipush (-1001), 3) := by decide +kernel
theorem dX7_farthest_3 : decode cX7_farthest 3 = .ok (.istore_n 1, 1) := by decide +kernel
theorem dX7_farthest_4 : decode cX7_farthest 4 = .ok (.iconst 0, 1) := by decide +kernel
theorem dX7_farthest_5 : decode cX7_farthest 5 = .ok (.istore_n 2, 1) := by decide +kernel
theorem dX7_farthest_6 : decode cX7_farthest 6 = .ok (.iload_n 2, 1) := by decide +kernel
theorem dX7_farthest_7 : decode cX7_farthest 7 = .ok (.aload_n 0, 1) := by decide +kernel
theorem dX7_farthest_8 : decode cX7_farthest 8 = .ok (.getfield 176, 3) := by decide +kernel
theorem dX7_farthest_11 : decode cX7_farthest 11 = .ok (.if_icmp .ge 38, 3) := by decide +kernel
theorem dX7_farthest_14 : decode cX7_farthest 14 = .ok (.aload_n 0, 1) := by decide +kernel
theorem dX7_farthest_15 : decode cX7_farthest 15 = .ok (.getfield 59, 3) := by decide +kernel
theorem dX7_farthest_18 : decode cX7_farthest 18 = .ok (.iload_n 2, 1) := by decide +kernel
theorem dX7_farthest_19 : decode cX7_farthest 19 = .ok (.iaload, 1) := by decide +kernel
theorem dX7_farthest_20 : decode cX7_farthest 20 = .ok (.aload_n 0, 1) := by decide +kernel
theorem dX7_farthest_21 : decode cX7_farthest 21 = .ok (.getfield 34, 3) := by decide +kernel
theorem dX7_farthest_24 : decode cX7_farthest 24 = .ok (.iload_n 2, 1) := by decide +kernel
theorem dX7_farthest_25 : decode cX7_farthest 25 = .ok (.iaload, 1) := by decide +kernel
theorem dX7_farthest_26 : decode cX7_farthest 26 = .ok (.iadd, 1) := by decide +kernel
theorem dX7_farthest_27 : decode cX7_farthest 27 = .ok (.istore_n 3, 1) := by decide +kernel
theorem dX7_farthest_28 : decode cX7_farthest 28 = .ok (.iload_n 2, 1) := by decide +kernel
theorem dX7_farthest_29 : decode cX7_farthest 29 = .ok (.ifCond .eq 8, 3) := by decide +kernel
theorem dX7_farthest_32 : decode cX7_farthest 32 = .ok (.iload_n 3, 1) := by decide +kernel
theorem dX7_farthest_33 : decode cX7_farthest 33 = .ok (.iload_n 1, 1) := by decide +kernel
theorem dX7_farthest_34 : decode cX7_farthest 34 = .ok (.if_icmp .le 7, 3) := by decide +kernel
theorem dX7_farthest_37 : decode cX7_farthest 37 = .ok (.iload_n 3, 1) := by decide +kernel
theorem dX7_farthest_38 : decode cX7_farthest 38 = .ok (.goto 4, 3) := by decide +kernel
theorem dX7_farthest_41 : decode cX7_farthest 41 = .ok (.iload_n 1, 1) := by decide +kernel
theorem dX7_farthest_42 : decode cX7_farthest 42 = .ok (.istore_n 1, 1) := by decide +kernel
theorem dX7_farthest_43 : decode cX7_farthest 43 = .ok (.iinc 2 1, 3) := by decide +kernel
theorem dX7_farthest_46 : decode cX7_farthest 46 = .ok (.goto (-40), 3) := by decide +kernel
theorem dX7_farthest_49 : decode cX7_farthest 49 = .ok (.iload_n 1, 1) := by decide +kernel
theorem dX7_farthest_50 : decode cX7_farthest 50 = .ok (.ireturn, 1) := by decide +kernel
theorem dX7_number_0 : decode cX7_number 0 = .ok (.iload_n 1, 1) := by decide +kernel
theorem dX7_number_1 : decode cX7_number 1 = .ok (.tableswitch 112 0 6 #[43, 52, 57, 62, 97, 102, 107], 43) := by decide +kernel
theorem dX7_number_44 : decode cX7_number 44 = .ok (.aload_n 0, 1) := by decide +kernel
theorem dX7_number_45 : decode cX7_number 45 = .ok (.getfield 7, 3) := by decide +kernel
theorem dX7_number_48 : decode cX7_number 48 = .ok (.sipush 176, 3) := by decide +kernel
theorem dX7_number_51 : decode cX7_number 51 = .ok (.iaload, 1) := by decide +kernel
theorem dX7_number_52 : decode cX7_number 52 = .ok (.ireturn, 1) := by decide +kernel
theorem dX7_number_53 : decode cX7_number 53 = .ok (.aload_n 0, 1) := by decide +kernel
theorem dX7_number_54 : decode cX7_number 54 = .ok (.invokevirtual 241, 3) := by decide +kernel
theorem dX7_number_57 : decode cX7_number 57 = .ok (.ireturn, 1) := by decide +kernel
theorem dX7_number_58 : decode cX7_number 58 = .ok (.aload_n 0, 1) := by decide +kernel
theorem dX7_number_59 : decode cX7_number 59 = .ok (.getfield 182, 3) := by decide +kernel
theorem dX7_number_62 : decode cX7_number 62 = .ok (.ireturn, 1) := by decide +kernel
theorem dX7_number_63 : decode cX7_number 63 = .ok (.aload_n 0, 1) := by decide +kernel
theorem dX7_number_64 : decode cX7_number 64 = .ok (.getfield 182, 3) := by decide +kernel
theorem dX7_number_67 : decode cX7_number 67 = .ok (.ifCond .ne 7, 3) := by decide +kernel
theorem dX7_number_70 : decode cX7_number 70 = .ok (.iconst 0, 1) := by decide +kernel
theorem dX7_number_71 : decode cX7_number 71 = .ok (.goto 26, 3) := by decide +kernel
theorem dX7_number_74 : decode cX7_number 74 = .ok (.aload_n 0, 1) := by decide +kernel
theorem dX7_number_75 : decode cX7_number 75 = .ok (.getfield 65, 3) := by decide +kernel
theorem dX7_number_78 : decode cX7_number 78 = .ok (.aload_n 0, 1) := by decide +kernel
theorem dX7_number_79 : decode cX7_number 79 = .ok (.getfield 182, 3) := by decide +kernel
theorem dX7_number_82 : decode cX7_number 82 = .ok (.iconst 1, 1) := by decide +kernel
theorem dX7_number_83 : decode cX7_number 83 = .ok (.isub, 1) := by decide +kernel
theorem dX7_number_84 : decode cX7_number 84 = .ok (.iaload, 1) := by decide +kernel
theorem dX7_number_85 : decode cX7_number 85 = .ok (.aload_n 0, 1) := by decide +kernel
theorem dX7_number_86 : decode cX7_number 86 = .ok (.getfield 68, 3) := by decide +kernel
theorem dX7_number_89 : decode cX7_number 89 = .ok (.aload_n 0, 1) := by decide +kernel
theorem dX7_number_90 : decode cX7_number 90 = .ok (.getfield 182, 3) := by decide +kernel
theorem dX7_number_93 : decode cX7_number 93 = .ok (.iconst 1, 1) := by decide +kernel
theorem dX7_number_94 : decode cX7_number 94 = .ok (.isub, 1) := by decide +kernel
theorem dX7_number_95 : decode cX7_number 95 = .ok (.iaload, 1) := by decide +kernel
theorem dX7_number_96 : decode cX7_number 96 = .ok (.iadd, 1) := by decide +kernel
theorem dX7_number_97 : decode cX7_number 97 = .ok (.ireturn, 1) := by decide +kernel
theorem dX7_number_98 : decode cX7_number 98 = .ok (.aload_n 0, 1) := by decide +kernel
theorem dX7_number_99 : decode cX7_number 99 = .ok (.invokevirtual 244, 3) := by decide +kernel
theorem dX7_number_102 : decode cX7_number 102 = .ok (.ireturn, 1) := by decide +kernel
theorem dX7_number_103 : decode cX7_number 103 = .ok (.aload_n 0, 1) := by decide +kernel
theorem dX7_number_104 : decode cX7_number 104 = .ok (.getfield 71, 3) := by decide +kernel
theorem dX7_number_107 : decode cX7_number 107 = .ok (.ireturn, 1) := by decide +kernel
theorem dX7_number_108 : decode cX7_number 108 = .ok (.aload_n 0, 1) := by decide +kernel
theorem dX7_number_109 : decode cX7_number 109 = .ok (.getfield 79, 3) := by decide +kernel
theorem dX7_number_112 : decode cX7_number 112 = .ok (.ireturn, 1) := by decide +kernel
theorem dX7_number_113 : decode cX7_number 113 = .ok (.aload_n 0, 1) := by decide +kernel
theorem dX7_number_114 : decode cX7_number 114 = .ok (.getfield 7, 3) := by decide +kernel
theorem dX7_number_117 : decode cX7_number 117 = .ok (.sipush 177, 3) := by decide +kernel
theorem dX7_number_120 : decode cX7_number 120 = .ok (.iload_n 1, 1) := by decide +kernel
theorem dX7_number_121 : decode cX7_number 121 = .ok (.iadd, 1) := by decide +kernel
theorem dX7_number_122 : decode cX7_number 122 = .ok (.bipush 7, 2) := by decide +kernel
theorem dX7_number_124 : decode cX7_number 124 = .ok (.isub, 1) := by decide +kernel
theorem dX7_number_125 : decode cX7_number 125 = .ok (.iaload, 1) := by decide +kernel
theorem dX7_number_126 : decode cX7_number 126 = .ok (.ireturn, 1) := by decide +kernel
theorem dX7_count_0 : decode cX7_count 0 = .ok (.iload_n 1, 1) := by decide +kernel
theorem dX7_count_1 : decode cX7_count 1 = .ok (.iconst 0, 1) := by decide +kernel
theorem dX7_count_2 : decode cX7_count 2 = .ok (.bipush 13, 2) := by decide +kernel
theorem dX7_count_4 : decode cX7_count 4 = .ok (.invokestatic 75, 3) := by decide +kernel
theorem dX7_count_7 : decode cX7_count 7 = .ok (.ifCond .ne 7, 3) := by decide +kernel
theorem dX7_count_10 : decode cX7_count 10 = .ok (.sipush (-1002), 3) := by decide +kernel
theorem dX7_count_13 : decode cX7_count 13 = .ok (.ireturn, 1) := by decide +kernel
theorem dX7_count_14 : decode cX7_count 14 = .ok (.aload_n 0, 1) := by decide +kernel
theorem dX7_count_15 : decode cX7_count 15 = .ok (.aload_n 0, 1) := by decide +kernel
theorem dX7_count_16 : decode cX7_count 16 = .ok (.getfield 7, 3) := by decide +kernel
theorem dX7_count_19 : decode cX7_count 19 = .ok (.sipush 177, 3) := by decide +kernel
theorem dX7_count_22 : decode cX7_count 22 = .ok (.iaload, 1) := by decide +kernel
theorem dX7_count_23 : decode cX7_count 23 = .ok (.invokevirtual 161, 3) := by decide +kernel
theorem dX7_count_26 : decode cX7_count 26 = .ok (.aload_n 0, 1) := by decide +kernel
theorem dX7_count_27 : decode cX7_count 27 = .ok (.iload_n 1, 1) := by decide +kernel
theorem dX7_count_28 : decode cX7_count 28 = .ok (.invokevirtual 247, 3) := by decide +kernel
theorem dX7_count_31 : decode cX7_count 31 = .ok (.ireturn, 1) := by decide +kernel
theorem dX7_mixes_0 : decode cX7_mixes 0 = .ok (.aload_n 0, 1) := by decide +kernel
theorem dX7_mixes_1 : decode cX7_mixes 1 = .ok (.ldc2_w 250, 3) := by decide +kernel
theorem dX7_mixes_4 : decode cX7_mixes 4 = .ok (.aload_n 0, 1) := by decide +kernel
theorem dX7_mixes_5 : decode cX7_mixes 5 = .ok (.getfield 252, 3) := by decide +kernel
theorem dX7_mixes_8 : decode cX7_mixes 8 = .ok (.lmul, 1) := by decide +kernel
theorem dX7_mixes_9 : decode cX7_mixes 9 = .ok (.lload_n 1, 1) := by decide +kernel
theorem dX7_mixes_10 : decode cX7_mixes 10 = .ok (.ladd, 1) := by decide +kernel
theorem dX7_mixes_11 : decode cX7_mixes 11 = .ok (.putfield 252, 3) := by decide +kernel
theorem dX7_mixes_14 : decode cX7_mixes 14 = .ok (.return_, 1) := by decide +kernel
theorem dX7_mixesItem_0 : decode cX7_mixesItem 0 = .ok (.iconst 0, 1) := by decide +kernel
theorem dX7_mixesItem_1 : decode cX7_mixesItem 1 = .ok (.istore_n 2, 1) := by decide +kernel
theorem dX7_mixesItem_2 : decode cX7_mixesItem 2 = .ok (.iload_n 2, 1) := by decide +kernel
theorem dX7_mixesItem_3 : decode cX7_mixesItem 3 = .ok (.bipush 12, 2) := by decide +kernel
theorem dX7_mixesItem_5 : decode cX7_mixesItem 5 = .ok (.if_icmp .ge 20, 3) := by decide +kernel
theorem dX7_mixesItem_8 : decode cX7_mixesItem 8 = .ok (.aload_n 0, 1) := by decide +kernel
theorem dX7_mixesItem_9 : decode cX7_mixesItem 9 = .ok (.aload_n 0, 1) := by decide +kernel
theorem dX7_mixesItem_10 : decode cX7_mixesItem 10 = .ok (.iload_n 1, 1) := by decide +kernel
theorem dX7_mixesItem_11 : decode cX7_mixesItem 11 = .ok (.iload_n 2, 1) := by decide +kernel
theorem dX7_mixesItem_12 : decode cX7_mixesItem 12 = .ok (.invokevirtual 256, 3) := by decide +kernel
theorem dX7_mixesItem_15 : decode cX7_mixesItem 15 = .ok (.i2l, 1) := by decide +kernel
theorem dX7_mixesItem_16 : decode cX7_mixesItem 16 = .ok (.invokevirtual 259, 3) := by decide +kernel
theorem dX7_mixesItem_19 : decode cX7_mixesItem 19 = .ok (.iinc 2 1, 3) := by decide +kernel
theorem dX7_mixesItem_22 : decode cX7_mixesItem 22 = .ok (.goto (-20), 3) := by decide +kernel
theorem dX7_mixesItem_25 : decode cX7_mixesItem 25 = .ok (.aload_n 0, 1) := by decide +kernel
theorem dX7_mixesItem_26 : decode cX7_mixesItem 26 = .ok (.iload_n 1, 1) := by decide +kernel
theorem dX7_mixesItem_27 : decode cX7_mixesItem 27 = .ok (.invokevirtual 164, 3) := by decide +kernel
theorem dX7_mixesItem_30 : decode cX7_mixesItem 30 = .ok (.istore_n 2, 1) := by decide +kernel
theorem dX7_mixesItem_31 : decode cX7_mixesItem 31 = .ok (.iconst 0, 1) := by decide +kernel
theorem dX7_mixesItem_32 : decode cX7_mixesItem 32 = .ok (.istore_n 3, 1) := by decide +kernel
theorem dX7_mixesItem_33 : decode cX7_mixesItem 33 = .ok (.iload_n 3, 1) := by decide +kernel
theorem dX7_mixesItem_34 : decode cX7_mixesItem 34 = .ok (.bipush 8, 2) := by decide +kernel
theorem dX7_mixesItem_36 : decode cX7_mixesItem 36 = .ok (.if_icmp .ge 27, 3) := by decide +kernel
theorem dX7_mixesItem_39 : decode cX7_mixesItem 39 = .ok (.iload_n 2, 1) := by decide +kernel
theorem dX7_mixesItem_40 : decode cX7_mixesItem 40 = .ok (.sipush (-1001), 3) := by decide +kernel
theorem dX7_mixesItem_43 : decode cX7_mixesItem 43 = .ok (.if_icmp .eq 20, 3) := by decide +kernel
theorem dX7_mixesItem_46 : decode cX7_mixesItem 46 = .ok (.aload_n 0, 1) := by decide +kernel
theorem dX7_mixesItem_47 : decode cX7_mixesItem 47 = .ok (.aload_n 0, 1) := by decide +kernel
theorem dX7_mixesItem_48 : decode cX7_mixesItem 48 = .ok (.iload_n 2, 1) := by decide +kernel
theorem dX7_mixesItem_49 : decode cX7_mixesItem 49 = .ok (.iload_n 3, 1) := by decide +kernel
theorem dX7_mixesItem_50 : decode cX7_mixesItem 50 = .ok (.invokevirtual 228, 3) := by decide +kernel
theorem dX7_mixesItem_53 : decode cX7_mixesItem 53 = .ok (.i2l, 1) := by decide +kernel
theorem dX7_mixesItem_54 : decode cX7_mixesItem 54 = .ok (.invokevirtual 259, 3) := by decide +kernel
theorem dX7_mixesItem_57 : decode cX7_mixesItem 57 = .ok (.iinc 3 1, 3) := by decide +kernel
theorem dX7_mixesItem_60 : decode cX7_mixesItem 60 = .ok (.goto (-27), 3) := by decide +kernel
theorem dX7_mixesItem_63 : decode cX7_mixesItem 63 = .ok (.return_, 1) := by decide +kernel
theorem dX7_digest_0 : decode cX7_digest 0 = .ok (.aload_n 0, 1) := by decide +kernel
theorem dX7_digest_1 : decode cX7_digest 1 = .ok (.ldc2_w 263, 3) := by decide +kernel
theorem dX7_digest_4 : decode cX7_digest 4 = .ok (.putfield 252, 3) := by decide +kernel
theorem dX7_digest_7 : decode cX7_digest 7 = .ok (.aload_n 0, 1) := by decide +kernel
theorem dX7_digest_8 : decode cX7_digest 8 = .ok (.aload_n 0, 1) := by decide +kernel
theorem dX7_digest_9 : decode cX7_digest 9 = .ok (.getfield 7, 3) := by decide +kernel
theorem dX7_digest_12 : decode cX7_digest 12 = .ok (.sipush 177, 3) := by decide +kernel
theorem dX7_digest_15 : decode cX7_digest 15 = .ok (.iaload, 1) := by decide +kernel
theorem dX7_digest_16 : decode cX7_digest 16 = .ok (.invokevirtual 161, 3) := by decide +kernel
theorem dX7_digest_19 : decode cX7_digest 19 = .ok (.iconst 0, 1) := by decide +kernel
theorem dX7_digest_20 : decode cX7_digest 20 = .ok (.istore_n 1, 1) := by decide +kernel
theorem dX7_digest_21 : decode cX7_digest 21 = .ok (.iload_n 1, 1) := by decide +kernel
theorem dX7_digest_22 : decode cX7_digest 22 = .ok (.bipush 14, 2) := by decide +kernel
theorem dX7_digest_24 : decode cX7_digest 24 = .ok (.if_icmp .ge 19, 3) := by decide +kernel
theorem dX7_digest_27 : decode cX7_digest 27 = .ok (.aload_n 0, 1) := by decide +kernel
theorem dX7_digest_28 : decode cX7_digest 28 = .ok (.aload_n 0, 1) := by decide +kernel
theorem dX7_digest_29 : decode cX7_digest 29 = .ok (.iload_n 1, 1) := by decide +kernel
theorem dX7_digest_30 : decode cX7_digest 30 = .ok (.invokevirtual 247, 3) := by decide +kernel
theorem dX7_digest_33 : decode cX7_digest 33 = .ok (.i2l, 1) := by decide +kernel
theorem dX7_digest_34 : decode cX7_digest 34 = .ok (.invokevirtual 259, 3) := by decide +kernel
theorem dX7_digest_37 : decode cX7_digest 37 = .ok (.iinc 1 1, 3) := by decide +kernel
theorem dX7_digest_40 : decode cX7_digest 40 = .ok (.goto (-19), 3) := by decide +kernel
theorem dX7_digest_43 : decode cX7_digest 43 = .ok (.iconst 0, 1) := by decide +kernel
theorem dX7_digest_44 : decode cX7_digest 44 = .ok (.istore_n 1, 1) := by decide +kernel
theorem dX7_digest_45 : decode cX7_digest 45 = .ok (.iload_n 1, 1) := by decide +kernel
theorem dX7_digest_46 : decode cX7_digest 46 = .ok (.aload_n 0, 1) := by decide +kernel
theorem dX7_digest_47 : decode cX7_digest 47 = .ok (.getfield 7, 3) := by decide +kernel
theorem dX7_digest_50 : decode cX7_digest 50 = .ok (.sipush 176, 3) := by decide +kernel
theorem dX7_digest_53 : decode cX7_digest 53 = .ok (.iaload, 1) := by decide +kernel
theorem dX7_digest_54 : decode cX7_digest 54 = .ok (.if_icmp .ge 14, 3) := by decide +kernel
theorem dX7_digest_57 : decode cX7_digest 57 = .ok (.aload_n 0, 1) := by decide +kernel
theorem dX7_digest_58 : decode cX7_digest 58 = .ok (.iload_n 1, 1) := by decide +kernel
theorem dX7_digest_59 : decode cX7_digest 59 = .ok (.invokevirtual 265, 3) := by decide +kernel
theorem dX7_digest_62 : decode cX7_digest 62 = .ok (.iinc 1 1, 3) := by decide +kernel
theorem dX7_digest_65 : decode cX7_digest 65 = .ok (.goto (-20), 3) := by decide +kernel
theorem dX7_digest_68 : decode cX7_digest 68 = .ok (.iconst 0, 1) := by decide +kernel
theorem dX7_digest_69 : decode cX7_digest 69 = .ok (.istore_n 1, 1) := by decide +kernel
theorem dX7_digest_70 : decode cX7_digest 70 = .ok (.iload_n 1, 1) := by decide +kernel
theorem dX7_digest_71 : decode cX7_digest 71 = .ok (.bipush 8, 2) := by decide +kernel
theorem dX7_digest_73 : decode cX7_digest 73 = .ok (.aload_n 0, 1) := by decide +kernel
theorem dX7_digest_74 : decode cX7_digest 74 = .ok (.getfield 182, 3) := by decide +kernel
theorem dX7_digest_77 : decode cX7_digest 77 = .ok (.imul, 1) := by decide +kernel
theorem dX7_digest_78 : decode cX7_digest 78 = .ok (.if_icmp .ge 26, 3) := by decide +kernel
theorem dX7_digest_81 : decode cX7_digest 81 = .ok (.aload_n 0, 1) := by decide +kernel
theorem dX7_digest_82 : decode cX7_digest 82 = .ok (.aload_n 0, 1) := by decide +kernel
theorem dX7_digest_83 : decode cX7_digest 83 = .ok (.iload_n 1, 1) := by decide +kernel
theorem dX7_digest_84 : decode cX7_digest 84 = .ok (.bipush 8, 2) := by decide +kernel
theorem dX7_digest_86 : decode cX7_digest 86 = .ok (.idiv, 1) := by decide +kernel
theorem dX7_digest_87 : decode cX7_digest 87 = .ok (.iload_n 1, 1) := by decide +kernel
theorem dX7_digest_88 : decode cX7_digest 88 = .ok (.bipush 8, 2) := by decide +kernel
theorem dX7_digest_90 : decode cX7_digest 90 = .ok (.irem, 1) := by decide +kernel
theorem dX7_digest_91 : decode cX7_digest 91 = .ok (.invokevirtual 234, 3) := by decide +kernel
theorem dX7_digest_94 : decode cX7_digest 94 = .ok (.i2l, 1) := by decide +kernel
theorem dX7_digest_95 : decode cX7_digest 95 = .ok (.invokevirtual 259, 3) := by decide +kernel
theorem dX7_digest_98 : decode cX7_digest 98 = .ok (.iinc 1 1, 3) := by decide +kernel
theorem dX7_digest_101 : decode cX7_digest 101 = .ok (.goto (-31), 3) := by decide +kernel
theorem dX7_digest_104 : decode cX7_digest 104 = .ok (.iconst 0, 1) := by decide +kernel
theorem dX7_digest_105 : decode cX7_digest 105 = .ok (.istore_n 1, 1) := by decide +kernel
theorem dX7_digest_106 : decode cX7_digest 106 = .ok (.iload_n 1, 1) := by decide +kernel
theorem dX7_digest_107 : decode cX7_digest 107 = .ok (.aload_n 0, 1) := by decide +kernel
theorem dX7_digest_108 : decode cX7_digest 108 = .ok (.getfield 176, 3) := by decide +kernel
theorem dX7_digest_111 : decode cX7_digest 111 = .ok (.if_icmp .ge 20, 3) := by decide +kernel
theorem dX7_digest_114 : decode cX7_digest 114 = .ok (.aload_n 0, 1) := by decide +kernel
theorem dX7_digest_115 : decode cX7_digest 115 = .ok (.aload_n 0, 1) := by decide +kernel
theorem dX7_digest_116 : decode cX7_digest 116 = .ok (.getfield 22, 3) := by decide +kernel
theorem dX7_digest_119 : decode cX7_digest 119 = .ok (.iload_n 1, 1) := by decide +kernel
theorem dX7_digest_120 : decode cX7_digest 120 = .ok (.iaload, 1) := by decide +kernel
theorem dX7_digest_121 : decode cX7_digest 121 = .ok (.i2l, 1) := by decide +kernel
theorem dX7_digest_122 : decode cX7_digest 122 = .ok (.invokevirtual 259, 3) := by decide +kernel
theorem dX7_digest_125 : decode cX7_digest 125 = .ok (.iinc 1 1, 3) := by decide +kernel
theorem dX7_digest_128 : decode cX7_digest 128 = .ok (.goto (-22), 3) := by decide +kernel
theorem dX7_digest_131 : decode cX7_digest 131 = .ok (.iconst 0, 1) := by decide +kernel
theorem dX7_digest_132 : decode cX7_digest 132 = .ok (.istore_n 1, 1) := by decide +kernel
theorem dX7_digest_133 : decode cX7_digest 133 = .ok (.iload_n 1, 1) := by decide +kernel
theorem dX7_digest_134 : decode cX7_digest 134 = .ok (.aload_n 0, 1) := by decide +kernel
theorem dX7_digest_135 : decode cX7_digest 135 = .ok (.getfield 79, 3) := by decide +kernel
theorem dX7_digest_138 : decode cX7_digest 138 = .ok (.if_icmp .ge 20, 3) := by decide +kernel
theorem dX7_digest_141 : decode cX7_digest 141 = .ok (.aload_n 0, 1) := by decide +kernel
theorem dX7_digest_142 : decode cX7_digest 142 = .ok (.aload_n 0, 1) := by decide +kernel
theorem dX7_digest_143 : decode cX7_digest 143 = .ok (.getfield 16, 3) := by decide +kernel
theorem dX7_digest_146 : decode cX7_digest 146 = .ok (.iload_n 1, 1) := by decide +kernel
theorem dX7_digest_147 : decode cX7_digest 147 = .ok (.iaload, 1) := by decide +kernel
theorem dX7_digest_148 : decode cX7_digest 148 = .ok (.i2l, 1) := by decide +kernel
theorem dX7_digest_149 : decode cX7_digest 149 = .ok (.invokevirtual 259, 3) := by decide +kernel
theorem dX7_digest_152 : decode cX7_digest 152 = .ok (.iinc 1 1, 3) := by decide +kernel
theorem dX7_digest_155 : decode cX7_digest 155 = .ok (.goto (-22), 3) := by decide +kernel
theorem dX7_digest_158 : decode cX7_digest 158 = .ok (.aload_n 0, 1) := by decide +kernel
theorem dX7_digest_159 : decode cX7_digest 159 = .ok (.getfield 252, 3) := by decide +kernel
theorem dX7_digest_162 : decode cX7_digest 162 = .ok (.lreturn, 1) := by decide +kernel
theorem dJ9_floorDiv_7cf53_0 : decode cJ9_floorDiv_7cf53 0 = .ok (.iload_n 0, 1) := by decide +kernel
theorem dJ9_floorDiv_7cf53_1 : decode cJ9_floorDiv_7cf53 1 = .ok (.iload_n 1, 1) := by decide +kernel
theorem dJ9_floorDiv_7cf53_2 : decode cJ9_floorDiv_7cf53 2 = .ok (.idiv, 1) := by decide +kernel
theorem dJ9_floorDiv_7cf53_3 : decode cJ9_floorDiv_7cf53 3 = .ok (.istore_n 2, 1) := by decide +kernel
theorem dJ9_floorDiv_7cf53_4 : decode cJ9_floorDiv_7cf53 4 = .ok (.iload_n 0, 1) := by decide +kernel
theorem dJ9_floorDiv_7cf53_5 : decode cJ9_floorDiv_7cf53 5 = .ok (.iload_n 1, 1) := by decide +kernel
theorem dJ9_floorDiv_7cf53_6 : decode cJ9_floorDiv_7cf53 6 = .ok (.ixor, 1) := by decide +kernel
theorem dJ9_floorDiv_7cf53_7 : decode cJ9_floorDiv_7cf53 7 = .ok (.ifCond .ge 14, 3) := by decide +kernel
theorem dJ9_floorDiv_7cf53_10 : decode cJ9_floorDiv_7cf53 10 = .ok (.iload_n 2, 1) := by decide +kernel
theorem dJ9_floorDiv_7cf53_11 : decode cJ9_floorDiv_7cf53 11 = .ok (.iload_n 1, 1) := by decide +kernel
theorem dJ9_floorDiv_7cf53_12 : decode cJ9_floorDiv_7cf53 12 = .ok (.imul, 1) := by decide +kernel
theorem dJ9_floorDiv_7cf53_13 : decode cJ9_floorDiv_7cf53 13 = .ok (.iload_n 0, 1) := by decide +kernel
theorem dJ9_floorDiv_7cf53_14 : decode cJ9_floorDiv_7cf53 14 = .ok (.if_icmp .eq 7, 3) := by decide +kernel
theorem dJ9_floorDiv_7cf53_17 : decode cJ9_floorDiv_7cf53 17 = .ok (.iload_n 2, 1) := by decide +kernel
theorem dJ9_floorDiv_7cf53_18 : decode cJ9_floorDiv_7cf53 18 = .ok (.iconst 1, 1) := by decide +kernel
theorem dJ9_floorDiv_7cf53_19 : decode cJ9_floorDiv_7cf53 19 = .ok (.isub, 1) := by decide +kernel
theorem dJ9_floorDiv_7cf53_20 : decode cJ9_floorDiv_7cf53 20 = .ok (.ireturn, 1) := by decide +kernel
theorem dJ9_floorDiv_7cf53_21 : decode cJ9_floorDiv_7cf53 21 = .ok (.iload_n 2, 1) := by decide +kernel
theorem dJ9_floorDiv_7cf53_22 : decode cJ9_floorDiv_7cf53 22 = .ok (.ireturn, 1) := by decide +kernel
theorem dJ9_floorMod_7cf53_0 : decode cJ9_floorMod_7cf53 0 = .ok (.iload_n 0, 1) := by decide +kernel
theorem dJ9_floorMod_7cf53_1 : decode cJ9_floorMod_7cf53 1 = .ok (.iload_n 1, 1) := by decide +kernel
theorem dJ9_floorMod_7cf53_2 : decode cJ9_floorMod_7cf53 2 = .ok (.irem, 1) := by decide +kernel
theorem dJ9_floorMod_7cf53_3 : decode cJ9_floorMod_7cf53 3 = .ok (.istore_n 2, 1) := by decide +kernel
theorem dJ9_floorMod_7cf53_4 : decode cJ9_floorMod_7cf53 4 = .ok (.iload_n 0, 1) := by decide +kernel
theorem dJ9_floorMod_7cf53_5 : decode cJ9_floorMod_7cf53 5 = .ok (.iload_n 1, 1) := by decide +kernel
theorem dJ9_floorMod_7cf53_6 : decode cJ9_floorMod_7cf53 6 = .ok (.ixor, 1) := by decide +kernel
theorem dJ9_floorMod_7cf53_7 : decode cJ9_floorMod_7cf53 7 = .ok (.ifCond .ge 11, 3) := by decide +kernel
theorem dJ9_floorMod_7cf53_10 : decode cJ9_floorMod_7cf53 10 = .ok (.iload_n 2, 1) := by decide +kernel
theorem dJ9_floorMod_7cf53_11 : decode cJ9_floorMod_7cf53 11 = .ok (.ifCond .eq 7, 3) := by decide +kernel
theorem dJ9_floorMod_7cf53_14 : decode cJ9_floorMod_7cf53 14 = .ok (.iload_n 2, 1) := by decide +kernel
theorem dJ9_floorMod_7cf53_15 : decode cJ9_floorMod_7cf53 15 = .ok (.iload_n 1, 1) := by decide +kernel
theorem dJ9_floorMod_7cf53_16 : decode cJ9_floorMod_7cf53 16 = .ok (.iadd, 1) := by decide +kernel
theorem dJ9_floorMod_7cf53_17 : decode cJ9_floorMod_7cf53 17 = .ok (.ireturn, 1) := by decide +kernel
theorem dJ9_floorMod_7cf53_18 : decode cJ9_floorMod_7cf53 18 = .ok (.iload_n 2, 1) := by decide +kernel
theorem dJ9_floorMod_7cf53_19 : decode cJ9_floorMod_7cf53 19 = .ok (.ireturn, 1) := by decide +kernel
theorem dJ9_max_7cf53_0 : decode cJ9_max_7cf53 0 = .ok (.iload_n 0, 1) := by decide +kernel
theorem dJ9_max_7cf53_1 : decode cJ9_max_7cf53 1 = .ok (.iload_n 1, 1) := by decide +kernel
theorem dJ9_max_7cf53_2 : decode cJ9_max_7cf53 2 = .ok (.if_icmp .lt 7, 3) := by decide +kernel
theorem dJ9_max_7cf53_5 : decode cJ9_max_7cf53 5 = .ok (.iload_n 0, 1) := by decide +kernel
theorem dJ9_max_7cf53_6 : decode cJ9_max_7cf53 6 = .ok (.goto 4, 3) := by decide +kernel
theorem dJ9_max_7cf53_9 : decode cJ9_max_7cf53 9 = .ok (.iload_n 1, 1) := by decide +kernel
theorem dJ9_max_7cf53_10 : decode cJ9_max_7cf53 10 = .ok (.ireturn, 1) := by decide +kernel
theorem dJ9_min_7cf53_0 : decode cJ9_min_7cf53 0 = .ok (.iload_n 0, 1) := by decide +kernel
theorem dJ9_min_7cf53_1 : decode cJ9_min_7cf53 1 = .ok (.iload_n 1, 1) := by decide +kernel
theorem dJ9_min_7cf53_2 : decode cJ9_min_7cf53 2 = .ok (.if_icmp .gt 7, 3) := by decide +kernel
theorem dJ9_min_7cf53_5 : decode cJ9_min_7cf53 5 = .ok (.iload_n 0, 1) := by decide +kernel
theorem dJ9_min_7cf53_6 : decode cJ9_min_7cf53 6 = .ok (.goto 4, 3) := by decide +kernel
theorem dJ9_min_7cf53_9 : decode cJ9_min_7cf53 9 = .ok (.iload_n 1, 1) := by decide +kernel
theorem dJ9_min_7cf53_10 : decode cJ9_min_7cf53 10 = .ok (.ireturn, 1) := by decide +kernel
theorem dJ0_length_8abf5_0 : decode cJ0_length_8abf5 0 = .ok (.aload_n 0, 1) := by decide +kernel
theorem dJ0_length_8abf5_1 : decode cJ0_length_8abf5 1 = .ok (.getfield 9, 3) := by decide +kernel
theorem dJ0_length_8abf5_4 : decode cJ0_length_8abf5 4 = .ok (.arraylength, 1) := by decide +kernel
theorem dJ0_length_8abf5_5 : decode cJ0_length_8abf5 5 = .ok (.aload_n 0, 1) := by decide +kernel
theorem dJ0_length_8abf5_6 : decode cJ0_length_8abf5 6 = .ok (.invokevirtual 335, 3) := by decide +kernel
theorem dJ0_length_8abf5_9 : decode cJ0_length_8abf5 9 = .ok (.ishr, 1) := by decide +kernel
theorem dJ0_length_8abf5_10 : decode cJ0_length_8abf5 10 = .ok (.ireturn, 1) := by decide +kernel
theorem dJ0_charAt_5068e_0 : decode cJ0_charAt_5068e 0 = .ok (.aload_n 0, 1) := by decide +kernel
theorem dJ0_charAt_5068e_1 : decode cJ0_charAt_5068e 1 = .ok (.invokevirtual 492, 3) := by decide +kernel
theorem dJ0_charAt_5068e_4 : decode cJ0_charAt_5068e 4 = .ok (.ifCond .eq 12, 3) := by decide +kernel
theorem dJ0_charAt_5068e_7 : decode cJ0_charAt_5068e 7 = .ok (.aload_n 0, 1) := by decide +kernel
theorem dJ0_charAt_5068e_8 : decode cJ0_charAt_5068e 8 = .ok (.getfield 9, 3) := by decide +kernel
theorem dJ0_charAt_5068e_11 : decode cJ0_charAt_5068e 11 = .ok (.iload_n 1, 1) := by decide +kernel
theorem dJ0_charAt_5068e_12 : decode cJ0_charAt_5068e 12 = .ok (.invokestatic 495, 3) := by decide +kernel
theorem dJ0_charAt_5068e_15 : decode cJ0_charAt_5068e 15 = .ok (.ireturn, 1) := by decide +kernel
theorem dJ0_charAt_5068e_16 : decode cJ0_charAt_5068e 16 = .ok (.aload_n 0, 1) := by decide +kernel
theorem dJ0_charAt_5068e_17 : decode cJ0_charAt_5068e 17 = .ok (.getfield 9, 3) := by decide +kernel
theorem dJ0_charAt_5068e_20 : decode cJ0_charAt_5068e 20 = .ok (.iload_n 1, 1) := by decide +kernel
theorem dJ0_charAt_5068e_21 : decode cJ0_charAt_5068e 21 = .ok (.invokestatic 498, 3) := by decide +kernel
theorem dJ0_charAt_5068e_24 : decode cJ0_charAt_5068e 24 = .ok (.ireturn, 1) := by decide +kernel
theorem dJ0_coder_7d493_0 : decode cJ0_coder_7d493 0 = .ok (.getstatic 38, 3) := by decide +kernel
theorem dJ0_coder_7d493_3 : decode cJ0_coder_7d493 3 = .ok (.ifCond .eq 10, 3) := by decide +kernel
theorem dJ0_coder_7d493_6 : decode cJ0_coder_7d493 6 = .ok (.aload_n 0, 1) := by decide +kernel
theorem dJ0_coder_7d493_7 : decode cJ0_coder_7d493 7 = .ok (.getfield 15, 3) := by decide +kernel
theorem dJ0_coder_7d493_10 : decode cJ0_coder_7d493 10 = .ok (.goto 4, 3) := by decide +kernel
theorem dJ0_coder_7d493_13 : decode cJ0_coder_7d493 13 = .ok (.iconst 1, 1) := by decide +kernel
theorem dJ0_coder_7d493_14 : decode cJ0_coder_7d493 14 = .ok (.ireturn, 1) := by decide +kernel
theorem dJ0_isLatin1_aae02_0 : decode cJ0_isLatin1_aae02 0 = .ok (.getstatic 38, 3) := by decide +kernel
theorem dJ0_isLatin1_aae02_3 : decode cJ0_isLatin1_aae02 3 = .ok (.ifCond .eq 14, 3) := by decide +kernel
theorem dJ0_isLatin1_aae02_6 : decode cJ0_isLatin1_aae02 6 = .ok (.aload_n 0, 1) := by decide +kernel
theorem dJ0_isLatin1_aae02_7 : decode cJ0_isLatin1_aae02 7 = .ok (.getfield 15, 3) := by decide +kernel
theorem dJ0_isLatin1_aae02_10 : decode cJ0_isLatin1_aae02 10 = .ok (.ifCond .ne 7, 3) := by decide +kernel
theorem dJ0_isLatin1_aae02_13 : decode cJ0_isLatin1_aae02 13 = .ok (.iconst 1, 1) := by decide +kernel
theorem dJ0_isLatin1_aae02_14 : decode cJ0_isLatin1_aae02 14 = .ok (.goto 4, 3) := by decide +kernel
theorem dJ0_isLatin1_aae02_17 : decode cJ0_isLatin1_aae02 17 = .ok (.iconst 0, 1) := by decide +kernel
theorem dJ0_isLatin1_aae02_18 : decode cJ0_isLatin1_aae02 18 = .ok (.ireturn, 1) := by decide +kernel
theorem dJ0_checkIndex_df160_0 : decode cJ0_checkIndex_df160 0 = .ok (.iload_n 0, 1) := by decide +kernel
theorem dJ0_checkIndex_df160_1 : decode cJ0_checkIndex_df160 1 = .ok (.iload_n 1, 1) := by decide +kernel
theorem dJ0_checkIndex_df160_2 : decode cJ0_checkIndex_df160 2 = .ok (.getstatic 1053, 3) := by decide +kernel
theorem dJ0_checkIndex_df160_5 : decode cJ0_checkIndex_df160 5 = .ok (.invokestatic 1059, 3) := by decide +kernel
theorem dJ0_checkIndex_df160_8 : decode cJ0_checkIndex_df160 8 = .ok (.pop, 1) := by decide +kernel
theorem dJ0_checkIndex_df160_9 : decode cJ0_checkIndex_df160 9 = .ok (.return_, 1) := by decide +kernel
theorem dJ1_charAt_3b067_0 : decode cJ1_charAt_3b067 0 = .ok (.iload_n 1, 1) := by decide +kernel
theorem dJ1_charAt_3b067_1 : decode cJ1_charAt_3b067 1 = .ok (.aload_n 0, 1) := by decide +kernel
theorem dJ1_charAt_3b067_2 : decode cJ1_charAt_3b067 2 = .ok (.arraylength, 1) := by decide +kernel
theorem dJ1_charAt_3b067_3 : decode cJ1_charAt_3b067 3 = .ok (.invokestatic 9, 3) := by decide +kernel
theorem dJ1_charAt_3b067_6 : decode cJ1_charAt_3b067 6 = .ok (.aload_n 0, 1) := by decide +kernel
theorem dJ1_charAt_3b067_7 : decode cJ1_charAt_3b067 7 = .ok (.iload_n 1, 1) := by decide +kernel
theorem dJ1_charAt_3b067_8 : decode cJ1_charAt_3b067 8 = .ok (.baload, 1) := by decide +kernel
theorem dJ1_charAt_3b067_9 : decode cJ1_charAt_3b067 9 = .ok (.sipush 255, 3) := by decide +kernel
theorem dJ1_charAt_3b067_12 : decode cJ1_charAt_3b067 12 = .ok (.iand, 1) := by decide +kernel
theorem dJ1_charAt_3b067_13 : decode cJ1_charAt_3b067 13 = .ok (.i2c, 1) := by decide +kernel
theorem dJ1_charAt_3b067_14 : decode cJ1_charAt_3b067 14 = .ok (.ireturn, 1) := by decide +kernel
theorem dJ2_getChar_3b067_0 : decode cJ2_getChar_3b067 0 = .ok (.getstatic 44, 3) := by decide +kernel
theorem dJ2_getChar_3b067_3 : decode cJ2_getChar_3b067 3 = .ok (.ifCond .ne 25, 3) := by decide +kernel
theorem dJ2_getChar_3b067_6 : decode cJ2_getChar_3b067 6 = .ok (.iload_n 1, 1) := by decide +kernel
theorem dJ2_getChar_3b067_7 : decode cJ2_getChar_3b067 7 = .ok (.ifCond .lt 11, 3) := by decide +kernel
theorem dJ2_getChar_3b067_10 : decode cJ2_getChar_3b067 10 = .ok (.iload_n 1, 1) := by decide +kernel
theorem dJ2_getChar_3b067_11 : decode cJ2_getChar_3b067 11 = .ok (.aload_n 0, 1) := by decide +kernel
theorem dJ2_getChar_3b067_12 : decode cJ2_getChar_3b067 12 = .ok (.invokestatic 48, 3) := by decide +kernel
theorem dJ2_getChar_3b067_15 : decode cJ2_getChar_3b067 15 = .ok (.if_icmp .lt 13, 3) := by decide +kernel
theorem dJ2_getChar_3b067_18 : decode cJ2_getChar_3b067 18 = .ok (.new 52, 3) := by decide +kernel
theorem dJ2_getChar_3b067_21 : decode cJ2_getChar_3b067 21 = .ok (.dup, 1) := by decide +kernel
theorem dJ2_getChar_3b067_22 : decode cJ2_getChar_3b067 22 = .ok (.ldc 54, 2) := by decide +kernel
theorem dJ2_getChar_3b067_24 : decode cJ2_getChar_3b067 24 = .ok (.invokespecial 56, 3) := by decide +kernel
theorem dJ2_getChar_3b067_27 : decode cJ2_getChar_3b067 27 = .ok (.athrow, 1) := by decide +kernel
theorem dJ2_getChar_3b067_28 : decode cJ2_getChar_3b067 28 = .ok (.iload_n 1, 1) := by decide +kernel
theorem dJ2_getChar_3b067_29 : decode cJ2_getChar_3b067 29 = .ok (.iconst 1, 1) := by decide +kernel
theorem dJ2_getChar_3b067_30 : decode cJ2_getChar_3b067 30 = .ok (.ishl, 1) := by decide +kernel
theorem dJ2_getChar_3b067_31 : decode cJ2_getChar_3b067 31 = .ok (.istore_n 1, 1) := by decide +kernel
theorem dJ2_getChar_3b067_32 : decode cJ2_getChar_3b067 32 = .ok (.aload_n 0, 1) := by decide +kernel
theorem dJ2_getChar_3b067_33 : decode cJ2_getChar_3b067 33 = .ok (.iload_n 1, 1) := by decide +kernel
theorem dJ2_getChar_3b067_34 : decode cJ2_getChar_3b067 34 = .ok (.iinc 1 1, 3) := by decide +kernel
theorem dJ2_getChar_3b067_37 : decode cJ2_getChar_3b067 37 = .ok (.baload, 1) := by decide +kernel
theorem dJ2_getChar_3b067_38 : decode cJ2_getChar_3b067 38 = .ok (.sipush 255, 3) := by decide +kernel
theorem dJ2_getChar_3b067_41 : decode cJ2_getChar_3b067 41 = .ok (.iand, 1) := by decide +kernel
theorem dJ2_getChar_3b067_42 : decode cJ2_getChar_3b067 42 = .ok (.getstatic 59, 3) := by decide +kernel
theorem dJ2_getChar_3b067_45 : decode cJ2_getChar_3b067 45 = .ok (.ishl, 1) := by decide +kernel
theorem dJ2_getChar_3b067_46 : decode cJ2_getChar_3b067 46 = .ok (.aload_n 0, 1) := by decide +kernel
theorem dJ2_getChar_3b067_47 : decode cJ2_getChar_3b067 47 = .ok (.iload_n 1, 1) := by decide +kernel
theorem dJ2_getChar_3b067_48 : decode cJ2_getChar_3b067 48 = .ok (.baload, 1) := by decide +kernel
theorem dJ2_getChar_3b067_49 : decode cJ2_getChar_3b067 49 = .ok (.sipush 255, 3) := by decide +kernel
theorem dJ2_getChar_3b067_52 : decode cJ2_getChar_3b067 52 = .ok (.iand, 1) := by decide +kernel
theorem dJ2_getChar_3b067_53 : decode cJ2_getChar_3b067 53 = .ok (.getstatic 63, 3) := by decide +kernel
theorem dJ2_getChar_3b067_56 : decode cJ2_getChar_3b067 56 = .ok (.ishl, 1) := by decide +kernel
theorem dJ2_getChar_3b067_57 : decode cJ2_getChar_3b067 57 = .ok (.ior, 1) := by decide +kernel
theorem dJ2_getChar_3b067_58 : decode cJ2_getChar_3b067 58 = .ok (.i2c, 1) := by decide +kernel
theorem dJ2_getChar_3b067_59 : decode cJ2_getChar_3b067 59 = .ok (.ireturn, 1) := by decide +kernel
theorem dJ2_length_9d52b_0 : decode cJ2_length_9d52b 0 = .ok (.aload_n 0, 1) := by decide +kernel
theorem dJ2_length_9d52b_1 : decode cJ2_length_9d52b 1 = .ok (.arraylength, 1) := by decide +kernel
theorem dJ2_length_9d52b_2 : decode cJ2_length_9d52b 2 = .ok (.iconst 1, 1) := by decide +kernel
theorem dJ2_length_9d52b_3 : decode cJ2_length_9d52b 3 = .ok (.ishr, 1) := by decide +kernel
theorem dJ2_length_9d52b_4 : decode cJ2_length_9d52b 4 = .ok (.ireturn, 1) := by decide +kernel
theorem dJ2_charAt_3b067_0 : decode cJ2_charAt_3b067 0 = .ok (.iload_n 1, 1) := by decide +kernel
theorem dJ2_charAt_3b067_1 : decode cJ2_charAt_3b067 1 = .ok (.aload_n 0, 1) := by decide +kernel
theorem dJ2_charAt_3b067_2 : decode cJ2_charAt_3b067 2 = .ok (.invokestatic 67, 3) := by decide +kernel
theorem dJ2_charAt_3b067_5 : decode cJ2_charAt_3b067 5 = .ok (.aload_n 0, 1) := by decide +kernel
theorem dJ2_charAt_3b067_6 : decode cJ2_charAt_3b067 6 = .ok (.iload_n 1, 1) := by decide +kernel
theorem dJ2_charAt_3b067_7 : decode cJ2_charAt_3b067 7 = .ok (.invokestatic 71, 3) := by decide +kernel
theorem dJ2_charAt_3b067_10 : decode cJ2_charAt_3b067 10 = .ok (.ireturn, 1) := by decide +kernel
theorem dJ2_checkIndex_2214a_0 : decode cJ2_checkIndex_2214a 0 = .ok (.iload_n 0, 1) := by decide +kernel
theorem dJ2_checkIndex_2214a_1 : decode cJ2_checkIndex_2214a 1 = .ok (.aload_n 1, 1) := by decide +kernel
theorem dJ2_checkIndex_2214a_2 : decode cJ2_checkIndex_2214a 2 = .ok (.invokestatic 48, 3) := by decide +kernel
theorem dJ2_checkIndex_2214a_5 : decode cJ2_checkIndex_2214a 5 = .ok (.invokestatic 414, 3) := by decide +kernel
theorem dJ2_checkIndex_2214a_8 : decode cJ2_checkIndex_2214a 8 = .ok (.return_, 1) := by decide +kernel
theorem dJ3_checkIndex_8e157_0 : decode cJ3_checkIndex_8e157 0 = .ok (.iload_n 0, 1) := by decide +kernel
theorem dJ3_checkIndex_8e157_1 : decode cJ3_checkIndex_8e157 1 = .ok (.ifCond .lt 8, 3) := by decide +kernel
theorem dJ3_checkIndex_8e157_4 : decode cJ3_checkIndex_8e157 4 = .ok (.iload_n 0, 1) := by decide +kernel
theorem dJ3_checkIndex_8e157_5 : decode cJ3_checkIndex_8e157 5 = .ok (.iload_n 1, 1) := by decide +kernel
theorem dJ3_checkIndex_8e157_6 : decode cJ3_checkIndex_8e157 6 = .ok (.if_icmp .lt 10, 3) := by decide +kernel
theorem dJ3_checkIndex_8e157_9 : decode cJ3_checkIndex_8e157 9 = .ok (.aload_n 2, 1) := by decide +kernel
theorem dJ3_checkIndex_8e157_10 : decode cJ3_checkIndex_8e157 10 = .ok (.iload_n 0, 1) := by decide +kernel
theorem dJ3_checkIndex_8e157_11 : decode cJ3_checkIndex_8e157 11 = .ok (.iload_n 1, 1) := by decide +kernel
theorem dJ3_checkIndex_8e157_12 : decode cJ3_checkIndex_8e157 12 = .ok (.invokestatic 95, 3) := by decide +kernel
theorem dJ3_checkIndex_8e157_15 : decode cJ3_checkIndex_8e157 15 = .ok (.athrow, 1) := by decide +kernel
theorem dJ3_checkIndex_8e157_16 : decode cJ3_checkIndex_8e157 16 = .ok (.iload_n 0, 1) := by decide +kernel
theorem dJ3_checkIndex_8e157_17 : decode cJ3_checkIndex_8e157 17 = .ok (.ireturn, 1) := by decide +kernel
theorem dL_law_0 : decode cL_law 0 = .ok (.new 7, 3) := by decide +kernel
theorem dL_law_3 : decode cL_law 3 = .ok (.dup, 1) := by decide +kernel
theorem dL_law_4 : decode cL_law 4 = .ok (.invokespecial 9, 3) := by decide +kernel
theorem dL_law_7 : decode cL_law 7 = .ok (.astore_n 1, 1) := by decide +kernel
theorem dL_law_8 : decode cL_law 8 = .ok (.new 10, 3) := by decide +kernel
theorem dL_law_11 : decode cL_law 11 = .ok (.dup, 1) := by decide +kernel
theorem dL_law_12 : decode cL_law 12 = .ok (.invokespecial 12, 3) := by decide +kernel
theorem dL_law_15 : decode cL_law 15 = .ok (.astore_n 2, 1) := by decide +kernel
theorem dL_law_16 : decode cL_law 16 = .ok (.iconst 0, 1) := by decide +kernel
theorem dL_law_17 : decode cL_law 17 = .ok (.istore_n 3, 1) := by decide +kernel
theorem dL_law_18 : decode cL_law 18 = .ok (.iload_n 3, 1) := by decide +kernel
theorem dL_law_19 : decode cL_law 19 = .ok (.aload_n 0, 1) := by decide +kernel
theorem dL_law_20 : decode cL_law 20 = .ok (.arraylength, 1) := by decide +kernel
theorem dL_law_21 : decode cL_law 21 = .ok (.iconst 4, 1) := by decide +kernel
theorem dL_law_22 : decode cL_law 22 = .ok (.isub, 1) := by decide +kernel
theorem dL_law_23 : decode cL_law 23 = .ok (.if_icmp .gt 551, 3) := by decide +kernel
theorem dL_law_26 : decode cL_law 26 = .ok (.aload_n 0, 1) := by decide +kernel
theorem dL_law_27 : decode cL_law 27 = .ok (.iload_n 3, 1) := by decide +kernel
theorem dL_law_28 : decode cL_law 28 = .ok (.iaload, 1) := by decide +kernel
theorem dL_law_29 : decode cL_law 29 = .ok (.bipush 31, 2) := by decide +kernel
theorem dL_law_31 : decode cL_law 31 = .ok (.iand, 1) := by decide +kernel
theorem dL_law_32 : decode cL_law 32 = .ok (.tableswitch 536 0 16 #[84, 107, 120, 143, 166, 199, 242, 265, 298, 311, 344, 377, 400, 433, 466, 499, 522], 84) := by decide +kernel
theorem dL_law_116 : decode cL_law 116 = .ok (.aload_n 1, 1) := by decide +kernel
theorem dL_law_117 : decode cL_law 117 = .ok (.aload_n 0, 1) := by decide +kernel
theorem dL_law_118 : decode cL_law 118 = .ok (.iload_n 3, 1) := by decide +kernel
theorem dL_law_119 : decode cL_law 119 = .ok (.iconst 1, 1) := by decide +kernel
theorem dL_law_120 : decode cL_law 120 = .ok (.iadd, 1) := by decide +kernel
theorem dL_law_121 : decode cL_law 121 = .ok (.iaload, 1) := by decide +kernel
theorem dL_law_122 : decode cL_law 122 = .ok (.invokevirtual 13, 3) := by decide +kernel
theorem dL_law_125 : decode cL_law 125 = .ok (.aload_n 2, 1) := by decide +kernel
theorem dL_law_126 : decode cL_law 126 = .ok (.aload_n 0, 1) := by decide +kernel
theorem dL_law_127 : decode cL_law 127 = .ok (.iload_n 3, 1) := by decide +kernel
theorem dL_law_128 : decode cL_law 128 = .ok (.iconst 1, 1) := by decide +kernel
theorem dL_law_129 : decode cL_law 129 = .ok (.iadd, 1) := by decide +kernel
theorem dL_law_130 : decode cL_law 130 = .ok (.iaload, 1) := by decide +kernel
theorem dL_law_131 : decode cL_law 131 = .ok (.invokevirtual 17, 3) := by decide +kernel
theorem dL_law_134 : decode cL_law 134 = .ok (.if_icmp .eq 434, 3) := by decide +kernel
theorem dL_law_137 : decode cL_law 137 = .ok (.iconst 0, 1) := by decide +kernel
theorem dL_law_138 : decode cL_law 138 = .ok (.ireturn, 1) := by decide +kernel
theorem dL_law_139 : decode cL_law 139 = .ok (.aload_n 1, 1) := by decide +kernel
theorem dL_law_140 : decode cL_law 140 = .ok (.invokevirtual 18, 3) := by decide +kernel
theorem dL_law_143 : decode cL_law 143 = .ok (.aload_n 2, 1) := by decide +kernel
theorem dL_law_144 : decode cL_law 144 = .ok (.invokevirtual 22, 3) := by decide +kernel
theorem dL_law_147 : decode cL_law 147 = .ok (.if_icmp .eq 421, 3) := by decide +kernel
theorem dL_law_150 : decode cL_law 150 = .ok (.iconst 0, 1) := by decide +kernel
theorem dL_law_151 : decode cL_law 151 = .ok (.ireturn, 1) := by decide +kernel
theorem dL_law_152 : decode cL_law 152 = .ok (.aload_n 1, 1) := by decide +kernel
theorem dL_law_153 : decode cL_law 153 = .ok (.aload_n 0, 1) := by decide +kernel
theorem dL_law_154 : decode cL_law 154 = .ok (.iload_n 3, 1) := by decide +kernel
theorem dL_law_155 : decode cL_law 155 = .ok (.iconst 1, 1) := by decide +kernel
theorem dL_law_156 : decode cL_law 156 = .ok (.iadd, 1) := by decide +kernel
theorem dL_law_157 : decode cL_law 157 = .ok (.iaload, 1) := by decide +kernel
theorem dL_law_158 : decode cL_law 158 = .ok (.invokevirtual 23, 3) := by decide +kernel
theorem dL_law_161 : decode cL_law 161 = .ok (.aload_n 2, 1) := by decide +kernel
theorem dL_law_162 : decode cL_law 162 = .ok (.aload_n 0, 1) := by decide +kernel
theorem dL_law_163 : decode cL_law 163 = .ok (.iload_n 3, 1) := by decide +kernel
theorem dL_law_164 : decode cL_law 164 = .ok (.iconst 1, 1) := by decide +kernel
theorem dL_law_165 : decode cL_law 165 = .ok (.iadd, 1) := by decide +kernel
theorem dL_law_166 : decode cL_law 166 = .ok (.iaload, 1) := by decide +kernel
theorem dL_law_167 : decode cL_law 167 = .ok (.invokevirtual 26, 3) := by decide +kernel
theorem dL_law_170 : decode cL_law 170 = .ok (.if_icmp .eq 398, 3) := by decide +kernel
theorem dL_law_173 : decode cL_law 173 = .ok (.iconst 0, 1) := by decide +kernel
theorem dL_law_174 : decode cL_law 174 = .ok (.ireturn, 1) := by decide +kernel
theorem dL_law_175 : decode cL_law 175 = .ok (.aload_n 1, 1) := by decide +kernel
theorem dL_law_176 : decode cL_law 176 = .ok (.aload_n 0, 1) := by decide +kernel
theorem dL_law_177 : decode cL_law 177 = .ok (.iload_n 3, 1) := by decide +kernel
theorem dL_law_178 : decode cL_law 178 = .ok (.iconst 1, 1) := by decide +kernel
theorem dL_law_179 : decode cL_law 179 = .ok (.iadd, 1) := by decide +kernel
theorem dL_law_180 : decode cL_law 180 = .ok (.iaload, 1) := by decide +kernel
theorem dL_law_181 : decode cL_law 181 = .ok (.invokevirtual 27, 3) := by decide +kernel
theorem dL_law_184 : decode cL_law 184 = .ok (.aload_n 2, 1) := by decide +kernel
theorem dL_law_185 : decode cL_law 185 = .ok (.aload_n 0, 1) := by decide +kernel
theorem dL_law_186 : decode cL_law 186 = .ok (.iload_n 3, 1) := by decide +kernel
theorem dL_law_187 : decode cL_law 187 = .ok (.iconst 1, 1) := by decide +kernel
theorem dL_law_188 : decode cL_law 188 = .ok (.iadd, 1) := by decide +kernel
theorem dL_law_189 : decode cL_law 189 = .ok (.iaload, 1) := by decide +kernel
theorem dL_law_190 : decode cL_law 190 = .ok (.invokevirtual 30, 3) := by decide +kernel
theorem dL_law_193 : decode cL_law 193 = .ok (.if_icmp .eq 375, 3) := by decide +kernel
theorem dL_law_196 : decode cL_law 196 = .ok (.iconst 0, 1) := by decide +kernel
theorem dL_law_197 : decode cL_law 197 = .ok (.ireturn, 1) := by decide +kernel
theorem dL_law_198 : decode cL_law 198 = .ok (.aload_n 1, 1) := by decide +kernel
theorem dL_law_199 : decode cL_law 199 = .ok (.aload_n 0, 1) := by decide +kernel
theorem dL_law_200 : decode cL_law 200 = .ok (.iload_n 3, 1) := by decide +kernel
theorem dL_law_201 : decode cL_law 201 = .ok (.iconst 1, 1) := by decide +kernel
theorem dL_law_202 : decode cL_law 202 = .ok (.iadd, 1) := by decide +kernel
theorem dL_law_203 : decode cL_law 203 = .ok (.iaload, 1) := by decide +kernel
theorem dL_law_204 : decode cL_law 204 = .ok (.aload_n 0, 1) := by decide +kernel
theorem dL_law_205 : decode cL_law 205 = .ok (.iload_n 3, 1) := by decide +kernel
theorem dL_law_206 : decode cL_law 206 = .ok (.iconst 2, 1) := by decide +kernel
theorem dL_law_207 : decode cL_law 207 = .ok (.iadd, 1) := by decide +kernel
theorem dL_law_208 : decode cL_law 208 = .ok (.iaload, 1) := by decide +kernel
theorem dL_law_209 : decode cL_law 209 = .ok (.invokevirtual 31, 3) := by decide +kernel
theorem dL_law_212 : decode cL_law 212 = .ok (.aload_n 2, 1) := by decide +kernel
theorem dL_law_213 : decode cL_law 213 = .ok (.aload_n 0, 1) := by decide +kernel
theorem dL_law_214 : decode cL_law 214 = .ok (.iload_n 3, 1) := by decide +kernel
theorem dL_law_215 : decode cL_law 215 = .ok (.iconst 1, 1) := by decide +kernel
theorem dL_law_216 : decode cL_law 216 = .ok (.iadd, 1) := by decide +kernel
theorem dL_law_217 : decode cL_law 217 = .ok (.iaload, 1) := by decide +kernel
theorem dL_law_218 : decode cL_law 218 = .ok (.aload_n 0, 1) := by decide +kernel
theorem dL_law_219 : decode cL_law 219 = .ok (.iload_n 3, 1) := by decide +kernel
theorem dL_law_220 : decode cL_law 220 = .ok (.iconst 2, 1) := by decide +kernel
theorem dL_law_221 : decode cL_law 221 = .ok (.iadd, 1) := by decide +kernel
theorem dL_law_222 : decode cL_law 222 = .ok (.iaload, 1) := by decide +kernel
theorem dL_law_223 : decode cL_law 223 = .ok (.invokevirtual 35, 3) := by decide +kernel
theorem dL_law_226 : decode cL_law 226 = .ok (.if_icmp .eq 342, 3) := by decide +kernel
theorem dL_law_229 : decode cL_law 229 = .ok (.iconst 0, 1) := by decide +kernel
theorem dL_law_230 : decode cL_law 230 = .ok (.ireturn, 1) := by decide +kernel
theorem dL_law_231 : decode cL_law 231 = .ok (.aload_n 1, 1) := by decide +kernel
theorem dL_law_232 : decode cL_law 232 = .ok (.aload_n 0, 1) := by decide +kernel
theorem dL_law_233 : decode cL_law 233 = .ok (.iload_n 3, 1) := by decide +kernel
theorem dL_law_234 : decode cL_law 234 = .ok (.iconst 1, 1) := by decide +kernel
theorem dL_law_235 : decode cL_law 235 = .ok (.iadd, 1) := by decide +kernel
theorem dL_law_236 : decode cL_law 236 = .ok (.iaload, 1) := by decide +kernel
theorem dL_law_237 : decode cL_law 237 = .ok (.aload_n 0, 1) := by decide +kernel
theorem dL_law_238 : decode cL_law 238 = .ok (.iload_n 3, 1) := by decide +kernel
theorem dL_law_239 : decode cL_law 239 = .ok (.iconst 2, 1) := by decide +kernel
theorem dL_law_240 : decode cL_law 240 = .ok (.iadd, 1) := by decide +kernel
theorem dL_law_241 : decode cL_law 241 = .ok (.iaload, 1) := by decide +kernel
theorem dL_law_242 : decode cL_law 242 = .ok (.aload_n 0, 1) := by decide +kernel
theorem dL_law_243 : decode cL_law 243 = .ok (.iload_n 3, 1) := by decide +kernel
theorem dL_law_244 : decode cL_law 244 = .ok (.iconst 3, 1) := by decide +kernel
theorem dL_law_245 : decode cL_law 245 = .ok (.iadd, 1) := by decide +kernel
theorem dL_law_246 : decode cL_law 246 = .ok (.iaload, 1) := by decide +kernel
theorem dL_law_247 : decode cL_law 247 = .ok (.invokevirtual 36, 3) := by decide +kernel
theorem dL_law_250 : decode cL_law 250 = .ok (.aload_n 2, 1) := by decide +kernel
theorem dL_law_251 : decode cL_law 251 = .ok (.aload_n 0, 1) := by decide +kernel
theorem dL_law_252 : decode cL_law 252 = .ok (.iload_n 3, 1) := by decide +kernel
theorem dL_law_253 : decode cL_law 253 = .ok (.iconst 1, 1) := by decide +kernel
theorem dL_law_254 : decode cL_law 254 = .ok (.iadd, 1) := by decide +kernel
theorem dL_law_255 : decode cL_law 255 = .ok (.iaload, 1) := by decide +kernel
theorem dL_law_256 : decode cL_law 256 = .ok (.aload_n 0, 1) := by decide +kernel
theorem dL_law_257 : decode cL_law 257 = .ok (.iload_n 3, 1) := by decide +kernel
theorem dL_law_258 : decode cL_law 258 = .ok (.iconst 2, 1) := by decide +kernel
theorem dL_law_259 : decode cL_law 259 = .ok (.iadd, 1) := by decide +kernel
theorem dL_law_260 : decode cL_law 260 = .ok (.iaload, 1) := by decide +kernel
theorem dL_law_261 : decode cL_law 261 = .ok (.aload_n 0, 1) := by decide +kernel
theorem dL_law_262 : decode cL_law 262 = .ok (.iload_n 3, 1) := by decide +kernel
theorem dL_law_263 : decode cL_law 263 = .ok (.iconst 3, 1) := by decide +kernel
theorem dL_law_264 : decode cL_law 264 = .ok (.iadd, 1) := by decide +kernel
theorem dL_law_265 : decode cL_law 265 = .ok (.iaload, 1) := by decide +kernel
theorem dL_law_266 : decode cL_law 266 = .ok (.invokevirtual 40, 3) := by decide +kernel
theorem dL_law_269 : decode cL_law 269 = .ok (.if_icmp .eq 299, 3) := by decide +kernel
theorem dL_law_272 : decode cL_law 272 = .ok (.iconst 0, 1) := by decide +kernel
theorem dL_law_273 : decode cL_law 273 = .ok (.ireturn, 1) := by decide +kernel
theorem dL_law_274 : decode cL_law 274 = .ok (.aload_n 1, 1) := by decide +kernel
theorem dL_law_275 : decode cL_law 275 = .ok (.aload_n 0, 1) := by decide +kernel
theorem dL_law_276 : decode cL_law 276 = .ok (.iload_n 3, 1) := by decide +kernel
theorem dL_law_277 : decode cL_law 277 = .ok (.iconst 1, 1) := by decide +kernel
theorem dL_law_278 : decode cL_law 278 = .ok (.iadd, 1) := by decide +kernel
theorem dL_law_279 : decode cL_law 279 = .ok (.iaload, 1) := by decide +kernel
theorem dL_law_280 : decode cL_law 280 = .ok (.invokevirtual 41, 3) := by decide +kernel
theorem dL_law_283 : decode cL_law 283 = .ok (.aload_n 2, 1) := by decide +kernel
theorem dL_law_284 : decode cL_law 284 = .ok (.aload_n 0, 1) := by decide +kernel
theorem dL_law_285 : decode cL_law 285 = .ok (.iload_n 3, 1) := by decide +kernel
theorem dL_law_286 : decode cL_law 286 = .ok (.iconst 1, 1) := by decide +kernel
theorem dL_law_287 : decode cL_law 287 = .ok (.iadd, 1) := by decide +kernel
theorem dL_law_288 : decode cL_law 288 = .ok (.iaload, 1) := by decide +kernel
theorem dL_law_289 : decode cL_law 289 = .ok (.invokevirtual 44, 3) := by decide +kernel
theorem dL_law_292 : decode cL_law 292 = .ok (.if_icmp .eq 276, 3) := by decide +kernel
theorem dL_law_295 : decode cL_law 295 = .ok (.iconst 0, 1) := by decide +kernel
theorem dL_law_296 : decode cL_law 296 = .ok (.ireturn, 1) := by decide +kernel
theorem dL_law_297 : decode cL_law 297 = .ok (.aload_n 1, 1) := by decide +kernel
theorem dL_law_298 : decode cL_law 298 = .ok (.aload_n 0, 1) := by decide +kernel
theorem dL_law_299 : decode cL_law 299 = .ok (.iload_n 3, 1) := by decide +kernel
theorem dL_law_300 : decode cL_law 300 = .ok (.iconst 1, 1) := by decide +kernel
theorem dL_law_301 : decode cL_law 301 = .ok (.iadd, 1) := by decide +kernel
theorem dL_law_302 : decode cL_law 302 = .ok (.iaload, 1) := by decide +kernel
theorem dL_law_303 : decode cL_law 303 = .ok (.aload_n 0, 1) := by decide +kernel
theorem dL_law_304 : decode cL_law 304 = .ok (.iload_n 3, 1) := by decide +kernel
theorem dL_law_305 : decode cL_law 305 = .ok (.iconst 2, 1) := by decide +kernel
theorem dL_law_306 : decode cL_law 306 = .ok (.iadd, 1) := by decide +kernel
theorem dL_law_307 : decode cL_law 307 = .ok (.iaload, 1) := by decide +kernel
theorem dL_law_308 : decode cL_law 308 = .ok (.invokevirtual 45, 3) := by decide +kernel
theorem dL_law_311 : decode cL_law 311 = .ok (.aload_n 2, 1) := by decide +kernel
theorem dL_law_312 : decode cL_law 312 = .ok (.aload_n 0, 1) := by decide +kernel
theorem dL_law_313 : decode cL_law 313 = .ok (.iload_n 3, 1) := by decide +kernel
theorem dL_law_314 : decode cL_law 314 = .ok (.iconst 1, 1) := by decide +kernel
theorem dL_law_315 : decode cL_law 315 = .ok (.iadd, 1) := by decide +kernel
theorem dL_law_316 : decode cL_law 316 = .ok (.iaload, 1) := by decide +kernel
theorem dL_law_317 : decode cL_law 317 = .ok (.aload_n 0, 1) := by decide +kernel
theorem dL_law_318 : decode cL_law 318 = .ok (.iload_n 3, 1) := by decide +kernel
theorem dL_law_319 : decode cL_law 319 = .ok (.iconst 2, 1) := by decide +kernel
theorem dL_law_320 : decode cL_law 320 = .ok (.iadd, 1) := by decide +kernel
theorem dL_law_321 : decode cL_law 321 = .ok (.iaload, 1) := by decide +kernel
theorem dL_law_322 : decode cL_law 322 = .ok (.invokevirtual 48, 3) := by decide +kernel
theorem dL_law_325 : decode cL_law 325 = .ok (.if_icmp .eq 243, 3) := by decide +kernel
theorem dL_law_328 : decode cL_law 328 = .ok (.iconst 0, 1) := by decide +kernel
theorem dL_law_329 : decode cL_law 329 = .ok (.ireturn, 1) := by decide +kernel
theorem dL_law_330 : decode cL_law 330 = .ok (.aload_n 1, 1) := by decide +kernel
theorem dL_law_331 : decode cL_law 331 = .ok (.invokevirtual 49, 3) := by decide +kernel
theorem dL_law_334 : decode cL_law 334 = .ok (.aload_n 2, 1) := by decide +kernel
theorem dL_law_335 : decode cL_law 335 = .ok (.invokevirtual 52, 3) := by decide +kernel
theorem dL_law_338 : decode cL_law 338 = .ok (.if_icmp .eq 230, 3) := by decide +kernel
theorem dL_law_341 : decode cL_law 341 = .ok (.iconst 0, 1) := by decide +kernel
theorem dL_law_342 : decode cL_law 342 = .ok (.ireturn, 1) := by decide +kernel
theorem dL_law_343 : decode cL_law 343 = .ok (.aload_n 1, 1) := by decide +kernel
theorem dL_law_344 : decode cL_law 344 = .ok (.aload_n 0, 1) := by decide +kernel
theorem dL_law_345 : decode cL_law 345 = .ok (.iload_n 3, 1) := by decide +kernel
theorem dL_law_346 : decode cL_law 346 = .ok (.iconst 1, 1) := by decide +kernel
theorem dL_law_347 : decode cL_law 347 = .ok (.iadd, 1) := by decide +kernel
theorem dL_law_348 : decode cL_law 348 = .ok (.iaload, 1) := by decide +kernel
theorem dL_law_349 : decode cL_law 349 = .ok (.aload_n 0, 1) := by decide +kernel
theorem dL_law_350 : decode cL_law 350 = .ok (.iload_n 3, 1) := by decide +kernel
theorem dL_law_351 : decode cL_law 351 = .ok (.iconst 2, 1) := by decide +kernel
theorem dL_law_352 : decode cL_law 352 = .ok (.iadd, 1) := by decide +kernel
theorem dL_law_353 : decode cL_law 353 = .ok (.iaload, 1) := by decide +kernel
theorem dL_law_354 : decode cL_law 354 = .ok (.invokevirtual 53, 3) := by decide +kernel
theorem dL_law_357 : decode cL_law 357 = .ok (.aload_n 2, 1) := by decide +kernel
theorem dL_law_358 : decode cL_law 358 = .ok (.aload_n 0, 1) := by decide +kernel
theorem dL_law_359 : decode cL_law 359 = .ok (.iload_n 3, 1) := by decide +kernel
theorem dL_law_360 : decode cL_law 360 = .ok (.iconst 1, 1) := by decide +kernel
theorem dL_law_361 : decode cL_law 361 = .ok (.iadd, 1) := by decide +kernel
theorem dL_law_362 : decode cL_law 362 = .ok (.iaload, 1) := by decide +kernel
theorem dL_law_363 : decode cL_law 363 = .ok (.aload_n 0, 1) := by decide +kernel
theorem dL_law_364 : decode cL_law 364 = .ok (.iload_n 3, 1) := by decide +kernel
theorem dL_law_365 : decode cL_law 365 = .ok (.iconst 2, 1) := by decide +kernel
theorem dL_law_366 : decode cL_law 366 = .ok (.iadd, 1) := by decide +kernel
theorem dL_law_367 : decode cL_law 367 = .ok (.iaload, 1) := by decide +kernel
theorem dL_law_368 : decode cL_law 368 = .ok (.invokevirtual 56, 3) := by decide +kernel
theorem dL_law_371 : decode cL_law 371 = .ok (.if_icmp .eq 197, 3) := by decide +kernel
theorem dL_law_374 : decode cL_law 374 = .ok (.iconst 0, 1) := by decide +kernel
theorem dL_law_375 : decode cL_law 375 = .ok (.ireturn, 1) := by decide +kernel
theorem dL_law_376 : decode cL_law 376 = .ok (.aload_n 1, 1) := by decide +kernel
theorem dL_law_377 : decode cL_law 377 = .ok (.aload_n 0, 1) := by decide +kernel
theorem dL_law_378 : decode cL_law 378 = .ok (.iload_n 3, 1) := by decide +kernel
theorem dL_law_379 : decode cL_law 379 = .ok (.iconst 1, 1) := by decide +kernel
theorem dL_law_380 : decode cL_law 380 = .ok (.iadd, 1) := by decide +kernel
theorem dL_law_381 : decode cL_law 381 = .ok (.iaload, 1) := by decide +kernel
theorem dL_law_382 : decode cL_law 382 = .ok (.aload_n 0, 1) := by decide +kernel
theorem dL_law_383 : decode cL_law 383 = .ok (.iload_n 3, 1) := by decide +kernel
theorem dL_law_384 : decode cL_law 384 = .ok (.iconst 2, 1) := by decide +kernel
theorem dL_law_385 : decode cL_law 385 = .ok (.iadd, 1) := by decide +kernel
theorem dL_law_386 : decode cL_law 386 = .ok (.iaload, 1) := by decide +kernel
theorem dL_law_387 : decode cL_law 387 = .ok (.invokevirtual 57, 3) := by decide +kernel
theorem dL_law_390 : decode cL_law 390 = .ok (.aload_n 2, 1) := by decide +kernel
theorem dL_law_391 : decode cL_law 391 = .ok (.aload_n 0, 1) := by decide +kernel
theorem dL_law_392 : decode cL_law 392 = .ok (.iload_n 3, 1) := by decide +kernel
theorem dL_law_393 : decode cL_law 393 = .ok (.iconst 1, 1) := by decide +kernel
theorem dL_law_394 : decode cL_law 394 = .ok (.iadd, 1) := by decide +kernel
theorem dL_law_395 : decode cL_law 395 = .ok (.iaload, 1) := by decide +kernel
theorem dL_law_396 : decode cL_law 396 = .ok (.aload_n 0, 1) := by decide +kernel
theorem dL_law_397 : decode cL_law 397 = .ok (.iload_n 3, 1) := by decide +kernel
theorem dL_law_398 : decode cL_law 398 = .ok (.iconst 2, 1) := by decide +kernel
theorem dL_law_399 : decode cL_law 399 = .ok (.iadd, 1) := by decide +kernel
theorem dL_law_400 : decode cL_law 400 = .ok (.iaload, 1) := by decide +kernel
theorem dL_law_401 : decode cL_law 401 = .ok (.invokevirtual 60, 3) := by decide +kernel
theorem dL_law_404 : decode cL_law 404 = .ok (.if_icmp .eq 164, 3) := by decide +kernel
theorem dL_law_407 : decode cL_law 407 = .ok (.iconst 0, 1) := by decide +kernel
theorem dL_law_408 : decode cL_law 408 = .ok (.ireturn, 1) := by decide +kernel
theorem dL_law_409 : decode cL_law 409 = .ok (.aload_n 1, 1) := by decide +kernel
theorem dL_law_410 : decode cL_law 410 = .ok (.aload_n 0, 1) := by decide +kernel
theorem dL_law_411 : decode cL_law 411 = .ok (.iload_n 3, 1) := by decide +kernel
theorem dL_law_412 : decode cL_law 412 = .ok (.iconst 1, 1) := by decide +kernel
theorem dL_law_413 : decode cL_law 413 = .ok (.iadd, 1) := by decide +kernel
theorem dL_law_414 : decode cL_law 414 = .ok (.iaload, 1) := by decide +kernel
theorem dL_law_415 : decode cL_law 415 = .ok (.invokevirtual 61, 3) := by decide +kernel
theorem dL_law_418 : decode cL_law 418 = .ok (.aload_n 2, 1) := by decide +kernel
theorem dL_law_419 : decode cL_law 419 = .ok (.aload_n 0, 1) := by decide +kernel
theorem dL_law_420 : decode cL_law 420 = .ok (.iload_n 3, 1) := by decide +kernel
theorem dL_law_421 : decode cL_law 421 = .ok (.iconst 1, 1) := by decide +kernel
theorem dL_law_422 : decode cL_law 422 = .ok (.iadd, 1) := by decide +kernel
theorem dL_law_423 : decode cL_law 423 = .ok (.iaload, 1) := by decide +kernel
theorem dL_law_424 : decode cL_law 424 = .ok (.invokevirtual 64, 3) := by decide +kernel
theorem dL_law_427 : decode cL_law 427 = .ok (.if_icmp .eq 141, 3) := by decide +kernel
theorem dL_law_430 : decode cL_law 430 = .ok (.iconst 0, 1) := by decide +kernel
theorem dL_law_431 : decode cL_law 431 = .ok (.ireturn, 1) := by decide +kernel
theorem dL_law_432 : decode cL_law 432 = .ok (.aload_n 1, 1) := by decide +kernel
theorem dL_law_433 : decode cL_law 433 = .ok (.aload_n 0, 1) := by decide +kernel
theorem dL_law_434 : decode cL_law 434 = .ok (.iload_n 3, 1) := by decide +kernel
theorem dL_law_435 : decode cL_law 435 = .ok (.iconst 1, 1) := by decide +kernel
theorem dL_law_436 : decode cL_law 436 = .ok (.iadd, 1) := by decide +kernel
theorem dL_law_437 : decode cL_law 437 = .ok (.iaload, 1) := by decide +kernel
theorem dL_law_438 : decode cL_law 438 = .ok (.aload_n 0, 1) := by decide +kernel
theorem dL_law_439 : decode cL_law 439 = .ok (.iload_n 3, 1) := by decide +kernel
theorem dL_law_440 : decode cL_law 440 = .ok (.iconst 2, 1) := by decide +kernel
theorem dL_law_441 : decode cL_law 441 = .ok (.iadd, 1) := by decide +kernel
theorem dL_law_442 : decode cL_law 442 = .ok (.iaload, 1) := by decide +kernel
theorem dL_law_443 : decode cL_law 443 = .ok (.invokevirtual 65, 3) := by decide +kernel
theorem dL_law_446 : decode cL_law 446 = .ok (.aload_n 2, 1) := by decide +kernel
theorem dL_law_447 : decode cL_law 447 = .ok (.aload_n 0, 1) := by decide +kernel
theorem dL_law_448 : decode cL_law 448 = .ok (.iload_n 3, 1) := by decide +kernel
theorem dL_law_449 : decode cL_law 449 = .ok (.iconst 1, 1) := by decide +kernel
theorem dL_law_450 : decode cL_law 450 = .ok (.iadd, 1) := by decide +kernel
theorem dL_law_451 : decode cL_law 451 = .ok (.iaload, 1) := by decide +kernel
theorem dL_law_452 : decode cL_law 452 = .ok (.aload_n 0, 1) := by decide +kernel
theorem dL_law_453 : decode cL_law 453 = .ok (.iload_n 3, 1) := by decide +kernel
theorem dL_law_454 : decode cL_law 454 = .ok (.iconst 2, 1) := by decide +kernel
theorem dL_law_455 : decode cL_law 455 = .ok (.iadd, 1) := by decide +kernel
theorem dL_law_456 : decode cL_law 456 = .ok (.iaload, 1) := by decide +kernel
theorem dL_law_457 : decode cL_law 457 = .ok (.invokevirtual 68, 3) := by decide +kernel
theorem dL_law_460 : decode cL_law 460 = .ok (.if_icmp .eq 108, 3) := by decide +kernel
theorem dL_law_463 : decode cL_law 463 = .ok (.iconst 0, 1) := by decide +kernel
theorem dL_law_464 : decode cL_law 464 = .ok (.ireturn, 1) := by decide +kernel
theorem dL_law_465 : decode cL_law 465 = .ok (.aload_n 1, 1) := by decide +kernel
theorem dL_law_466 : decode cL_law 466 = .ok (.aload_n 0, 1) := by decide +kernel
theorem dL_law_467 : decode cL_law 467 = .ok (.iload_n 3, 1) := by decide +kernel
theorem dL_law_468 : decode cL_law 468 = .ok (.iconst 1, 1) := by decide +kernel
theorem dL_law_469 : decode cL_law 469 = .ok (.iadd, 1) := by decide +kernel
theorem dL_law_470 : decode cL_law 470 = .ok (.iaload, 1) := by decide +kernel
theorem dL_law_471 : decode cL_law 471 = .ok (.aload_n 0, 1) := by decide +kernel
theorem dL_law_472 : decode cL_law 472 = .ok (.iload_n 3, 1) := by decide +kernel
theorem dL_law_473 : decode cL_law 473 = .ok (.iconst 2, 1) := by decide +kernel
theorem dL_law_474 : decode cL_law 474 = .ok (.iadd, 1) := by decide +kernel
theorem dL_law_475 : decode cL_law 475 = .ok (.iaload, 1) := by decide +kernel
theorem dL_law_476 : decode cL_law 476 = .ok (.invokevirtual 69, 3) := by decide +kernel
theorem dL_law_479 : decode cL_law 479 = .ok (.aload_n 2, 1) := by decide +kernel
theorem dL_law_480 : decode cL_law 480 = .ok (.aload_n 0, 1) := by decide +kernel
theorem dL_law_481 : decode cL_law 481 = .ok (.iload_n 3, 1) := by decide +kernel
theorem dL_law_482 : decode cL_law 482 = .ok (.iconst 1, 1) := by decide +kernel
theorem dL_law_483 : decode cL_law 483 = .ok (.iadd, 1) := by decide +kernel
theorem dL_law_484 : decode cL_law 484 = .ok (.iaload, 1) := by decide +kernel
theorem dL_law_485 : decode cL_law 485 = .ok (.aload_n 0, 1) := by decide +kernel
theorem dL_law_486 : decode cL_law 486 = .ok (.iload_n 3, 1) := by decide +kernel
theorem dL_law_487 : decode cL_law 487 = .ok (.iconst 2, 1) := by decide +kernel
theorem dL_law_488 : decode cL_law 488 = .ok (.iadd, 1) := by decide +kernel
theorem dL_law_489 : decode cL_law 489 = .ok (.iaload, 1) := by decide +kernel
theorem dL_law_490 : decode cL_law 490 = .ok (.invokevirtual 72, 3) := by decide +kernel
theorem dL_law_493 : decode cL_law 493 = .ok (.if_icmp .eq 75, 3) := by decide +kernel
theorem dL_law_496 : decode cL_law 496 = .ok (.iconst 0, 1) := by decide +kernel
theorem dL_law_497 : decode cL_law 497 = .ok (.ireturn, 1) := by decide +kernel
theorem dL_law_498 : decode cL_law 498 = .ok (.aload_n 1, 1) := by decide +kernel
theorem dL_law_499 : decode cL_law 499 = .ok (.aload_n 0, 1) := by decide +kernel
theorem dL_law_500 : decode cL_law 500 = .ok (.iload_n 3, 1) := by decide +kernel
theorem dL_law_501 : decode cL_law 501 = .ok (.iconst 1, 1) := by decide +kernel
theorem dL_law_502 : decode cL_law 502 = .ok (.iadd, 1) := by decide +kernel
theorem dL_law_503 : decode cL_law 503 = .ok (.iaload, 1) := by decide +kernel
theorem dL_law_504 : decode cL_law 504 = .ok (.aload_n 0, 1) := by decide +kernel
theorem dL_law_505 : decode cL_law 505 = .ok (.iload_n 3, 1) := by decide +kernel
theorem dL_law_506 : decode cL_law 506 = .ok (.iconst 2, 1) := by decide +kernel
theorem dL_law_507 : decode cL_law 507 = .ok (.iadd, 1) := by decide +kernel
theorem dL_law_508 : decode cL_law 508 = .ok (.iaload, 1) := by decide +kernel
theorem dL_law_509 : decode cL_law 509 = .ok (.invokevirtual 73, 3) := by decide +kernel
theorem dL_law_512 : decode cL_law 512 = .ok (.aload_n 2, 1) := by decide +kernel
theorem dL_law_513 : decode cL_law 513 = .ok (.aload_n 0, 1) := by decide +kernel
theorem dL_law_514 : decode cL_law 514 = .ok (.iload_n 3, 1) := by decide +kernel
theorem dL_law_515 : decode cL_law 515 = .ok (.iconst 1, 1) := by decide +kernel
theorem dL_law_516 : decode cL_law 516 = .ok (.iadd, 1) := by decide +kernel
theorem dL_law_517 : decode cL_law 517 = .ok (.iaload, 1) := by decide +kernel
theorem dL_law_518 : decode cL_law 518 = .ok (.aload_n 0, 1) := by decide +kernel
theorem dL_law_519 : decode cL_law 519 = .ok (.iload_n 3, 1) := by decide +kernel
theorem dL_law_520 : decode cL_law 520 = .ok (.iconst 2, 1) := by decide +kernel
theorem dL_law_521 : decode cL_law 521 = .ok (.iadd, 1) := by decide +kernel
theorem dL_law_522 : decode cL_law 522 = .ok (.iaload, 1) := by decide +kernel
theorem dL_law_523 : decode cL_law 523 = .ok (.invokevirtual 76, 3) := by decide +kernel
theorem dL_law_526 : decode cL_law 526 = .ok (.if_icmp .eq 42, 3) := by decide +kernel
theorem dL_law_529 : decode cL_law 529 = .ok (.iconst 0, 1) := by decide +kernel
theorem dL_law_530 : decode cL_law 530 = .ok (.ireturn, 1) := by decide +kernel
theorem dL_law_531 : decode cL_law 531 = .ok (.aload_n 1, 1) := by decide +kernel
theorem dL_law_532 : decode cL_law 532 = .ok (.aload_n 0, 1) := by decide +kernel
theorem dL_law_533 : decode cL_law 533 = .ok (.iload_n 3, 1) := by decide +kernel
theorem dL_law_534 : decode cL_law 534 = .ok (.iconst 1, 1) := by decide +kernel
theorem dL_law_535 : decode cL_law 535 = .ok (.iadd, 1) := by decide +kernel
theorem dL_law_536 : decode cL_law 536 = .ok (.iaload, 1) := by decide +kernel
theorem dL_law_537 : decode cL_law 537 = .ok (.invokevirtual 77, 3) := by decide +kernel
theorem dL_law_540 : decode cL_law 540 = .ok (.aload_n 2, 1) := by decide +kernel
theorem dL_law_541 : decode cL_law 541 = .ok (.aload_n 0, 1) := by decide +kernel
theorem dL_law_542 : decode cL_law 542 = .ok (.iload_n 3, 1) := by decide +kernel
theorem dL_law_543 : decode cL_law 543 = .ok (.iconst 1, 1) := by decide +kernel
theorem dL_law_544 : decode cL_law 544 = .ok (.iadd, 1) := by decide +kernel
theorem dL_law_545 : decode cL_law 545 = .ok (.iaload, 1) := by decide +kernel
theorem dL_law_546 : decode cL_law 546 = .ok (.invokevirtual 80, 3) := by decide +kernel
theorem dL_law_549 : decode cL_law 549 = .ok (.if_icmp .eq 19, 3) := by decide +kernel
theorem dL_law_552 : decode cL_law 552 = .ok (.iconst 0, 1) := by decide +kernel
theorem dL_law_553 : decode cL_law 553 = .ok (.ireturn, 1) := by decide +kernel
theorem dL_law_554 : decode cL_law 554 = .ok (.aload_n 1, 1) := by decide +kernel
theorem dL_law_555 : decode cL_law 555 = .ok (.invokevirtual 81, 3) := by decide +kernel
theorem dL_law_558 : decode cL_law 558 = .ok (.aload_n 2, 1) := by decide +kernel
theorem dL_law_559 : decode cL_law 559 = .ok (.invokevirtual 85, 3) := by decide +kernel
theorem dL_law_562 : decode cL_law 562 = .ok (.lcmp, 1) := by decide +kernel
theorem dL_law_563 : decode cL_law 563 = .ok (.ifCond .eq 5, 3) := by decide +kernel
theorem dL_law_566 : decode cL_law 566 = .ok (.iconst 0, 1) := by decide +kernel
theorem dL_law_567 : decode cL_law 567 = .ok (.ireturn, 1) := by decide +kernel
theorem dL_law_568 : decode cL_law 568 = .ok (.iinc 3 4, 3) := by decide +kernel
theorem dL_law_571 : decode cL_law 571 = .ok (.goto (-553), 3) := by decide +kernel
theorem dL_law_574 : decode cL_law 574 = .ok (.iconst 1, 1) := by decide +kernel
theorem dL_law_575 : decode cL_law 575 = .ok (.ireturn, 1) := by decide +kernel

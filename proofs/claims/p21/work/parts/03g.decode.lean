theorem dL_isHome_100 : decode cL_isHome 100 = .ok (.ifCond .eq 46, 3) := by decide +kernel
theorem dL_isHome_103 : decode cL_isHome 103 = .ok (.aload_n 0, 1) := by decide +kernel
theorem dL_isHome_104 : decode cL_isHome 104 = .ok (.iload_n 1, 1) := by decide +kernel
theorem dL_isHome_105 : decode cL_isHome 105 = .ok (.iload 9, 2) := by decide +kernel
theorem dL_isHome_107 : decode cL_isHome 107 = .ok (.invokevirtual 84, 3) := by decide +kernel
theorem dL_isHome_110 : decode cL_isHome 110 = .ok (.aload 5, 2) := by decide +kernel
theorem dL_isHome_112 : decode cL_isHome 112 = .ok (.iload 9, 2) := by decide +kernel
theorem dL_isHome_114 : decode cL_isHome 114 = .ok (.iaload, 1) := by decide +kernel
theorem dL_isHome_115 : decode cL_isHome 115 = .ok (.if_icmp .ne 22, 3) := by decide +kernel
theorem dL_isHome_118 : decode cL_isHome 118 = .ok (.aload_n 0, 1) := by decide +kernel
theorem dL_isHome_119 : decode cL_isHome 119 = .ok (.iload_n 1, 1) := by decide +kernel
theorem dL_isHome_120 : decode cL_isHome 120 = .ok (.iload 9, 2) := by decide +kernel
theorem dL_isHome_122 : decode cL_isHome 122 = .ok (.invokevirtual 87, 3) := by decide +kernel
theorem dL_isHome_125 : decode cL_isHome 125 = .ok (.aload 6, 2) := by decide +kernel
theorem dL_isHome_127 : decode cL_isHome 127 = .ok (.iload 9, 2) := by decide +kernel
theorem dL_isHome_129 : decode cL_isHome 129 = .ok (.iaload, 1) := by decide +kernel
theorem dL_isHome_130 : decode cL_isHome 130 = .ok (.if_icmp .ne 7, 3) := by decide +kernel
theorem dL_isHome_133 : decode cL_isHome 133 = .ok (.iconst 1, 1) := by decide +kernel
theorem dL_isHome_134 : decode cL_isHome 134 = .ok (.goto 4, 3) := by decide +kernel
theorem dL_isHome_137 : decode cL_isHome 137 = .ok (.iconst 0, 1) := by decide +kernel
theorem dL_isHome_138 : decode cL_isHome 138 = .ok (.istore 8, 2) := by decide +kernel
theorem dL_isHome_140 : decode cL_isHome 140 = .ok (.iinc 9 1, 3) := by decide +kernel
theorem dL_isHome_143 : decode cL_isHome 143 = .ok (.goto (-52), 3) := by decide +kernel
theorem dL_isHome_146 : decode cL_isHome 146 = .ok (.iconst 0, 1) := by decide +kernel
theorem dL_isHome_147 : decode cL_isHome 147 = .ok (.istore 9, 2) := by decide +kernel
theorem dL_isHome_149 : decode cL_isHome 149 = .ok (.iload 9, 2) := by decide +kernel
theorem dL_isHome_151 : decode cL_isHome 151 = .ok (.iconst 4, 1) := by decide +kernel
theorem dL_isHome_152 : decode cL_isHome 152 = .ok (.if_icmp .ge 185, 3) := by decide +kernel
theorem dL_isHome_155 : decode cL_isHome 155 = .ok (.iload 8, 2) := by decide +kernel
theorem dL_isHome_157 : decode cL_isHome 157 = .ok (.ifCond .eq 180, 3) := by decide +kernel
theorem dL_isHome_160 : decode cL_isHome 160 = .ok (.iload 9, 2) := by decide +kernel
theorem dL_isHome_162 : decode cL_isHome 162 = .ok (.ifCond .ne 13, 3) := by decide +kernel
theorem dL_isHome_165 : decode cL_isHome 165 = .ok (.aload 7, 2) := by decide +kernel
theorem dL_isHome_167 : decode cL_isHome 167 = .ok (.iconst 0, 1) := by decide +kernel
theorem dL_isHome_168 : decode cL_isHome 168 = .ok (.iaload, 1) := by decide +kernel
theorem dL_isHome_169 : decode cL_isHome 169 = .ok (.bipush 48, 2) := by decide +kernel
theorem dL_isHome_171 : decode cL_isHome 171 = .ok (.irem, 1) := by decide +kernel
theorem dL_isHome_172 : decode cL_isHome 172 = .ok (.goto 14, 3) := by decide +kernel
theorem dL_isHome_175 : decode cL_isHome 175 = .ok (.iload_n 2, 1) := by decide +kernel
theorem dL_isHome_176 : decode cL_isHome 176 = .ok (.iconst 3, 1) := by decide +kernel
theorem dL_isHome_177 : decode cL_isHome 177 = .ok (.iload 9, 2) := by decide +kernel
theorem dL_isHome_179 : decode cL_isHome 179 = .ok (.imul, 1) := by decide +kernel
theorem dL_isHome_180 : decode cL_isHome 180 = .ok (.ishr, 1) := by decide +kernel
theorem dL_isHome_181 : decode cL_isHome 181 = .ok (.bipush 48, 2) := by decide +kernel
theorem dL_isHome_183 : decode cL_isHome 183 = .ok (.invokestatic 90, 3) := by decide +kernel
theorem dL_isHome_186 : decode cL_isHome 186 = .ok (.istore 10, 2) := by decide +kernel
theorem dL_isHome_188 : decode cL_isHome 188 = .ok (.aload_n 0, 1) := by decide +kernel
theorem dL_isHome_189 : decode cL_isHome 189 = .ok (.iload_n 1, 1) := by decide +kernel
theorem dL_isHome_190 : decode cL_isHome 190 = .ok (.iload 10, 2) := by decide +kernel
theorem dL_isHome_192 : decode cL_isHome 192 = .ok (.invokevirtual 93, 3) := by decide +kernel
theorem dL_isHome_195 : decode cL_isHome 195 = .ok (.iload_n 1, 1) := by decide +kernel
theorem dL_isHome_196 : decode cL_isHome 196 = .ok (.iload 10, 2) := by decide +kernel
theorem dL_isHome_198 : decode cL_isHome 198 = .ok (.aload_n 3, 1) := by decide +kernel
theorem dL_isHome_199 : decode cL_isHome 199 = .ok (.aload 4, 2) := by decide +kernel
theorem dL_isHome_201 : decode cL_isHome 201 = .ok (.aload 7, 2) := by decide +kernel
theorem dL_isHome_203 : decode cL_isHome 203 = .ok (.invokestatic 43, 3) := by decide +kernel
theorem dL_isHome_206 : decode cL_isHome 206 = .ok (.if_icmp .ne 70, 3) := by decide +kernel
theorem dL_isHome_209 : decode cL_isHome 209 = .ok (.aload_n 0, 1) := by decide +kernel
theorem dL_isHome_210 : decode cL_isHome 210 = .ok (.iload_n 1, 1) := by decide +kernel
theorem dL_isHome_211 : decode cL_isHome 211 = .ok (.iload 10, 2) := by decide +kernel
theorem dL_isHome_213 : decode cL_isHome 213 = .ok (.invokevirtual 95, 3) := by decide +kernel
theorem dL_isHome_216 : decode cL_isHome 216 = .ok (.iload_n 1, 1) := by decide +kernel
theorem dL_isHome_217 : decode cL_isHome 217 = .ok (.iload 10, 2) := by decide +kernel
theorem dL_isHome_219 : decode cL_isHome 219 = .ok (.aload_n 3, 1) := by decide +kernel
theorem dL_isHome_220 : decode cL_isHome 220 = .ok (.aload 4, 2) := by decide +kernel
theorem dL_isHome_222 : decode cL_isHome 222 = .ok (.aload 7, 2) := by decide +kernel
theorem dL_isHome_224 : decode cL_isHome 224 = .ok (.invokestatic 47, 3) := by decide +kernel
theorem dL_isHome_227 : decode cL_isHome 227 = .ok (.if_icmp .ne 49, 3) := by decide +kernel
theorem dL_isHome_230 : decode cL_isHome 230 = .ok (.aload_n 0, 1) := by decide +kernel
theorem dL_isHome_231 : decode cL_isHome 231 = .ok (.iload_n 1, 1) := by decide +kernel
theorem dL_isHome_232 : decode cL_isHome 232 = .ok (.iload 10, 2) := by decide +kernel
theorem dL_isHome_234 : decode cL_isHome 234 = .ok (.invokevirtual 97, 3) := by decide +kernel
theorem dL_isHome_237 : decode cL_isHome 237 = .ok (.iload_n 1, 1) := by decide +kernel
theorem dL_isHome_238 : decode cL_isHome 238 = .ok (.iload 10, 2) := by decide +kernel
theorem dL_isHome_240 : decode cL_isHome 240 = .ok (.aload_n 3, 1) := by decide +kernel
theorem dL_isHome_241 : decode cL_isHome 241 = .ok (.aload 4, 2) := by decide +kernel
theorem dL_isHome_243 : decode cL_isHome 243 = .ok (.aload 7, 2) := by decide +kernel
theorem dL_isHome_245 : decode cL_isHome 245 = .ok (.invokestatic 50, 3) := by decide +kernel
theorem dL_isHome_248 : decode cL_isHome 248 = .ok (.if_icmp .ne 28, 3) := by decide +kernel
theorem dL_isHome_251 : decode cL_isHome 251 = .ok (.aload_n 0, 1) := by decide +kernel
theorem dL_isHome_252 : decode cL_isHome 252 = .ok (.iload_n 1, 1) := by decide +kernel
theorem dL_isHome_253 : decode cL_isHome 253 = .ok (.iload 10, 2) := by decide +kernel
theorem dL_isHome_255 : decode cL_isHome 255 = .ok (.invokevirtual 99, 3) := by decide +kernel
theorem dL_isHome_258 : decode cL_isHome 258 = .ok (.iload_n 1, 1) := by decide +kernel
theorem dL_isHome_259 : decode cL_isHome 259 = .ok (.iload 10, 2) := by decide +kernel
theorem dL_isHome_261 : decode cL_isHome 261 = .ok (.aload_n 3, 1) := by decide +kernel
theorem dL_isHome_262 : decode cL_isHome 262 = .ok (.aload 4, 2) := by decide +kernel
theorem dL_isHome_264 : decode cL_isHome 264 = .ok (.aload 7, 2) := by decide +kernel
theorem dL_isHome_266 : decode cL_isHome 266 = .ok (.invokestatic 54, 3) := by decide +kernel
theorem dL_isHome_269 : decode cL_isHome 269 = .ok (.if_icmp .ne 7, 3) := by decide +kernel
theorem dL_isHome_272 : decode cL_isHome 272 = .ok (.iconst 1, 1) := by decide +kernel
theorem dL_isHome_273 : decode cL_isHome 273 = .ok (.goto 4, 3) := by decide +kernel
theorem dL_isHome_276 : decode cL_isHome 276 = .ok (.iconst 0, 1) := by decide +kernel
theorem dL_isHome_277 : decode cL_isHome 277 = .ok (.istore 8, 2) := by decide +kernel
theorem dL_isHome_279 : decode cL_isHome 279 = .ok (.iconst 0, 1) := by decide +kernel
theorem dL_isHome_280 : decode cL_isHome 280 = .ok (.istore 11, 2) := by decide +kernel
theorem dL_isHome_282 : decode cL_isHome 282 = .ok (.iload 11, 2) := by decide +kernel
theorem dL_isHome_284 : decode cL_isHome 284 = .ok (.iconst 5, 1) := by decide +kernel
theorem dL_isHome_285 : decode cL_isHome 285 = .ok (.if_icmp .ge 46, 3) := by decide +kernel
theorem dL_isHome_288 : decode cL_isHome 288 = .ok (.iload 8, 2) := by decide +kernel
theorem dL_isHome_290 : decode cL_isHome 290 = .ok (.ifCond .eq 41, 3) := by decide +kernel
theorem dL_isHome_293 : decode cL_isHome 293 = .ok (.aload_n 0, 1) := by decide +kernel
theorem dL_isHome_294 : decode cL_isHome 294 = .ok (.iload_n 1, 1) := by decide +kernel
theorem dL_isHome_295 : decode cL_isHome 295 = .ok (.iload 11, 2) := by decide +kernel
theorem dL_isHome_297 : decode cL_isHome 297 = .ok (.iload 10, 2) := by decide +kernel
theorem dL_isHome_299 : decode cL_isHome 299 = .ok (.invokevirtual 101, 3) := by decide +kernel
theorem dL_isHome_302 : decode cL_isHome 302 = .ok (.iload_n 1, 1) := by decide +kernel
theorem dL_isHome_303 : decode cL_isHome 303 = .ok (.iload 11, 2) := by decide +kernel
theorem dL_isHome_305 : decode cL_isHome 305 = .ok (.iload 10, 2) := by decide +kernel
theorem dL_isHome_307 : decode cL_isHome 307 = .ok (.aload_n 3, 1) := by decide +kernel
theorem dL_isHome_308 : decode cL_isHome 308 = .ok (.aload 4, 2) := by decide +kernel
theorem dL_isHome_310 : decode cL_isHome 310 = .ok (.aload 7, 2) := by decide +kernel
theorem dL_isHome_312 : decode cL_isHome 312 = .ok (.invokestatic 29, 3) := by decide +kernel
theorem dL_isHome_315 : decode cL_isHome 315 = .ok (.if_icmp .ne 7, 3) := by decide +kernel
theorem dL_isHome_318 : decode cL_isHome 318 = .ok (.iconst 1, 1) := by decide +kernel
theorem dL_isHome_319 : decode cL_isHome 319 = .ok (.goto 4, 3) := by decide +kernel
theorem dL_isHome_322 : decode cL_isHome 322 = .ok (.iconst 0, 1) := by decide +kernel
theorem dL_isHome_323 : decode cL_isHome 323 = .ok (.istore 8, 2) := by decide +kernel
theorem dL_isHome_325 : decode cL_isHome 325 = .ok (.iinc 11 1, 3) := by decide +kernel
theorem dL_isHome_328 : decode cL_isHome 328 = .ok (.goto (-46), 3) := by decide +kernel
theorem dL_isHome_331 : decode cL_isHome 331 = .ok (.iinc 9 1, 3) := by decide +kernel
theorem dL_isHome_334 : decode cL_isHome 334 = .ok (.goto (-185), 3) := by decide +kernel
theorem dL_isHome_337 : decode cL_isHome 337 = .ok (.iload 8, 2) := by decide +kernel
theorem dL_isHome_339 : decode cL_isHome 339 = .ok (.ireturn, 1) := by decide +kernel
set_option maxRecDepth 20000 in
theorem ggL_tells_L_low : GoodIn wsL_tells wsL_low := goodIn_r _ [9, 10] (by decide +kernel) (by decide +kernel)
set_option maxRecDepth 20000 in
theorem gL_tells_L_low : GoodIn wsL_tells (va_wsS RL 90 yL_low wsL_low) := goodIn_app (goodIn_of _ (by decide +kernel)) ggL_tells_L_low
set_option maxRecDepth 20000 in
theorem ggL_tells_L_calls : GoodIn wsL_tells wsL_calls := goodIn_ca (goodIn_ca (goodIn_ca (goodIn_r _ [13, 14, 15, 16, 17, 18, 19, 20, 21, 22, 23, 24, 25, 26, 27, 28, 29, 30, 31, 32, 33, 34, 35, 36, 37, 38, 39, 40, 41, 42, 43, 44, 45, 46, 47, 48, 49, 50, 51, 52, 53, 54, 55, 56, 57, 58, 59, 60, 61, 62, 63, 64, 65, 66, 67, 68, 69, 70, 71, 72, 73, 74, 75, 76, 77, 78, 79, 80, 81, 82, 83, 84, 85, 86, 87, 88, 89, 90, 91, 92, 93, 94, 95, 96, 97, 98, 99, 100, 101, 102, 103, 104, 105, 106, 107, 108, 109, 110, 111, 112, 113, 114, 115, 116, 117, 118, 119, 120, 121, 122, 123, 124, 125, 126, 127, 128, 129, 130, 131, 132, 133, 134, 135, 136, 137, 138, 139, 140] (by decide +kernel) (by decide +kernel)) (goodIn_sub (fun _ h => List.mem_cons_of_mem _ (List.mem_append_left _ (List.mem_append_left _ (List.mem_append_right _ h)))) (by decide +kernel))) (goodIn_sub (fun _ h => List.mem_cons_of_mem _ (List.mem_append_left _ (List.mem_append_right _ h))) (by decide +kernel))) (goodIn_sub (fun _ h => List.mem_cons_of_mem _ (List.mem_append_right _ h)) (by decide +kernel))
set_option maxRecDepth 20000 in
theorem gL_tells_L_calls : GoodIn wsL_tells (va_wsS RL 109 yL_calls wsL_calls) := goodIn_app (goodIn_of _ (by decide +kernel)) ggL_tells_L_calls
theorem dL_tells_0 : decode cL_tells 0 = .ok (.iload_n 1, 1) := by decide +kernel
theorem dL_tells_1 : decode cL_tells 1 = .ok (.aload 4, 2) := by decide +kernel
theorem dL_tells_3 : decode cL_tells 3 = .ok (.iconst 1, 1) := by decide +kernel
theorem dL_tells_4 : decode cL_tells 4 = .ok (.iaload, 1) := by decide +kernel
theorem dL_tells_5 : decode cL_tells 5 = .ok (.invokestatic 90, 3) := by decide +kernel
theorem dL_tells_8 : decode cL_tells 8 = .ok (.istore 5, 2) := by decide +kernel
theorem dL_tells_10 : decode cL_tells 10 = .ok (.iload_n 1, 1) := by decide +kernel
theorem dL_tells_11 : decode cL_tells 11 = .ok (.iconst 2, 1) := by decide +kernel
theorem dL_tells_12 : decode cL_tells 12 = .ok (.ishr, 1) := by decide +kernel
theorem dL_tells_13 : decode cL_tells 13 = .ok (.bipush 9, 2) := by decide +kernel
theorem dL_tells_15 : decode cL_tells 15 = .ok (.invokestatic 90, 3) := by decide +kernel
theorem dL_tells_18 : decode cL_tells 18 = .ok (.istore 6, 2) := by decide +kernel
theorem dL_tells_20 : decode cL_tells 20 = .ok (.iload 6, 2) := by decide +kernel
theorem dL_tells_22 : decode cL_tells 22 = .ok (.iconst 4, 1) := by decide +kernel
theorem dL_tells_23 : decode cL_tells 23 = .ok (.if_icmp .le 7, 3) := by decide +kernel
theorem dL_tells_26 : decode cL_tells 26 = .ok (.iconst 3, 1) := by decide +kernel
theorem dL_tells_27 : decode cL_tells 27 = .ok (.goto 5, 3) := by decide +kernel
theorem dL_tells_30 : decode cL_tells 30 = .ok (.iload 6, 2) := by decide +kernel
theorem dL_tells_32 : decode cL_tells 32 = .ok (.istore 6, 2) := by decide +kernel
theorem dL_tells_34 : decode cL_tells 34 = .ok (.iload_n 1, 1) := by decide +kernel
theorem dL_tells_35 : decode cL_tells 35 = .ok (.bipush 14, 2) := by decide +kernel
theorem dL_tells_37 : decode cL_tells 37 = .ok (.ishr, 1) := by decide +kernel
theorem dL_tells_38 : decode cL_tells 38 = .ok (.iconst 3, 1) := by decide +kernel
theorem dL_tells_39 : decode cL_tells 39 = .ok (.invokestatic 90, 3) := by decide +kernel
theorem dL_tells_42 : decode cL_tells 42 = .ok (.ifCond .ne 15, 3) := by decide +kernel
theorem dL_tells_45 : decode cL_tells 45 = .ok (.iload_n 1, 1) := by decide +kernel
theorem dL_tells_46 : decode cL_tells 46 = .ok (.iconst 5, 1) := by decide +kernel
theorem dL_tells_47 : decode cL_tells 47 = .ok (.ishr, 1) := by decide +kernel
theorem dL_tells_48 : decode cL_tells 48 = .ok (.sipush 1440, 3) := by decide +kernel
theorem dL_tells_51 : decode cL_tells 51 = .ok (.invokestatic 90, 3) := by decide +kernel
theorem dL_tells_54 : decode cL_tells 54 = .ok (.goto 19, 3) := by decide +kernel
theorem dL_tells_57 : decode cL_tells 57 = .ok (.iload_n 1, 1) := by decide +kernel
theorem dL_tells_58 : decode cL_tells 58 = .ok (.iconst 5, 1) := by decide +kernel
theorem dL_tells_59 : decode cL_tells 59 = .ok (.ishr, 1) := by decide +kernel
theorem dL_tells_60 : decode cL_tells 60 = .ok (.bipush 30, 2) := by decide +kernel
theorem dL_tells_62 : decode cL_tells 62 = .ok (.aload 4, 2) := by decide +kernel
theorem dL_tells_64 : decode cL_tells 64 = .ok (.iconst 0, 1) := by decide +kernel
theorem dL_tells_65 : decode cL_tells 65 = .ok (.iaload, 1) := by decide +kernel
theorem dL_tells_66 : decode cL_tells 66 = .ok (.imul, 1) := by decide +kernel
theorem dL_tells_67 : decode cL_tells 67 = .ok (.bipush 45, 2) := by decide +kernel
theorem dL_tells_69 : decode cL_tells 69 = .ok (.iadd, 1) := by decide +kernel
theorem dL_tells_70 : decode cL_tells 70 = .ok (.invokestatic 90, 3) := by decide +kernel
theorem dL_tells_73 : decode cL_tells 73 = .ok (.istore 7, 2) := by decide +kernel
theorem dL_tells_75 : decode cL_tells 75 = .ok (.iload 7, 2) := by decide +kernel
theorem dL_tells_77 : decode cL_tells 77 = .ok (.sipush 1439, 3) := by decide +kernel
theorem dL_tells_80 : decode cL_tells 80 = .ok (.if_icmp .le 9, 3) := by decide +kernel
theorem dL_tells_83 : decode cL_tells 83 = .ok (.sipush 1439, 3) := by decide +kernel
theorem dL_tells_86 : decode cL_tells 86 = .ok (.goto 5, 3) := by decide +kernel
theorem dL_tells_89 : decode cL_tells 89 = .ok (.iload 7, 2) := by decide +kernel
theorem dL_tells_91 : decode cL_tells 91 = .ok (.istore 7, 2) := by decide +kernel
theorem dL_tells_93 : decode cL_tells 93 = .ok (.iload 6, 2) := by decide +kernel
theorem dL_tells_95 : decode cL_tells 95 = .ok (.ifCond .ne 16, 3) := by decide +kernel
theorem dL_tells_98 : decode cL_tells 98 = .ok (.iconst 1, 1) := by decide +kernel
theorem dL_tells_99 : decode cL_tells 99 = .ok (.iload_n 1, 1) := by decide +kernel
theorem dL_tells_100 : decode cL_tells 100 = .ok (.bipush 8, 2) := by decide +kernel
theorem dL_tells_102 : decode cL_tells 102 = .ok (.ishr, 1) := by decide +kernel
theorem dL_tells_103 : decode cL_tells 103 = .ok (.iconst 2, 1) := by decide +kernel
theorem dL_tells_104 : decode cL_tells 104 = .ok (.invokestatic 90, 3) := by decide +kernel
theorem dL_tells_107 : decode cL_tells 107 = .ok (.iadd, 1) := by decide +kernel
theorem dL_tells_108 : decode cL_tells 108 = .ok (.goto 113, 3) := by decide +kernel
theorem dL_tells_111 : decode cL_tells 111 = .ok (.iload 6, 2) := by decide +kernel
theorem dL_tells_113 : decode cL_tells 113 = .ok (.iconst 1, 1) := by decide +kernel
theorem dL_tells_114 : decode cL_tells 114 = .ok (.if_icmp .ne 15, 3) := by decide +kernel
theorem dL_tells_117 : decode cL_tells 117 = .ok (.iload_n 1, 1) := by decide +kernel
theorem dL_tells_118 : decode cL_tells 118 = .ok (.bipush 8, 2) := by decide +kernel
theorem dL_tells_120 : decode cL_tells 120 = .ok (.ishr, 1) := by decide +kernel
theorem dL_tells_121 : decode cL_tells 121 = .ok (.bipush 10, 2) := by decide +kernel
theorem dL_tells_123 : decode cL_tells 123 = .ok (.invokestatic 90, 3) := by decide +kernel
theorem dL_tells_126 : decode cL_tells 126 = .ok (.goto 95, 3) := by decide +kernel
theorem dL_tells_129 : decode cL_tells 129 = .ok (.iload 6, 2) := by decide +kernel
theorem dL_tells_131 : decode cL_tells 131 = .ok (.iconst 2, 1) := by decide +kernel
theorem dL_tells_132 : decode cL_tells 132 = .ok (.if_icmp .ne 31, 3) := by decide +kernel
theorem dL_tells_135 : decode cL_tells 135 = .ok (.iload_n 1, 1) := by decide +kernel
theorem dL_tells_136 : decode cL_tells 136 = .ok (.bipush 6, 2) := by decide +kernel
theorem dL_tells_138 : decode cL_tells 138 = .ok (.ishr, 1) := by decide +kernel
theorem dL_tells_139 : decode cL_tells 139 = .ok (.iload_n 1, 1) := by decide +kernel
theorem dL_tells_140 : decode cL_tells 140 = .ok (.bipush 15, 2) := by decide +kernel
theorem dL_tells_142 : decode cL_tells 142 = .ok (.ishr, 1) := by decide +kernel
theorem dL_tells_143 : decode cL_tells 143 = .ok (.iconst 3, 1) := by decide +kernel
theorem dL_tells_144 : decode cL_tells 144 = .ok (.invokestatic 90, 3) := by decide +kernel
theorem dL_tells_147 : decode cL_tells 147 = .ok (.ifCond .ne 8, 3) := by decide +kernel
theorem dL_tells_150 : decode cL_tells 150 = .ok (.ldc 104, 2) := by decide +kernel
theorem dL_tells_152 : decode cL_tells 152 = .ok (.goto 5, 3) := by decide +kernel
theorem dL_tells_155 : decode cL_tells 155 = .ok (.ldc 105, 2) := by decide +kernel
theorem dL_tells_157 : decode cL_tells 157 = .ok (.invokestatic 90, 3) := by decide +kernel
theorem dL_tells_160 : decode cL_tells 160 = .ok (.goto 61, 3) := by decide +kernel
theorem dL_tells_163 : decode cL_tells 163 = .ok (.iload 6, 2) := by decide +kernel
theorem dL_tells_165 : decode cL_tells 165 = .ok (.iconst 3, 1) := by decide +kernel
theorem dL_tells_166 : decode cL_tells 166 = .ok (.if_icmp .ne 31, 3) := by decide +kernel
theorem dL_tells_169 : decode cL_tells 169 = .ok (.iload_n 1, 1) := by decide +kernel
theorem dL_tells_170 : decode cL_tells 170 = .ok (.bipush 6, 2) := by decide +kernel
theorem dL_tells_172 : decode cL_tells 172 = .ok (.ishr, 1) := by decide +kernel
theorem dL_tells_173 : decode cL_tells 173 = .ok (.iload_n 1, 1) := by decide +kernel
theorem dL_tells_174 : decode cL_tells 174 = .ok (.bipush 15, 2) := by decide +kernel
theorem dL_tells_176 : decode cL_tells 176 = .ok (.ishr, 1) := by decide +kernel
theorem dL_tells_177 : decode cL_tells 177 = .ok (.iconst 5, 1) := by decide +kernel
theorem dL_tells_178 : decode cL_tells 178 = .ok (.invokestatic 90, 3) := by decide +kernel
theorem dL_tells_181 : decode cL_tells 181 = .ok (.ifCond .ne 8, 3) := by decide +kernel
theorem dL_tells_184 : decode cL_tells 184 = .ok (.ldc 104, 2) := by decide +kernel
theorem dL_tells_186 : decode cL_tells 186 = .ok (.goto 5, 3) := by decide +kernel
theorem dL_tells_189 : decode cL_tells 189 = .ok (.ldc 106, 2) := by decide +kernel
theorem dL_tells_191 : decode cL_tells 191 = .ok (.invokestatic 90, 3) := by decide +kernel
theorem dL_tells_194 : decode cL_tells 194 = .ok (.goto 27, 3) := by decide +kernel
theorem dL_tells_197 : decode cL_tells 197 = .ok (.iload_n 1, 1) := by decide +kernel
theorem dL_tells_198 : decode cL_tells 198 = .ok (.iconst 4, 1) := by decide +kernel
theorem dL_tells_199 : decode cL_tells 199 = .ok (.ishr, 1) := by decide +kernel
theorem dL_tells_200 : decode cL_tells 200 = .ok (.iload_n 1, 1) := by decide +kernel
theorem dL_tells_201 : decode cL_tells 201 = .ok (.bipush 15, 2) := by decide +kernel
theorem dL_tells_203 : decode cL_tells 203 = .ok (.ishr, 1) := by decide +kernel
theorem dL_tells_204 : decode cL_tells 204 = .ok (.iconst 5, 1) := by decide +kernel
theorem dL_tells_205 : decode cL_tells 205 = .ok (.invokestatic 90, 3) := by decide +kernel
theorem dL_tells_208 : decode cL_tells 208 = .ok (.ifCond .ne 8, 3) := by decide +kernel
theorem dL_tells_211 : decode cL_tells 211 = .ok (.ldc 107, 2) := by decide +kernel
theorem dL_tells_213 : decode cL_tells 213 = .ok (.goto 5, 3) := by decide +kernel
theorem dL_tells_216 : decode cL_tells 216 = .ok (.ldc 108, 2) := by decide +kernel
theorem dL_tells_218 : decode cL_tells 218 = .ok (.invokestatic 90, 3) := by decide +kernel
theorem dL_tells_221 : decode cL_tells 221 = .ok (.istore 8, 2) := by decide +kernel
theorem dL_tells_223 : decode cL_tells 223 = .ok (.iload 7, 2) := by decide +kernel
theorem dL_tells_225 : decode cL_tells 225 = .ok (.bipush 30, 2) := by decide +kernel
theorem dL_tells_227 : decode cL_tells 227 = .ok (.idiv, 1) := by decide +kernel
theorem dL_tells_228 : decode cL_tells 228 = .ok (.iload 7, 2) := by decide +kernel
theorem dL_tells_230 : decode cL_tells 230 = .ok (.bipush 30, 2) := by decide +kernel
theorem dL_tells_232 : decode cL_tells 232 = .ok (.irem, 1) := by decide +kernel
theorem dL_tells_233 : decode cL_tells 233 = .ok (.bipush 14, 2) := by decide +kernel
theorem dL_tells_235 : decode cL_tells 235 = .ok (.if_icmp .le 7, 3) := by decide +kernel
theorem dL_tells_238 : decode cL_tells 238 = .ok (.iconst 1, 1) := by decide +kernel
theorem dL_tells_239 : decode cL_tells 239 = .ok (.goto 4, 3) := by decide +kernel
theorem dL_tells_242 : decode cL_tells 242 = .ok (.iconst 0, 1) := by decide +kernel
theorem dL_tells_243 : decode cL_tells 243 = .ok (.iadd, 1) := by decide +kernel
theorem dL_tells_244 : decode cL_tells 244 = .ok (.istore 9, 2) := by decide +kernel
theorem dL_tells_246 : decode cL_tells 246 = .ok (.aload_n 2, 1) := by decide +kernel
theorem dL_tells_247 : decode cL_tells 247 = .ok (.aload 4, 2) := by decide +kernel
theorem dL_tells_249 : decode cL_tells 249 = .ok (.iconst 2, 1) := by decide +kernel
theorem dL_tells_250 : decode cL_tells 250 = .ok (.iaload, 1) := by decide +kernel
theorem dL_tells_251 : decode cL_tells 251 = .ok (.bipush 16, 2) := by decide +kernel
theorem dL_tells_253 : decode cL_tells 253 = .ok (.iload 9, 2) := by decide +kernel
theorem dL_tells_255 : decode cL_tells 255 = .ok (.imul, 1) := by decide +kernel
theorem dL_tells_256 : decode cL_tells 256 = .ok (.bipush 8, 2) := by decide +kernel
theorem dL_tells_258 : decode cL_tells 258 = .ok (.iload 5, 2) := by decide +kernel
theorem dL_tells_260 : decode cL_tells 260 = .ok (.imul, 1) := by decide +kernel
theorem dL_tells_261 : decode cL_tells 261 = .ok (.iadd, 1) := by decide +kernel
theorem dL_tells_262 : decode cL_tells 262 = .ok (.iload 6, 2) := by decide +kernel
theorem dL_tells_264 : decode cL_tells 264 = .ok (.iadd, 1) := by decide +kernel
theorem dL_tells_265 : decode cL_tells 265 = .ok (.iastore, 1) := by decide +kernel
theorem dL_tells_266 : decode cL_tells 266 = .ok (.aload_n 3, 1) := by decide +kernel
theorem dL_tells_267 : decode cL_tells 267 = .ok (.aload 4, 2) := by decide +kernel
theorem dL_tells_269 : decode cL_tells 269 = .ok (.iconst 2, 1) := by decide +kernel
theorem dL_tells_270 : decode cL_tells 270 = .ok (.iaload, 1) := by decide +kernel
theorem dL_tells_271 : decode cL_tells 271 = .ok (.iload 8, 2) := by decide +kernel
theorem dL_tells_273 : decode cL_tells 273 = .ok (.iastore, 1) := by decide +kernel
theorem dL_tells_274 : decode cL_tells 274 = .ok (.aload 4, 2) := by decide +kernel
theorem dL_tells_276 : decode cL_tells 276 = .ok (.iconst 2, 1) := by decide +kernel
theorem dL_tells_277 : decode cL_tells 277 = .ok (.dup2, 1) := by decide +kernel
theorem dL_tells_278 : decode cL_tells 278 = .ok (.iaload, 1) := by decide +kernel
theorem dL_tells_279 : decode cL_tells 279 = .ok (.iconst 1, 1) := by decide +kernel
theorem dL_tells_280 : decode cL_tells 280 = .ok (.iadd, 1) := by decide +kernel
theorem dL_tells_281 : decode cL_tells 281 = .ok (.iastore, 1) := by decide +kernel
theorem dL_tells_282 : decode cL_tells 282 = .ok (.aload_n 0, 1) := by decide +kernel
theorem dL_tells_283 : decode cL_tells 283 = .ok (.iconst 1, 1) := by decide +kernel
theorem dL_tells_284 : decode cL_tells 284 = .ok (.iload 5, 2) := by decide +kernel
theorem dL_tells_286 : decode cL_tells 286 = .ok (.iload 6, 2) := by decide +kernel
theorem dL_tells_288 : decode cL_tells 288 = .ok (.iload 7, 2) := by decide +kernel
theorem dL_tells_290 : decode cL_tells 290 = .ok (.iload 8, 2) := by decide +kernel
theorem dL_tells_292 : decode cL_tells 292 = .ok (.invokestatic 109, 3) := by decide +kernel
theorem dL_tells_295 : decode cL_tells 295 = .ok (.iload 9, 2) := by decide +kernel
theorem dL_tells_297 : decode cL_tells 297 = .ok (.if_icmp .ne 7, 3) := by decide +kernel
theorem dL_tells_300 : decode cL_tells 300 = .ok (.iconst 1, 1) := by decide +kernel
theorem dL_tells_301 : decode cL_tells 301 = .ok (.goto 4, 3) := by decide +kernel
theorem dL_tells_304 : decode cL_tells 304 = .ok (.iconst 0, 1) := by decide +kernel
theorem dL_tells_305 : decode cL_tells 305 = .ok (.ireturn, 1) := by decide +kernel
set_option maxRecDepth 20000 in
theorem ggL_law_X1_init : GoodIn wsL_law wsX1_init := goodIn_r _ [7, 8, 9, 10, 11, 12, 13, 14, 241, 242, 243] (by decide +kernel) (by decide +kernel)
set_option maxRecDepth 20000 in
theorem gL_law_X1_init : GoodIn wsL_law (wsX1_init) := ggL_law_X1_init
set_option maxRecDepth 20000 in
theorem ggL_law_L_cell : GoodIn wsL_law wsL_cell := goodIn_r _ [18, 19, 20] (by decide +kernel) (by decide +kernel)
set_option maxRecDepth 20000 in
theorem gL_law_L_cell : GoodIn wsL_law (va_wsS RL 114 yL_cell wsL_cell) := goodIn_app (goodIn_of _ (by decide +kernel)) ggL_law_L_cell
set_option maxRecDepth 20000 in
theorem ggL_law_L_low : GoodIn wsL_law wsL_low := goodIn_r _ [23, 24] (by decide +kernel) (by decide +kernel)
set_option maxRecDepth 20000 in
theorem gL_law_L_low : GoodIn wsL_law (va_wsS RL 90 yL_low wsL_low) := goodIn_app (goodIn_of _ (by decide +kernel)) ggL_law_L_low
set_option maxRecDepth 20000 in
theorem ggL_law_L_calls : GoodIn wsL_law wsL_calls := goodIn_ca (goodIn_ca (goodIn_ca (goodIn_r _ [27, 28, 29, 30, 31, 2, 32, 33, 34, 13, 12, 14, 11, 35, 36, 37, 38, 39, 9, 10, 40, 41, 3, 42, 43, 44, 45, 46, 47, 48, 49, 50, 51, 52, 53, 54, 55, 56, 57, 58, 59, 60, 61, 62, 63, 64, 65, 66, 67, 68, 69, 70, 71, 72, 73, 74, 75, 76, 77, 78, 79, 80, 81, 82, 83, 84, 85, 86, 87, 88, 89, 90, 91, 92, 93, 94, 95, 96, 97, 98, 99, 100, 101, 102, 103, 104, 105, 106, 107, 108, 109, 110, 111, 112, 113, 114, 115, 116, 117, 118, 119, 120, 121, 122, 123, 124, 125, 126, 127, 128, 129, 130, 131, 132, 133, 134, 241, 242, 243, 244, 245, 246, 247, 248, 249, 250, 251, 252] (by decide +kernel) (by decide +kernel)) (goodIn_sub (fun _ h => List.mem_append_left _ (List.mem_append_left _ (List.mem_append_right _ h))) (by decide +kernel))) (goodIn_sub (fun _ h => List.mem_append_left _ (List.mem_append_right _ h)) (by decide +kernel))) (goodIn_sub (fun _ h => List.mem_append_right _ h) (by decide +kernel))
set_option maxRecDepth 20000 in
theorem gL_law_L_calls : GoodIn wsL_law (va_wsS RL 109 yL_calls wsL_calls) := goodIn_app (goodIn_of _ (by decide +kernel)) ggL_law_L_calls
set_option maxRecDepth 20000 in
theorem ggL_law_L_tells : GoodIn wsL_law wsL_tells := goodIn_ca (goodIn_ca (goodIn_ca (goodIn_r _ [137, 138, 139, 140, 141, 142, 21, 22, 17, 23, 24, 25, 26, 27, 28, 29, 30, 31, 2, 32, 33, 34, 13, 12, 14, 11, 35, 36, 37, 38, 39, 9, 10, 40, 41, 3, 42, 43, 44, 45, 46, 47, 48, 49, 50, 51, 52, 53, 54, 55, 56, 57, 58, 59, 60, 61, 62, 63, 64, 65, 66, 67, 68, 69, 70, 71, 72, 73, 74, 75, 76, 77, 78, 79, 80, 81, 82, 83, 84, 85, 86, 87, 88, 89, 90, 91, 92, 93, 94, 95, 96, 97, 98, 99, 100, 101, 102, 103, 104, 105, 106, 107, 108, 109, 110, 111, 112, 113, 114, 115, 116, 117, 118, 119, 120, 121, 122, 123, 124, 125, 126, 127, 128, 129, 130, 131, 132, 133, 134, 241, 242, 243, 244, 245, 246, 247, 248, 249, 250, 251, 252] (by decide +kernel) (by decide +kernel)) (goodIn_sub (fun _ h => List.mem_append_left _ (List.mem_append_left _ (List.mem_append_right _ h))) (by decide +kernel))) (goodIn_sub (fun _ h => List.mem_append_left _ (List.mem_append_right _ h)) (by decide +kernel))) (goodIn_sub (fun _ h => List.mem_append_right _ h) (by decide +kernel))
set_option maxRecDepth 20000 in
theorem gL_law_L_tells : GoodIn wsL_law (va_wsS RL 118 yL_tells wsL_tells) := goodIn_app (goodIn_of _ (by decide +kernel)) ggL_law_L_tells
set_option maxRecDepth 20000 in
theorem ggL_law_X1_dispute : GoodIn wsL_law wsX1_dispute := goodIn_ca (goodIn_r _ [146, 54, 55, 56, 2, 57, 58, 59, 12, 244, 245, 246, 247, 248, 249, 250, 251, 252, 241, 242, 243] (by decide +kernel) (by decide +kernel)) (goodIn_sub (fun _ h => List.mem_append_right _ h) (by decide +kernel))
set_option maxRecDepth 20000 in
theorem gL_law_X1_dispute : GoodIn wsL_law (wsV RL 122 RX1 yX1_dispute wsX1_dispute) := goodIn_app (goodIn_of _ (by decide +kernel)) ggL_law_X1_dispute
set_option maxRecDepth 20000 in
theorem ggL_law_L_closes : GoodIn wsL_law wsL_closes := goodIn_r _ [149, 150, 151, 17, 152, 153, 154, 155, 156, 157, 158, 159, 160, 161, 162, 163, 164, 165, 166, 167, 168, 169, 170, 171, 172, 173, 174, 175, 176, 177, 178, 179, 180, 181, 182] (by decide +kernel) (by decide +kernel)
set_option maxRecDepth 20000 in
theorem gL_law_L_closes : GoodIn wsL_law (va_wsS RL 127 yL_closes wsL_closes) := goodIn_app (goodIn_of _ (by decide +kernel)) ggL_law_L_closes
set_option maxRecDepth 20000 in
theorem ggL_law_X1_month : GoodIn wsL_law wsX1_month := goodIn_r _ [186, 14, 241, 242, 243] (by decide +kernel) (by decide +kernel)
set_option maxRecDepth 20000 in
theorem gL_law_X1_month : GoodIn wsL_law (wsV RL 131 RX1 yX1_month wsX1_month) := goodIn_app (goodIn_of _ (by decide +kernel)) ggL_law_X1_month
set_option maxRecDepth 20000 in
theorem ggL_law_X1_households : GoodIn wsL_law wsX1_households := goodIn_r _ [190, 13, 241, 242, 243] (by decide +kernel) (by decide +kernel)
set_option maxRecDepth 20000 in
theorem gL_law_X1_households : GoodIn wsL_law (wsV RL 134 RX1 yX1_households wsX1_households) := goodIn_app (goodIn_of _ (by decide +kernel)) ggL_law_X1_households
set_option maxRecDepth 20000 in
theorem ggL_law_L_isHome : GoodIn wsL_law wsL_isHome := goodIn_ca (goodIn_ca (goodIn_r _ [193, 194, 195, 196, 2, 197, 54, 55, 56, 57, 58, 59, 12, 198, 199, 200, 201, 202, 203, 204, 205, 14, 92, 36, 93, 94, 40, 44, 95, 96, 97, 98, 42, 99, 100, 101, 102, 103, 104, 105, 106, 107, 108, 109, 110, 111, 112, 113, 114, 115, 116, 117, 118, 119, 120, 153, 154, 17, 155, 156, 157, 158, 159, 160, 161, 162, 163, 164, 165, 166, 167, 168, 169, 170, 171, 172, 173, 174, 175, 176, 206, 207, 208, 209, 88, 89, 90, 91, 121, 122, 123, 124, 78, 125, 126, 127, 128, 129, 130, 131, 132, 133, 150, 151, 152, 177, 178, 179, 180, 181, 182, 210, 211, 212, 213, 214, 215, 216, 217, 218, 219, 220, 21, 22, 23, 24, 221, 222, 223, 224, 225, 226, 227, 228, 229, 230, 231, 232, 233, 234, 235, 236, 237, 238, 239, 240, 60, 61, 62, 50, 51, 244, 245, 246, 247, 248, 249, 250, 251, 252, 241, 242, 243] (by decide +kernel) (by decide +kernel)) (goodIn_sub (fun _ h => List.mem_append_right _ h) (by decide +kernel))) (goodIn_sub (fun _ h => List.mem_append_left _ (List.mem_append_right _ h)) (by decide +kernel))
set_option maxRecDepth 20000 in
theorem gL_law_L_isHome : GoodIn wsL_law (va_wsS RL 137 yL_isHome wsL_isHome) := goodIn_app (goodIn_of _ (by decide +kernel)) ggL_law_L_isHome
theorem dL_law_0 : decode cL_law 0 = .ok (.new 11, 3) := by decide +kernel
theorem dL_law_3 : decode cL_law 3 = .ok (.dup, 1) := by decide +kernel
theorem dL_law_4 : decode cL_law 4 = .ok (.invokespecial 113, 3) := by decide +kernel
theorem dL_law_7 : decode cL_law 7 = .ok (.astore_n 1, 1) := by decide +kernel
theorem dL_law_8 : decode cL_law 8 = .ok (.bipush 12, 2) := by decide +kernel
theorem dL_law_10 : decode cL_law 10 = .ok (.newarray .int, 2) := by decide +kernel
theorem dL_law_12 : decode cL_law 12 = .ok (.astore_n 2, 1) := by decide +kernel
theorem dL_law_13 : decode cL_law 13 = .ok (.bipush 64, 2) := by decide +kernel
theorem dL_law_15 : decode cL_law 15 = .ok (.newarray .int, 2) := by decide +kernel
theorem dL_law_17 : decode cL_law 17 = .ok (.astore_n 3, 1) := by decide +kernel
theorem dL_law_18 : decode cL_law 18 = .ok (.bipush 64, 2) := by decide +kernel
theorem dL_law_20 : decode cL_law 20 = .ok (.newarray .int, 2) := by decide +kernel
theorem dL_law_22 : decode cL_law 22 = .ok (.astore 4, 2) := by decide +kernel
theorem dL_law_24 : decode cL_law 24 = .ok (.bipush 48, 2) := by decide +kernel
theorem dL_law_26 : decode cL_law 26 = .ok (.newarray .int, 2) := by decide +kernel
theorem dL_law_28 : decode cL_law 28 = .ok (.astore 5, 2) := by decide +kernel
theorem dL_law_30 : decode cL_law 30 = .ok (.bipush 48, 2) := by decide +kernel
theorem dL_law_32 : decode cL_law 32 = .ok (.newarray .int, 2) := by decide +kernel
theorem dL_law_34 : decode cL_law 34 = .ok (.astore 6, 2) := by decide +kernel
theorem dL_law_36 : decode cL_law 36 = .ok (.bipush 48, 2) := by decide +kernel
theorem dL_law_38 : decode cL_law 38 = .ok (.newarray .int, 2) := by decide +kernel
theorem dL_law_40 : decode cL_law 40 = .ok (.astore 7, 2) := by decide +kernel
theorem dL_law_42 : decode cL_law 42 = .ok (.bipush 48, 2) := by decide +kernel
theorem dL_law_44 : decode cL_law 44 = .ok (.newarray .int, 2) := by decide +kernel
theorem dL_law_46 : decode cL_law 46 = .ok (.astore 8, 2) := by decide +kernel
theorem dL_law_48 : decode cL_law 48 = .ok (.iconst 0, 1) := by decide +kernel
theorem dL_law_49 : decode cL_law 49 = .ok (.istore 9, 2) := by decide +kernel
theorem dL_law_51 : decode cL_law 51 = .ok (.iload 9, 2) := by decide +kernel
theorem dL_law_53 : decode cL_law 53 = .ok (.bipush 110, 2) := by decide +kernel
theorem dL_law_55 : decode cL_law 55 = .ok (.if_icmp .ge 580, 3) := by decide +kernel
theorem dL_law_58 : decode cL_law 58 = .ok (.aload_n 0, 1) := by decide +kernel
theorem dL_law_59 : decode cL_law 59 = .ok (.iload 9, 2) := by decide +kernel

theorem dL_rows_50 : decode cL_rows 50 = .ok (.iload 7, 2) := by decide +kernel
theorem dL_rows_52 : decode cL_rows 52 = .ok (.if_icmp .ne 17, 3) := by decide +kernel
theorem dL_rows_55 : decode cL_rows 55 = .ok (.aload_n 0, 1) := by decide +kernel
theorem dL_rows_56 : decode cL_rows 56 = .ok (.bipush 7, 2) := by decide +kernel
theorem dL_rows_58 : decode cL_rows 58 = .ok (.iload 6, 2) := by decide +kernel
theorem dL_rows_60 : decode cL_rows 60 = .ok (.iload 7, 2) := by decide +kernel
theorem dL_rows_62 : decode cL_rows 62 = .ok (.invokestatic 98, 3) := by decide +kernel
theorem dL_rows_65 : decode cL_rows 65 = .ok (.iconst 4, 1) := by decide +kernel
theorem dL_rows_66 : decode cL_rows 66 = .ok (.if_icmp .eq 5, 3) := by decide +kernel
theorem dL_rows_69 : decode cL_rows 69 = .ok (.iconst 0, 1) := by decide +kernel
theorem dL_rows_70 : decode cL_rows 70 = .ok (.ireturn, 1) := by decide +kernel
theorem dL_rows_71 : decode cL_rows 71 = .ok (.iconst 0, 1) := by decide +kernel
theorem dL_rows_72 : decode cL_rows 72 = .ok (.istore 8, 2) := by decide +kernel
theorem dL_rows_74 : decode cL_rows 74 = .ok (.iload 8, 2) := by decide +kernel
theorem dL_rows_76 : decode cL_rows 76 = .ok (.iload 7, 2) := by decide +kernel
theorem dL_rows_78 : decode cL_rows 78 = .ok (.if_icmp .ge 34, 3) := by decide +kernel
theorem dL_rows_81 : decode cL_rows 81 = .ok (.aload_n 0, 1) := by decide +kernel
theorem dL_rows_82 : decode cL_rows 82 = .ok (.iload 6, 2) := by decide +kernel
theorem dL_rows_84 : decode cL_rows 84 = .ok (.iload 8, 2) := by decide +kernel
theorem dL_rows_86 : decode cL_rows 86 = .ok (.invokevirtual 59, 3) := by decide +kernel
theorem dL_rows_89 : decode cL_rows 89 = .ok (.iload 6, 2) := by decide +kernel
theorem dL_rows_91 : decode cL_rows 91 = .ok (.iload 8, 2) := by decide +kernel
theorem dL_rows_93 : decode cL_rows 93 = .ok (.aload_n 1, 1) := by decide +kernel
theorem dL_rows_94 : decode cL_rows 94 = .ok (.invokestatic 16, 3) := by decide +kernel
theorem dL_rows_97 : decode cL_rows 97 = .ok (.aload_n 1, 1) := by decide +kernel
theorem dL_rows_98 : decode cL_rows 98 = .ok (.invokestatic 102, 3) := by decide +kernel
theorem dL_rows_101 : decode cL_rows 101 = .ok (.if_icmp .eq 5, 3) := by decide +kernel
theorem dL_rows_104 : decode cL_rows 104 = .ok (.iconst 0, 1) := by decide +kernel
theorem dL_rows_105 : decode cL_rows 105 = .ok (.ireturn, 1) := by decide +kernel
theorem dL_rows_106 : decode cL_rows 106 = .ok (.iinc 8 1, 3) := by decide +kernel
theorem dL_rows_109 : decode cL_rows 109 = .ok (.goto (-35), 3) := by decide +kernel
theorem dL_rows_112 : decode cL_rows 112 = .ok (.iinc 6 1, 3) := by decide +kernel
theorem dL_rows_115 : decode cL_rows 115 = .ok (.goto (-100), 3) := by decide +kernel
theorem dL_rows_118 : decode cL_rows 118 = .ok (.iconst 0, 1) := by decide +kernel
theorem dL_rows_119 : decode cL_rows 119 = .ok (.istore 6, 2) := by decide +kernel
theorem dL_rows_121 : decode cL_rows 121 = .ok (.iload 6, 2) := by decide +kernel
theorem dL_rows_123 : decode cL_rows 123 = .ok (.aload_n 3, 1) := by decide +kernel
theorem dL_rows_124 : decode cL_rows 124 = .ok (.iconst 2, 1) := by decide +kernel
theorem dL_rows_125 : decode cL_rows 125 = .ok (.iaload, 1) := by decide +kernel
theorem dL_rows_126 : decode cL_rows 126 = .ok (.if_icmp .ge 253, 3) := by decide +kernel
theorem dL_rows_129 : decode cL_rows 129 = .ok (.iconst 0, 1) := by decide +kernel
theorem dL_rows_130 : decode cL_rows 130 = .ok (.istore 7, 2) := by decide +kernel
theorem dL_rows_132 : decode cL_rows 132 = .ok (.iconst 0, 1) := by decide +kernel
theorem dL_rows_133 : decode cL_rows 133 = .ok (.istore 8, 2) := by decide +kernel
theorem dL_rows_135 : decode cL_rows 135 = .ok (.iconst 0, 1) := by decide +kernel
theorem dL_rows_136 : decode cL_rows 136 = .ok (.istore 9, 2) := by decide +kernel
theorem dL_rows_138 : decode cL_rows 138 = .ok (.iconst 0, 1) := by decide +kernel
theorem dL_rows_139 : decode cL_rows 139 = .ok (.istore 10, 2) := by decide +kernel
theorem dL_rows_141 : decode cL_rows 141 = .ok (.iload 10, 2) := by decide +kernel
theorem dL_rows_143 : decode cL_rows 143 = .ok (.aload_n 3, 1) := by decide +kernel
theorem dL_rows_144 : decode cL_rows 144 = .ok (.iconst 0, 1) := by decide +kernel
theorem dL_rows_145 : decode cL_rows 145 = .ok (.iaload, 1) := by decide +kernel
theorem dL_rows_146 : decode cL_rows 146 = .ok (.if_icmp .ge 162, 3) := by decide +kernel
theorem dL_rows_149 : decode cL_rows 149 = .ok (.aload_n 2, 1) := by decide +kernel
theorem dL_rows_150 : decode cL_rows 150 = .ok (.iload 10, 2) := by decide +kernel
theorem dL_rows_152 : decode cL_rows 152 = .ok (.iaload, 1) := by decide +kernel
theorem dL_rows_153 : decode cL_rows 153 = .ok (.iload 6, 2) := by decide +kernel
theorem dL_rows_155 : decode cL_rows 155 = .ok (.aload 4, 2) := by decide +kernel
theorem dL_rows_157 : decode cL_rows 157 = .ok (.invokestatic 105, 3) := by decide +kernel
theorem dL_rows_160 : decode cL_rows 160 = .ok (.ifCond .ne 6, 3) := by decide +kernel
theorem dL_rows_163 : decode cL_rows 163 = .ok (.goto 139, 3) := by decide +kernel
theorem dL_rows_166 : decode cL_rows 166 = .ok (.iinc 8 1, 3) := by decide +kernel
theorem dL_rows_169 : decode cL_rows 169 = .ok (.iconst 0, 1) := by decide +kernel
theorem dL_rows_170 : decode cL_rows 170 = .ok (.istore 11, 2) := by decide +kernel
theorem dL_rows_172 : decode cL_rows 172 = .ok (.iload 11, 2) := by decide +kernel
theorem dL_rows_174 : decode cL_rows 174 = .ok (.iload 10, 2) := by decide +kernel
theorem dL_rows_176 : decode cL_rows 176 = .ok (.aload_n 1, 1) := by decide +kernel
theorem dL_rows_177 : decode cL_rows 177 = .ok (.invokestatic 10, 3) := by decide +kernel
theorem dL_rows_180 : decode cL_rows 180 = .ok (.if_icmp .ge 122, 3) := by decide +kernel
theorem dL_rows_183 : decode cL_rows 183 = .ok (.iload 10, 2) := by decide +kernel
theorem dL_rows_185 : decode cL_rows 185 = .ok (.iload 11, 2) := by decide +kernel
theorem dL_rows_187 : decode cL_rows 187 = .ok (.aload_n 1, 1) := by decide +kernel
theorem dL_rows_188 : decode cL_rows 188 = .ok (.invokestatic 16, 3) := by decide +kernel
theorem dL_rows_191 : decode cL_rows 191 = .ok (.istore 12, 2) := by decide +kernel
theorem dL_rows_193 : decode cL_rows 193 = .ok (.iconst 0, 1) := by decide +kernel
theorem dL_rows_194 : decode cL_rows 194 = .ok (.istore 13, 2) := by decide +kernel
theorem dL_rows_196 : decode cL_rows 196 = .ok (.iconst 0, 1) := by decide +kernel
theorem dL_rows_197 : decode cL_rows 197 = .ok (.istore 14, 2) := by decide +kernel
theorem dL_rows_199 : decode cL_rows 199 = .ok (.iload 14, 2) := by decide +kernel
theorem dL_rows_201 : decode cL_rows 201 = .ok (.bipush 6, 2) := by decide +kernel
theorem dL_rows_203 : decode cL_rows 203 = .ok (.if_icmp .ge 56, 3) := by decide +kernel
theorem dL_rows_206 : decode cL_rows 206 = .ok (.iload 13, 2) := by decide +kernel
theorem dL_rows_208 : decode cL_rows 208 = .ok (.aload_n 1, 1) := by decide +kernel
theorem dL_rows_209 : decode cL_rows 209 = .ok (.bipush 6, 2) := by decide +kernel
theorem dL_rows_211 : decode cL_rows 211 = .ok (.iload 12, 2) := by decide +kernel
theorem dL_rows_213 : decode cL_rows 213 = .ok (.imul, 1) := by decide +kernel
theorem dL_rows_214 : decode cL_rows 214 = .ok (.iconst 2, 1) := by decide +kernel
theorem dL_rows_215 : decode cL_rows 215 = .ok (.iadd, 1) := by decide +kernel
theorem dL_rows_216 : decode cL_rows 216 = .ok (.iaload, 1) := by decide +kernel
theorem dL_rows_217 : decode cL_rows 217 = .ok (.iload 14, 2) := by decide +kernel
theorem dL_rows_219 : decode cL_rows 219 = .ok (.ishr, 1) := by decide +kernel
theorem dL_rows_220 : decode cL_rows 220 = .ok (.iconst 1, 1) := by decide +kernel
theorem dL_rows_221 : decode cL_rows 221 = .ok (.iand, 1) := by decide +kernel
theorem dL_rows_222 : decode cL_rows 222 = .ok (.iconst 1, 1) := by decide +kernel
theorem dL_rows_223 : decode cL_rows 223 = .ok (.if_icmp .ne 26, 3) := by decide +kernel
theorem dL_rows_226 : decode cL_rows 226 = .ok (.aload 5, 2) := by decide +kernel
theorem dL_rows_228 : decode cL_rows 228 = .ok (.bipush 6, 2) := by decide +kernel
theorem dL_rows_230 : decode cL_rows 230 = .ok (.iload 12, 2) := by decide +kernel
theorem dL_rows_232 : decode cL_rows 232 = .ok (.imul, 1) := by decide +kernel
theorem dL_rows_233 : decode cL_rows 233 = .ok (.iload 14, 2) := by decide +kernel
theorem dL_rows_235 : decode cL_rows 235 = .ok (.iadd, 1) := by decide +kernel
theorem dL_rows_236 : decode cL_rows 236 = .ok (.iaload, 1) := by decide +kernel
theorem dL_rows_237 : decode cL_rows 237 = .ok (.aload_n 3, 1) := by decide +kernel
theorem dL_rows_238 : decode cL_rows 238 = .ok (.iconst 1, 1) := by decide +kernel
theorem dL_rows_239 : decode cL_rows 239 = .ok (.iaload, 1) := by decide +kernel
theorem dL_rows_240 : decode cL_rows 240 = .ok (.iconst 2, 1) := by decide +kernel
theorem dL_rows_241 : decode cL_rows 241 = .ok (.isub, 1) := by decide +kernel
theorem dL_rows_242 : decode cL_rows 242 = .ok (.if_icmp .le 7, 3) := by decide +kernel
theorem dL_rows_245 : decode cL_rows 245 = .ok (.iconst 1, 1) := by decide +kernel
theorem dL_rows_246 : decode cL_rows 246 = .ok (.goto 4, 3) := by decide +kernel
theorem dL_rows_249 : decode cL_rows 249 = .ok (.iconst 0, 1) := by decide +kernel
theorem dL_rows_250 : decode cL_rows 250 = .ok (.ior, 1) := by decide +kernel
theorem dL_rows_251 : decode cL_rows 251 = .ok (.istore 13, 2) := by decide +kernel
theorem dL_rows_253 : decode cL_rows 253 = .ok (.iinc 14 1, 3) := by decide +kernel
theorem dL_rows_256 : decode cL_rows 256 = .ok (.goto (-57), 3) := by decide +kernel
theorem dL_rows_259 : decode cL_rows 259 = .ok (.iload 9, 2) := by decide +kernel
theorem dL_rows_261 : decode cL_rows 261 = .ok (.iload 13, 2) := by decide +kernel
theorem dL_rows_263 : decode cL_rows 263 = .ok (.ifCond .eq 7, 3) := by decide +kernel
theorem dL_rows_266 : decode cL_rows 266 = .ok (.iconst 1, 1) := by decide +kernel
theorem dL_rows_267 : decode cL_rows 267 = .ok (.goto 4, 3) := by decide +kernel
theorem dL_rows_270 : decode cL_rows 270 = .ok (.iconst 0, 1) := by decide +kernel
theorem dL_rows_271 : decode cL_rows 271 = .ok (.iadd, 1) := by decide +kernel
theorem dL_rows_272 : decode cL_rows 272 = .ok (.istore 9, 2) := by decide +kernel
theorem dL_rows_274 : decode cL_rows 274 = .ok (.aload_n 0, 1) := by decide +kernel
theorem dL_rows_275 : decode cL_rows 275 = .ok (.iload 6, 2) := by decide +kernel
theorem dL_rows_277 : decode cL_rows 277 = .ok (.iload 7, 2) := by decide +kernel
theorem dL_rows_279 : decode cL_rows 279 = .ok (.invokevirtual 62, 3) := by decide +kernel
theorem dL_rows_282 : decode cL_rows 282 = .ok (.iload 12, 2) := by decide +kernel
theorem dL_rows_284 : decode cL_rows 284 = .ok (.aload_n 1, 1) := by decide +kernel
theorem dL_rows_285 : decode cL_rows 285 = .ok (.invokestatic 102, 3) := by decide +kernel
theorem dL_rows_288 : decode cL_rows 288 = .ok (.if_icmp .eq 5, 3) := by decide +kernel
theorem dL_rows_291 : decode cL_rows 291 = .ok (.iconst 0, 1) := by decide +kernel
theorem dL_rows_292 : decode cL_rows 292 = .ok (.ireturn, 1) := by decide +kernel
theorem dL_rows_293 : decode cL_rows 293 = .ok (.iinc 7 1, 3) := by decide +kernel
theorem dL_rows_296 : decode cL_rows 296 = .ok (.iinc 11 1, 3) := by decide +kernel
theorem dL_rows_299 : decode cL_rows 299 = .ok (.goto (-127), 3) := by decide +kernel
theorem dL_rows_302 : decode cL_rows 302 = .ok (.iinc 10 1, 3) := by decide +kernel
theorem dL_rows_305 : decode cL_rows 305 = .ok (.goto (-164), 3) := by decide +kernel
theorem dL_rows_308 : decode cL_rows 308 = .ok (.aload_n 0, 1) := by decide +kernel
theorem dL_rows_309 : decode cL_rows 309 = .ok (.iload 6, 2) := by decide +kernel
theorem dL_rows_311 : decode cL_rows 311 = .ok (.invokevirtual 109, 3) := by decide +kernel
theorem dL_rows_314 : decode cL_rows 314 = .ok (.iload 7, 2) := by decide +kernel
theorem dL_rows_316 : decode cL_rows 316 = .ok (.if_icmp .ne 55, 3) := by decide +kernel
theorem dL_rows_319 : decode cL_rows 319 = .ok (.aload_n 0, 1) := by decide +kernel
theorem dL_rows_320 : decode cL_rows 320 = .ok (.iload 6, 2) := by decide +kernel
theorem dL_rows_322 : decode cL_rows 322 = .ok (.invokevirtual 111, 3) := by decide +kernel
theorem dL_rows_325 : decode cL_rows 325 = .ok (.iload 7, 2) := by decide +kernel
theorem dL_rows_327 : decode cL_rows 327 = .ok (.if_icmp .ne 44, 3) := by decide +kernel
theorem dL_rows_330 : decode cL_rows 330 = .ok (.aload_n 0, 1) := by decide +kernel
theorem dL_rows_331 : decode cL_rows 331 = .ok (.iload 6, 2) := by decide +kernel
theorem dL_rows_333 : decode cL_rows 333 = .ok (.invokevirtual 114, 3) := by decide +kernel
theorem dL_rows_336 : decode cL_rows 336 = .ok (.iload 8, 2) := by decide +kernel
theorem dL_rows_338 : decode cL_rows 338 = .ok (.if_icmp .ne 33, 3) := by decide +kernel
theorem dL_rows_341 : decode cL_rows 341 = .ok (.aload_n 0, 1) := by decide +kernel
theorem dL_rows_342 : decode cL_rows 342 = .ok (.iload 6, 2) := by decide +kernel
theorem dL_rows_344 : decode cL_rows 344 = .ok (.aload_n 3, 1) := by decide +kernel
theorem dL_rows_345 : decode cL_rows 345 = .ok (.iconst 1, 1) := by decide +kernel
theorem dL_rows_346 : decode cL_rows 346 = .ok (.iaload, 1) := by decide +kernel
theorem dL_rows_347 : decode cL_rows 347 = .ok (.iconst 2, 1) := by decide +kernel
theorem dL_rows_348 : decode cL_rows 348 = .ok (.isub, 1) := by decide +kernel
theorem dL_rows_349 : decode cL_rows 349 = .ok (.invokevirtual 117, 3) := by decide +kernel
theorem dL_rows_352 : decode cL_rows 352 = .ok (.iload 9, 2) := by decide +kernel
theorem dL_rows_354 : decode cL_rows 354 = .ok (.if_icmp .ne 17, 3) := by decide +kernel
theorem dL_rows_357 : decode cL_rows 357 = .ok (.aload_n 0, 1) := by decide +kernel
theorem dL_rows_358 : decode cL_rows 358 = .ok (.bipush 8, 2) := by decide +kernel
theorem dL_rows_360 : decode cL_rows 360 = .ok (.iload 6, 2) := by decide +kernel
theorem dL_rows_362 : decode cL_rows 362 = .ok (.iload 7, 2) := by decide +kernel
theorem dL_rows_364 : decode cL_rows 364 = .ok (.invokestatic 98, 3) := by decide +kernel
theorem dL_rows_367 : decode cL_rows 367 = .ok (.iconst 4, 1) := by decide +kernel
theorem dL_rows_368 : decode cL_rows 368 = .ok (.if_icmp .eq 5, 3) := by decide +kernel
theorem dL_rows_371 : decode cL_rows 371 = .ok (.iconst 0, 1) := by decide +kernel
theorem dL_rows_372 : decode cL_rows 372 = .ok (.ireturn, 1) := by decide +kernel
theorem dL_rows_373 : decode cL_rows 373 = .ok (.iinc 6 1, 3) := by decide +kernel
theorem dL_rows_376 : decode cL_rows 376 = .ok (.goto (-255), 3) := by decide +kernel
theorem dL_rows_379 : decode cL_rows 379 = .ok (.iconst 1, 1) := by decide +kernel
theorem dL_rows_380 : decode cL_rows 380 = .ok (.ireturn, 1) := by decide +kernel
set_option maxRecDepth 20000 in
theorem ggL_same_L_handle : GoodIn wsL_same wsL_handle := goodIn_r _ [4] (by decide +kernel) (by decide +kernel)
set_option maxRecDepth 20000 in
theorem gL_same_L_handle : GoodIn wsL_same (va_wsS RL 102 yL_handle wsL_handle) := goodIn_app (goodIn_of _ (by decide +kernel)) ggL_same_L_handle
set_option maxRecDepth 20000 in
theorem ggL_same_X6_isThere : GoodIn wsL_same wsX6_isThere := goodIn_r _ [9, 10, 11, 12, 8, 13, 14, 15, 16, 17, 18, 19, 20, 21, 392, 393, 394, 395, 396, 397, 398, 399, 400, 401, 402, 403] (by decide +kernel) (by decide +kernel)
set_option maxRecDepth 20000 in
theorem gL_same_X6_isThere : GoodIn wsL_same (wsV RL 120 RX6 yX6_isThere wsX6_isThere) := goodIn_app (goodIn_of _ (by decide +kernel)) ggL_same_X6_isThere
set_option maxRecDepth 20000 in
theorem ggL_same_X6_kinds : GoodIn wsL_same wsX6_kinds := goodIn_ca (goodIn_r _ [25, 26, 27, 28, 8, 29, 30, 31, 10, 11, 12, 13, 14, 15, 16, 17, 18, 19, 20, 21, 398, 399, 400, 401, 402, 403, 392, 393, 394, 395, 396, 397] (by decide +kernel) (by decide +kernel)) (goodIn_sub (fun _ h => List.mem_cons_of_mem _ (List.mem_append_left _ (List.mem_append_left _ (List.mem_append_left _ (List.mem_append_right _ h))))) (by decide +kernel))
set_option maxRecDepth 20000 in
theorem gL_same_X6_kinds : GoodIn wsL_same (wsV RL 124 RX6 yX6_kinds wsX6_kinds) := goodIn_app (goodIn_of _ (by decide +kernel)) ggL_same_X6_kinds
set_option maxRecDepth 20000 in
theorem ggL_same_X6_children : GoodIn wsL_same wsX6_children := goodIn_ca (goodIn_r _ [35, 14, 26, 27, 28, 8, 29, 30, 31, 10, 11, 12, 13, 15, 16, 17, 18, 19, 20, 21, 392, 393, 394, 395, 396, 397, 398, 399, 400, 401, 402, 403] (by decide +kernel) (by decide +kernel)) (goodIn_sub (fun _ h => List.mem_cons_of_mem _ (List.mem_append_left _ (List.mem_append_left _ (List.mem_append_left _ (List.mem_append_right _ h))))) (by decide +kernel))
set_option maxRecDepth 20000 in
theorem gL_same_X6_children : GoodIn wsL_same (wsV RL 127 RX6 yX6_children wsX6_children) := goodIn_app (goodIn_of _ (by decide +kernel)) ggL_same_X6_children
set_option maxRecDepth 20000 in
theorem ggL_same_L_refused : GoodIn wsL_same wsL_refused := goodIn_ca (goodIn_ca (goodIn_ca (goodIn_ca (goodIn_r _ [38, 39, 40, 41, 42, 43, 44, 45, 8, 46, 47, 48, 49, 50, 51, 52, 53, 54, 55, 56, 57, 14, 58, 59, 60, 61, 62, 63, 64, 65, 66, 67, 68, 69, 70, 71, 72, 73, 74, 75, 76, 77, 78, 79, 80, 81, 82, 83, 84, 85, 86, 87, 88, 89, 90, 91, 92, 93, 94, 95, 96, 97, 98, 99, 100, 101, 102, 103, 104, 105, 106, 107, 108, 109, 110, 111, 112, 113, 114, 115, 116, 117, 118, 119, 120, 121, 122, 123, 124, 125, 126, 127, 128, 129, 130, 131, 132, 133, 134, 135, 136, 137, 138, 139, 140, 141, 142, 143, 144, 145, 146, 147, 148, 149, 150, 151, 152, 153, 154, 155, 156, 157, 158, 159, 160, 161, 162, 163, 164, 165, 166, 167, 168, 169, 170, 26, 27, 28, 29, 30, 31, 10, 11, 12, 13, 15, 16, 17, 18, 19, 20, 21, 171, 172, 173, 174, 175, 176, 177, 178, 179, 180, 181, 182, 183, 184, 185, 186, 187, 188, 189, 190, 191, 192, 193, 194, 195, 196, 197, 198, 199, 200, 201, 202, 203, 204, 205, 206, 207, 208, 209, 210, 211, 212, 213, 214, 215, 216, 217, 218, 219, 220, 221, 222, 223, 224, 225, 226, 227, 228, 229, 230, 231, 232, 233, 234, 235, 236, 237, 238, 239, 240, 241, 242, 243, 244, 245, 246, 247, 248, 249, 250, 251, 252, 253, 254, 255, 256, 257, 258, 259, 260, 261, 262, 263, 264, 265, 266, 267, 268, 269, 270, 271, 272, 273, 274, 275, 276, 277, 278, 279, 280, 281, 282, 283, 284, 285, 286, 287, 288, 289, 290, 291, 292, 293, 294, 295, 296, 297, 298, 299, 300, 301, 302, 303, 304, 305, 306, 307, 308, 309, 310, 311, 312, 313, 314, 315, 316, 317, 318, 319, 320, 321, 322, 323, 324, 325, 326, 327, 328, 329, 330, 331, 332, 333, 334, 335, 336, 337, 338, 339, 340, 341, 342, 343, 344, 345, 346, 347, 348, 349, 350, 351, 352, 353, 354, 355, 356, 357, 358, 359, 360, 361, 362, 363, 364, 365, 366, 367, 368, 369, 370, 371, 372, 373, 374, 375, 376, 377, 378, 379, 398, 399, 400, 401, 402, 403, 404, 405, 392, 393, 394, 395, 396, 397, 406, 407, 408, 409, 410, 411, 412, 413, 414, 415, 416, 417, 418, 419, 420, 421] (by decide +kernel) (by decide +kernel)) (goodIn_sub (fun _ h => List.mem_cons_of_mem _ (List.mem_append_left _ (List.mem_append_left _ (List.mem_append_right _ h)))) (by decide +kernel))) (goodIn_sub (fun _ h => List.mem_cons_of_mem _ (List.mem_append_left _ (List.mem_append_left _ (List.mem_append_left _ (List.mem_append_right _ h))))) (by decide +kernel))) (goodIn_sub (fun _ h => List.mem_cons_of_mem _ (List.mem_append_left _ (List.mem_append_right _ h))) (by decide +kernel))) (goodIn_sub (fun _ h => List.mem_cons_of_mem _ (List.mem_append_right _ h)) (by decide +kernel))
set_option maxRecDepth 20000 in
theorem gL_same_L_refused : GoodIn wsL_same (va_wsS RL 98 yL_refused wsL_refused) := goodIn_app (goodIn_of _ (by decide +kernel)) ggL_same_L_refused
set_option maxRecDepth 20000 in
theorem ggL_same_X6_value : GoodIn wsL_same wsX6_value := goodIn_ca (goodIn_ca (goodIn_ca (goodIn_r _ [257, 246, 247, 248, 8, 249, 51, 52, 26, 27, 28, 29, 30, 31, 10, 11, 12, 13, 14, 15, 16, 17, 18, 19, 20, 21, 225, 226, 227, 218, 219, 228, 229, 230, 231, 210, 398, 399, 400, 401, 402, 403, 392, 393, 394, 395, 396, 397] (by decide +kernel) (by decide +kernel)) (goodIn_sub (fun _ h => List.mem_cons_of_mem _ (List.mem_append_left _ (List.mem_append_left _ (List.mem_append_right _ h)))) (by decide +kernel))) (goodIn_sub (fun _ h => List.mem_cons_of_mem _ (List.mem_append_left _ (List.mem_append_left _ (List.mem_append_left _ (List.mem_append_right _ h))))) (by decide +kernel))) (goodIn_sub (fun _ h => List.mem_cons_of_mem _ (List.mem_append_left _ (List.mem_append_right _ h))) (by decide +kernel))
set_option maxRecDepth 20000 in
theorem gL_same_X6_value : GoodIn wsL_same (wsV RL 56 RX6 yX6_value wsX6_value) := goodIn_app (goodIn_of _ (by decide +kernel)) ggL_same_X6_value
set_option maxRecDepth 20000 in
theorem ggL_same_X6_mark : GoodIn wsL_same wsX6_mark := goodIn_ca (goodIn_ca (goodIn_ca (goodIn_r _ [383, 246, 247, 248, 8, 249, 51, 52, 26, 27, 28, 29, 30, 31, 10, 11, 12, 13, 14, 15, 16, 17, 18, 19, 20, 21, 225, 226, 227, 218, 219, 228, 229, 230, 231, 210, 398, 399, 400, 401, 402, 403, 392, 393, 394, 395, 396, 397] (by decide +kernel) (by decide +kernel)) (goodIn_sub (fun _ h => List.mem_cons_of_mem _ (List.mem_append_left _ (List.mem_append_left _ (List.mem_append_right _ h)))) (by decide +kernel))) (goodIn_sub (fun _ h => List.mem_cons_of_mem _ (List.mem_append_left _ (List.mem_append_left _ (List.mem_append_left _ (List.mem_append_right _ h))))) (by decide +kernel))) (goodIn_sub (fun _ h => List.mem_cons_of_mem _ (List.mem_append_left _ (List.mem_append_right _ h))) (by decide +kernel))
set_option maxRecDepth 20000 in
theorem gL_same_X6_mark : GoodIn wsL_same (wsV RL 130 RX6 yX6_mark wsX6_mark) := goodIn_app (goodIn_of _ (by decide +kernel)) ggL_same_X6_mark
set_option maxRecDepth 20000 in
theorem ggL_same_X6_entities : GoodIn wsL_same wsX6_entities := goodIn_r _ [387, 14, 392, 393, 394, 395, 396, 397, 398, 399, 400, 401, 402, 403] (by decide +kernel) (by decide +kernel)
set_option maxRecDepth 20000 in
theorem gL_same_X6_entities : GoodIn wsL_same (wsV RL 133 RX6 yX6_entities wsX6_entities) := goodIn_app (goodIn_of _ (by decide +kernel)) ggL_same_X6_entities
set_option maxRecDepth 20000 in
theorem ggL_same_X6_tick : GoodIn wsL_same wsX6_tick := goodIn_r _ [391, 224, 392, 393, 394, 395, 396, 397] (by decide +kernel) (by decide +kernel)
set_option maxRecDepth 20000 in
theorem gL_same_X6_tick : GoodIn wsL_same (wsV RL 136 RX6 yX6_tick wsX6_tick) := goodIn_app (goodIn_of _ (by decide +kernel)) ggL_same_X6_tick
theorem dL_same_0 : decode cL_same 0 = .ok (.iconst 0, 1) := by decide +kernel
theorem dL_same_1 : decode cL_same 1 = .ok (.istore 5, 2) := by decide +kernel
theorem dL_same_3 : decode cL_same 3 = .ok (.iconst 0, 1) := by decide +kernel
theorem dL_same_4 : decode cL_same 4 = .ok (.istore 6, 2) := by decide +kernel
theorem dL_same_6 : decode cL_same 6 = .ok (.iload 6, 2) := by decide +kernel
theorem dL_same_8 : decode cL_same 8 = .ok (.bipush 10, 2) := by decide +kernel
theorem dL_same_10 : decode cL_same 10 = .ok (.if_icmp .ge 266, 3) := by decide +kernel
theorem dL_same_13 : decode cL_same 13 = .ok (.iload 6, 2) := by decide +kernel
theorem dL_same_15 : decode cL_same 15 = .ok (.aload_n 1, 1) := by decide +kernel
theorem dL_same_16 : decode cL_same 16 = .ok (.invokestatic 102, 3) := by decide +kernel
theorem dL_same_19 : decode cL_same 19 = .ok (.istore 7, 2) := by decide +kernel
theorem dL_same_21 : decode cL_same 21 = .ok (.aload_n 0, 1) := by decide +kernel
theorem dL_same_22 : decode cL_same 22 = .ok (.iload 7, 2) := by decide +kernel
theorem dL_same_24 : decode cL_same 24 = .ok (.invokevirtual 120, 3) := by decide +kernel
theorem dL_same_27 : decode cL_same 27 = .ok (.aload_n 1, 1) := by decide +kernel
theorem dL_same_28 : decode cL_same 28 = .ok (.bipush 6, 2) := by decide +kernel
theorem dL_same_30 : decode cL_same 30 = .ok (.iload 6, 2) := by decide +kernel
theorem dL_same_32 : decode cL_same 32 = .ok (.imul, 1) := by decide +kernel
theorem dL_same_33 : decode cL_same 33 = .ok (.iaload, 1) := by decide +kernel
theorem dL_same_34 : decode cL_same 34 = .ok (.iconst 1, 1) := by decide +kernel
theorem dL_same_35 : decode cL_same 35 = .ok (.if_icmp .ne 7, 3) := by decide +kernel
theorem dL_same_38 : decode cL_same 38 = .ok (.iconst 1, 1) := by decide +kernel
theorem dL_same_39 : decode cL_same 39 = .ok (.goto 4, 3) := by decide +kernel
theorem dL_same_42 : decode cL_same 42 = .ok (.iconst 0, 1) := by decide +kernel
theorem dL_same_43 : decode cL_same 43 = .ok (.if_icmp .eq 5, 3) := by decide +kernel
theorem dL_same_46 : decode cL_same 46 = .ok (.iconst 0, 1) := by decide +kernel
theorem dL_same_47 : decode cL_same 47 = .ok (.ireturn, 1) := by decide +kernel
theorem dL_same_48 : decode cL_same 48 = .ok (.aload_n 1, 1) := by decide +kernel
theorem dL_same_49 : decode cL_same 49 = .ok (.bipush 6, 2) := by decide +kernel
theorem dL_same_51 : decode cL_same 51 = .ok (.iload 6, 2) := by decide +kernel
theorem dL_same_53 : decode cL_same 53 = .ok (.imul, 1) := by decide +kernel
theorem dL_same_54 : decode cL_same 54 = .ok (.iaload, 1) := by decide +kernel
theorem dL_same_55 : decode cL_same 55 = .ok (.ifCond .ne 6, 3) := by decide +kernel
theorem dL_same_58 : decode cL_same 58 = .ok (.goto 212, 3) := by decide +kernel
theorem dL_same_61 : decode cL_same 61 = .ok (.iconst 0, 1) := by decide +kernel
theorem dL_same_62 : decode cL_same 62 = .ok (.istore 8, 2) := by decide +kernel
theorem dL_same_64 : decode cL_same 64 = .ok (.iconst 0, 1) := by decide +kernel
theorem dL_same_65 : decode cL_same 65 = .ok (.istore 9, 2) := by decide +kernel
theorem dL_same_67 : decode cL_same 67 = .ok (.iload 9, 2) := by decide +kernel
theorem dL_same_69 : decode cL_same 69 = .ok (.bipush 10, 2) := by decide +kernel
theorem dL_same_71 : decode cL_same 71 = .ok (.if_icmp .ge 47, 3) := by decide +kernel
theorem dL_same_74 : decode cL_same 74 = .ok (.iload 8, 2) := by decide +kernel
theorem dL_same_76 : decode cL_same 76 = .ok (.aload_n 1, 1) := by decide +kernel
theorem dL_same_77 : decode cL_same 77 = .ok (.bipush 6, 2) := by decide +kernel
theorem dL_same_79 : decode cL_same 79 = .ok (.iload 9, 2) := by decide +kernel
theorem dL_same_81 : decode cL_same 81 = .ok (.imul, 1) := by decide +kernel
theorem dL_same_82 : decode cL_same 82 = .ok (.iaload, 1) := by decide +kernel
theorem dL_same_83 : decode cL_same 83 = .ok (.iconst 1, 1) := by decide +kernel
theorem dL_same_84 : decode cL_same 84 = .ok (.if_icmp .ne 24, 3) := by decide +kernel
theorem dL_same_87 : decode cL_same 87 = .ok (.aload_n 1, 1) := by decide +kernel
theorem dL_same_88 : decode cL_same 88 = .ok (.bipush 6, 2) := by decide +kernel
theorem dL_same_90 : decode cL_same 90 = .ok (.iload 9, 2) := by decide +kernel
theorem dL_same_92 : decode cL_same 92 = .ok (.imul, 1) := by decide +kernel
theorem dL_same_93 : decode cL_same 93 = .ok (.iconst 3, 1) := by decide +kernel
theorem dL_same_94 : decode cL_same 94 = .ok (.iadd, 1) := by decide +kernel
theorem dL_same_95 : decode cL_same 95 = .ok (.iaload, 1) := by decide +kernel
theorem dL_same_96 : decode cL_same 96 = .ok (.iload 6, 2) := by decide +kernel
theorem dL_same_98 : decode cL_same 98 = .ok (.if_icmp .ne 10, 3) := by decide +kernel
theorem dL_same_101 : decode cL_same 101 = .ok (.iconst 1, 1) := by decide +kernel
theorem dL_same_102 : decode cL_same 102 = .ok (.iload 9, 2) := by decide +kernel
theorem dL_same_104 : decode cL_same 104 = .ok (.ishl, 1) := by decide +kernel
theorem dL_same_105 : decode cL_same 105 = .ok (.goto 4, 3) := by decide +kernel
theorem dL_same_108 : decode cL_same 108 = .ok (.iconst 0, 1) := by decide +kernel
theorem dL_same_109 : decode cL_same 109 = .ok (.ior, 1) := by decide +kernel
theorem dL_same_110 : decode cL_same 110 = .ok (.istore 8, 2) := by decide +kernel
theorem dL_same_112 : decode cL_same 112 = .ok (.iinc 9 1, 3) := by decide +kernel
theorem dL_same_115 : decode cL_same 115 = .ok (.goto (-48), 3) := by decide +kernel
theorem dL_same_118 : decode cL_same 118 = .ok (.aload_n 0, 1) := by decide +kernel
theorem dL_same_119 : decode cL_same 119 = .ok (.iload 7, 2) := by decide +kernel
theorem dL_same_121 : decode cL_same 121 = .ok (.invokevirtual 124, 3) := by decide +kernel
theorem dL_same_124 : decode cL_same 124 = .ok (.aload_n 1, 1) := by decide +kernel
theorem dL_same_125 : decode cL_same 125 = .ok (.bipush 6, 2) := by decide +kernel
theorem dL_same_127 : decode cL_same 127 = .ok (.iload 6, 2) := by decide +kernel
theorem dL_same_129 : decode cL_same 129 = .ok (.imul, 1) := by decide +kernel
theorem dL_same_130 : decode cL_same 130 = .ok (.iconst 2, 1) := by decide +kernel
theorem dL_same_131 : decode cL_same 131 = .ok (.iadd, 1) := by decide +kernel
theorem dL_same_132 : decode cL_same 132 = .ok (.iaload, 1) := by decide +kernel
theorem dL_same_133 : decode cL_same 133 = .ok (.if_icmp .ne 39, 3) := by decide +kernel
theorem dL_same_136 : decode cL_same 136 = .ok (.aload_n 0, 1) := by decide +kernel
theorem dL_same_137 : decode cL_same 137 = .ok (.iload 7, 2) := by decide +kernel
theorem dL_same_139 : decode cL_same 139 = .ok (.invokevirtual 127, 3) := by decide +kernel
theorem dL_same_142 : decode cL_same 142 = .ok (.iload 8, 2) := by decide +kernel
theorem dL_same_144 : decode cL_same 144 = .ok (.if_icmp .ne 28, 3) := by decide +kernel
theorem dL_same_147 : decode cL_same 147 = .ok (.aload_n 0, 1) := by decide +kernel
theorem dL_same_148 : decode cL_same 148 = .ok (.iload 7, 2) := by decide +kernel
theorem dL_same_150 : decode cL_same 150 = .ok (.bipush 32, 2) := by decide +kernel
theorem dL_same_152 : decode cL_same 152 = .ok (.iadd, 1) := by decide +kernel
theorem dL_same_153 : decode cL_same 153 = .ok (.invokevirtual 120, 3) := by decide +kernel
theorem dL_same_156 : decode cL_same 156 = .ok (.ifCond .ne 16, 3) := by decide +kernel
theorem dL_same_159 : decode cL_same 159 = .ok (.aload_n 0, 1) := by decide +kernel
theorem dL_same_160 : decode cL_same 160 = .ok (.iconst 5, 1) := by decide +kernel
theorem dL_same_161 : decode cL_same 161 = .ok (.iload 7, 2) := by decide +kernel
theorem dL_same_163 : decode cL_same 163 = .ok (.bipush 6, 2) := by decide +kernel
theorem dL_same_165 : decode cL_same 165 = .ok (.invokestatic 98, 3) := by decide +kernel
theorem dL_same_168 : decode cL_same 168 = .ok (.iconst 2, 1) := by decide +kernel
theorem dL_same_169 : decode cL_same 169 = .ok (.if_icmp .eq 5, 3) := by decide +kernel
theorem dL_same_172 : decode cL_same 172 = .ok (.iconst 0, 1) := by decide +kernel
theorem dL_same_173 : decode cL_same 173 = .ok (.ireturn, 1) := by decide +kernel
theorem dL_same_174 : decode cL_same 174 = .ok (.iconst 0, 1) := by decide +kernel
theorem dL_same_175 : decode cL_same 175 = .ok (.istore 9, 2) := by decide +kernel
theorem dL_same_177 : decode cL_same 177 = .ok (.iload 9, 2) := by decide +kernel
theorem dL_same_179 : decode cL_same 179 = .ok (.bipush 6, 2) := by decide +kernel
theorem dL_same_181 : decode cL_same 181 = .ok (.if_icmp .ge 86, 3) := by decide +kernel
theorem dL_same_184 : decode cL_same 184 = .ok (.aload_n 1, 1) := by decide +kernel
theorem dL_same_185 : decode cL_same 185 = .ok (.bipush 6, 2) := by decide +kernel
theorem dL_same_187 : decode cL_same 187 = .ok (.iload 6, 2) := by decide +kernel
theorem dL_same_189 : decode cL_same 189 = .ok (.imul, 1) := by decide +kernel
theorem dL_same_190 : decode cL_same 190 = .ok (.iconst 2, 1) := by decide +kernel
theorem dL_same_191 : decode cL_same 191 = .ok (.iadd, 1) := by decide +kernel
theorem dL_same_192 : decode cL_same 192 = .ok (.iaload, 1) := by decide +kernel
theorem dL_same_193 : decode cL_same 193 = .ok (.iload 9, 2) := by decide +kernel
theorem dL_same_195 : decode cL_same 195 = .ok (.ishr, 1) := by decide +kernel
theorem dL_same_196 : decode cL_same 196 = .ok (.iconst 1, 1) := by decide +kernel
theorem dL_same_197 : decode cL_same 197 = .ok (.iand, 1) := by decide +kernel
theorem dL_same_198 : decode cL_same 198 = .ok (.ifCond .ne 19, 3) := by decide +kernel
theorem dL_same_201 : decode cL_same 201 = .ok (.aload_n 0, 1) := by decide +kernel
theorem dL_same_202 : decode cL_same 202 = .ok (.bipush 6, 2) := by decide +kernel
theorem dL_same_204 : decode cL_same 204 = .ok (.iload 7, 2) := by decide +kernel
theorem dL_same_206 : decode cL_same 206 = .ok (.iload 9, 2) := by decide +kernel
theorem dL_same_208 : decode cL_same 208 = .ok (.invokestatic 98, 3) := by decide +kernel
theorem dL_same_211 : decode cL_same 211 = .ok (.iconst 3, 1) := by decide +kernel
theorem dL_same_212 : decode cL_same 212 = .ok (.if_icmp .eq 49, 3) := by decide +kernel
theorem dL_same_215 : decode cL_same 215 = .ok (.iconst 0, 1) := by decide +kernel
theorem dL_same_216 : decode cL_same 216 = .ok (.ireturn, 1) := by decide +kernel
theorem dL_same_217 : decode cL_same 217 = .ok (.aload_n 0, 1) := by decide +kernel
theorem dL_same_218 : decode cL_same 218 = .ok (.iload 7, 2) := by decide +kernel
theorem dL_same_220 : decode cL_same 220 = .ok (.iload 9, 2) := by decide +kernel
theorem dL_same_222 : decode cL_same 222 = .ok (.invokevirtual 56, 3) := by decide +kernel
theorem dL_same_225 : decode cL_same 225 = .ok (.aload_n 2, 1) := by decide +kernel
theorem dL_same_226 : decode cL_same 226 = .ok (.bipush 6, 2) := by decide +kernel
theorem dL_same_228 : decode cL_same 228 = .ok (.iload 6, 2) := by decide +kernel
theorem dL_same_230 : decode cL_same 230 = .ok (.imul, 1) := by decide +kernel
theorem dL_same_231 : decode cL_same 231 = .ok (.iload 9, 2) := by decide +kernel
theorem dL_same_233 : decode cL_same 233 = .ok (.iadd, 1) := by decide +kernel
theorem dL_same_234 : decode cL_same 234 = .ok (.iaload, 1) := by decide +kernel
theorem dL_same_235 : decode cL_same 235 = .ok (.if_icmp .ne 24, 3) := by decide +kernel
theorem dL_same_238 : decode cL_same 238 = .ok (.aload_n 0, 1) := by decide +kernel
theorem dL_same_239 : decode cL_same 239 = .ok (.iload 7, 2) := by decide +kernel
theorem dL_same_241 : decode cL_same 241 = .ok (.iload 9, 2) := by decide +kernel
theorem dL_same_243 : decode cL_same 243 = .ok (.invokevirtual 130, 3) := by decide +kernel
theorem dL_same_246 : decode cL_same 246 = .ok (.aload_n 3, 1) := by decide +kernel
theorem dL_same_247 : decode cL_same 247 = .ok (.bipush 6, 2) := by decide +kernel
theorem dL_same_249 : decode cL_same 249 = .ok (.iload 6, 2) := by decide +kernel
theorem dL_same_251 : decode cL_same 251 = .ok (.imul, 1) := by decide +kernel
theorem dL_same_252 : decode cL_same 252 = .ok (.iload 9, 2) := by decide +kernel
theorem dL_same_254 : decode cL_same 254 = .ok (.iadd, 1) := by decide +kernel
theorem dL_same_255 : decode cL_same 255 = .ok (.iaload, 1) := by decide +kernel
theorem dL_same_256 : decode cL_same 256 = .ok (.if_icmp .eq 5, 3) := by decide +kernel
theorem dL_same_259 : decode cL_same 259 = .ok (.iconst 0, 1) := by decide +kernel
theorem dL_same_260 : decode cL_same 260 = .ok (.ireturn, 1) := by decide +kernel
theorem dL_same_261 : decode cL_same 261 = .ok (.iinc 9 1, 3) := by decide +kernel
theorem dL_same_264 : decode cL_same 264 = .ok (.goto (-87), 3) := by decide +kernel
theorem dL_same_267 : decode cL_same 267 = .ok (.iinc 5 1, 3) := by decide +kernel
theorem dL_same_270 : decode cL_same 270 = .ok (.iinc 6 1, 3) := by decide +kernel
theorem dL_same_273 : decode cL_same 273 = .ok (.goto (-267), 3) := by decide +kernel
theorem dL_same_276 : decode cL_same 276 = .ok (.aload_n 0, 1) := by decide +kernel
theorem dL_same_277 : decode cL_same 277 = .ok (.invokevirtual 133, 3) := by decide +kernel
theorem dL_same_280 : decode cL_same 280 = .ok (.iload 5, 2) := by decide +kernel
theorem dL_same_282 : decode cL_same 282 = .ok (.if_icmp .ne 18, 3) := by decide +kernel
theorem dL_same_285 : decode cL_same 285 = .ok (.aload_n 0, 1) := by decide +kernel
theorem dL_same_286 : decode cL_same 286 = .ok (.invokevirtual 136, 3) := by decide +kernel
theorem dL_same_289 : decode cL_same 289 = .ok (.aload 4, 2) := by decide +kernel
theorem dL_same_291 : decode cL_same 291 = .ok (.iconst 1, 1) := by decide +kernel
theorem dL_same_292 : decode cL_same 292 = .ok (.iaload, 1) := by decide +kernel
theorem dL_same_293 : decode cL_same 293 = .ok (.if_icmp .ne 7, 3) := by decide +kernel
theorem dL_same_296 : decode cL_same 296 = .ok (.iconst 1, 1) := by decide +kernel
theorem dL_same_297 : decode cL_same 297 = .ok (.goto 4, 3) := by decide +kernel
theorem dL_same_300 : decode cL_same 300 = .ok (.iconst 0, 1) := by decide +kernel
theorem dL_same_301 : decode cL_same 301 = .ok (.ireturn, 1) := by decide +kernel
theorem dL_run_0 : decode cL_run 0 = .ok (.iconst 0, 1) := by decide +kernel
theorem dL_run_1 : decode cL_run 1 = .ok (.istore 5, 2) := by decide +kernel
theorem dL_run_3 : decode cL_run 3 = .ok (.aload 4, 2) := by decide +kernel
theorem dL_run_5 : decode cL_run 5 = .ok (.iconst 1, 1) := by decide +kernel
theorem dL_run_6 : decode cL_run 6 = .ok (.dup2, 1) := by decide +kernel
theorem dL_run_7 : decode cL_run 7 = .ok (.iaload, 1) := by decide +kernel
theorem dL_run_8 : decode cL_run 8 = .ok (.iconst 1, 1) := by decide +kernel
theorem dL_run_9 : decode cL_run 9 = .ok (.iadd, 1) := by decide +kernel
theorem dL_run_10 : decode cL_run 10 = .ok (.iastore, 1) := by decide +kernel
theorem dL_run_11 : decode cL_run 11 = .ok (.iconst 0, 1) := by decide +kernel
theorem dL_run_12 : decode cL_run 12 = .ok (.istore 6, 2) := by decide +kernel
theorem dL_run_14 : decode cL_run 14 = .ok (.iload 6, 2) := by decide +kernel
theorem dL_run_16 : decode cL_run 16 = .ok (.bipush 8, 2) := by decide +kernel
theorem dL_run_18 : decode cL_run 18 = .ok (.if_icmp .ge 212, 3) := by decide +kernel
theorem dL_run_21 : decode cL_run 21 = .ok (.iconst 0, 1) := by decide +kernel
theorem dL_run_22 : decode cL_run 22 = .ok (.istore 7, 2) := by decide +kernel
theorem dL_run_24 : decode cL_run 24 = .ok (.iload 7, 2) := by decide +kernel
theorem dL_run_26 : decode cL_run 26 = .ok (.aload 4, 2) := by decide +kernel
theorem dL_run_28 : decode cL_run 28 = .ok (.iconst 3, 1) := by decide +kernel
theorem dL_run_29 : decode cL_run 29 = .ok (.iaload, 1) := by decide +kernel
theorem dL_run_30 : decode cL_run 30 = .ok (.if_icmp .ge 194, 3) := by decide +kernel
theorem dL_run_33 : decode cL_run 33 = .ok (.iconst 0, 1) := by decide +kernel
theorem dL_run_34 : decode cL_run 34 = .ok (.istore 8, 2) := by decide +kernel
theorem dL_run_36 : decode cL_run 36 = .ok (.iload 8, 2) := by decide +kernel
theorem dL_run_38 : decode cL_run 38 = .ok (.bipush 10, 2) := by decide +kernel
theorem dL_run_40 : decode cL_run 40 = .ok (.if_icmp .ge 178, 3) := by decide +kernel
theorem dL_run_43 : decode cL_run 43 = .ok (.aload_n 3, 1) := by decide +kernel
theorem dL_run_44 : decode cL_run 44 = .ok (.iconst 3, 1) := by decide +kernel
theorem dL_run_45 : decode cL_run 45 = .ok (.iload 7, 2) := by decide +kernel
theorem dL_run_47 : decode cL_run 47 = .ok (.imul, 1) := by decide +kernel
theorem dL_run_48 : decode cL_run 48 = .ok (.iconst 2, 1) := by decide +kernel
theorem dL_run_49 : decode cL_run 49 = .ok (.iadd, 1) := by decide +kernel
theorem dL_run_50 : decode cL_run 50 = .ok (.iaload, 1) := by decide +kernel
theorem dL_run_51 : decode cL_run 51 = .ok (.iload 6, 2) := by decide +kernel
theorem dL_run_53 : decode cL_run 53 = .ok (.if_icmp .ne 165, 3) := by decide +kernel
theorem dL_run_56 : decode cL_run 56 = .ok (.aload_n 0, 1) := by decide +kernel
theorem dL_run_57 : decode cL_run 57 = .ok (.bipush 6, 2) := by decide +kernel
theorem dL_run_59 : decode cL_run 59 = .ok (.iload 8, 2) := by decide +kernel
theorem dL_run_61 : decode cL_run 61 = .ok (.imul, 1) := by decide +kernel
theorem dL_run_62 : decode cL_run 62 = .ok (.iaload, 1) := by decide +kernel
theorem dL_run_63 : decode cL_run 63 = .ok (.ifCond .eq 149, 3) := by decide +kernel
theorem dL_run_66 : decode cL_run 66 = .ok (.aload_n 3, 1) := by decide +kernel
theorem dL_run_67 : decode cL_run 67 = .ok (.iconst 3, 1) := by decide +kernel
theorem dL_run_68 : decode cL_run 68 = .ok (.iload 7, 2) := by decide +kernel
theorem dL_run_70 : decode cL_run 70 = .ok (.imul, 1) := by decide +kernel
theorem dL_run_71 : decode cL_run 71 = .ok (.iaload, 1) := by decide +kernel
theorem dL_run_72 : decode cL_run 72 = .ok (.aload_n 3, 1) := by decide +kernel
theorem dL_run_73 : decode cL_run 73 = .ok (.iconst 3, 1) := by decide +kernel
theorem dL_run_74 : decode cL_run 74 = .ok (.iload 7, 2) := by decide +kernel
theorem dL_run_76 : decode cL_run 76 = .ok (.imul, 1) := by decide +kernel
theorem dL_run_77 : decode cL_run 77 = .ok (.iconst 1, 1) := by decide +kernel
theorem dL_run_78 : decode cL_run 78 = .ok (.iadd, 1) := by decide +kernel
theorem dL_run_79 : decode cL_run 79 = .ok (.iaload, 1) := by decide +kernel
theorem dL_run_80 : decode cL_run 80 = .ok (.ior, 1) := by decide +kernel
theorem dL_run_81 : decode cL_run 81 = .ok (.aload_n 0, 1) := by decide +kernel
theorem dL_run_82 : decode cL_run 82 = .ok (.bipush 6, 2) := by decide +kernel
theorem dL_run_84 : decode cL_run 84 = .ok (.iload 8, 2) := by decide +kernel
theorem dL_run_86 : decode cL_run 86 = .ok (.imul, 1) := by decide +kernel
theorem dL_run_87 : decode cL_run 87 = .ok (.iconst 2, 1) := by decide +kernel
theorem dL_run_88 : decode cL_run 88 = .ok (.iadd, 1) := by decide +kernel
theorem dL_run_89 : decode cL_run 89 = .ok (.iaload, 1) := by decide +kernel
theorem dL_run_90 : decode cL_run 90 = .ok (.iconst (-1), 1) := by decide +kernel
theorem dL_run_91 : decode cL_run 91 = .ok (.ixor, 1) := by decide +kernel
theorem dL_run_92 : decode cL_run 92 = .ok (.iand, 1) := by decide +kernel
theorem dL_run_93 : decode cL_run 93 = .ok (.ifCond .eq 6, 3) := by decide +kernel
theorem dL_run_96 : decode cL_run 96 = .ok (.goto 116, 3) := by decide +kernel
theorem dL_run_99 : decode cL_run 99 = .ok (.iconst 1, 1) := by decide +kernel
theorem dL_run_100 : decode cL_run 100 = .ok (.istore 9, 2) := by decide +kernel
theorem dL_run_102 : decode cL_run 102 = .ok (.iconst 0, 1) := by decide +kernel
theorem dL_run_103 : decode cL_run 103 = .ok (.istore 10, 2) := by decide +kernel
theorem dL_run_105 : decode cL_run 105 = .ok (.iload 10, 2) := by decide +kernel
theorem dL_run_107 : decode cL_run 107 = .ok (.bipush 6, 2) := by decide +kernel
theorem dL_run_109 : decode cL_run 109 = .ok (.if_icmp .ge 36, 3) := by decide +kernel
theorem dL_run_112 : decode cL_run 112 = .ok (.iload 9, 2) := by decide +kernel
theorem dL_run_114 : decode cL_run 114 = .ok (.aload_n 3, 1) := by decide +kernel
theorem dL_run_115 : decode cL_run 115 = .ok (.iconst 3, 1) := by decide +kernel
theorem dL_run_116 : decode cL_run 116 = .ok (.iload 7, 2) := by decide +kernel
theorem dL_run_118 : decode cL_run 118 = .ok (.imul, 1) := by decide +kernel
theorem dL_run_119 : decode cL_run 119 = .ok (.iaload, 1) := by decide +kernel
theorem dL_run_120 : decode cL_run 120 = .ok (.iload 10, 2) := by decide +kernel
theorem dL_run_122 : decode cL_run 122 = .ok (.ishr, 1) := by decide +kernel
theorem dL_run_123 : decode cL_run 123 = .ok (.iconst 1, 1) := by decide +kernel
theorem dL_run_124 : decode cL_run 124 = .ok (.iand, 1) := by decide +kernel
theorem dL_run_125 : decode cL_run 125 = .ok (.aload_n 1, 1) := by decide +kernel
theorem dL_run_126 : decode cL_run 126 = .ok (.bipush 6, 2) := by decide +kernel
theorem dL_run_128 : decode cL_run 128 = .ok (.iload 8, 2) := by decide +kernel
theorem dL_run_130 : decode cL_run 130 = .ok (.imul, 1) := by decide +kernel
theorem dL_run_131 : decode cL_run 131 = .ok (.iload 10, 2) := by decide +kernel
theorem dL_run_133 : decode cL_run 133 = .ok (.iadd, 1) := by decide +kernel
theorem dL_run_134 : decode cL_run 134 = .ok (.iaload, 1) := by decide +kernel
theorem dL_run_135 : decode cL_run 135 = .ok (.imul, 1) := by decide +kernel
theorem dL_run_136 : decode cL_run 136 = .ok (.iadd, 1) := by decide +kernel
theorem dL_run_137 : decode cL_run 137 = .ok (.istore 9, 2) := by decide +kernel
theorem dL_run_139 : decode cL_run 139 = .ok (.iinc 10 1, 3) := by decide +kernel
theorem dL_run_142 : decode cL_run 142 = .ok (.goto (-37), 3) := by decide +kernel
theorem dL_run_145 : decode cL_run 145 = .ok (.iconst 0, 1) := by decide +kernel
theorem dL_run_146 : decode cL_run 146 = .ok (.istore 10, 2) := by decide +kernel
theorem dL_run_148 : decode cL_run 148 = .ok (.iload 10, 2) := by decide +kernel
theorem dL_run_150 : decode cL_run 150 = .ok (.bipush 6, 2) := by decide +kernel
theorem dL_run_152 : decode cL_run 152 = .ok (.if_icmp .ge 60, 3) := by decide +kernel
theorem dL_run_155 : decode cL_run 155 = .ok (.aload_n 3, 1) := by decide +kernel
theorem dL_run_156 : decode cL_run 156 = .ok (.iconst 3, 1) := by decide +kernel
theorem dL_run_157 : decode cL_run 157 = .ok (.iload 7, 2) := by decide +kernel
theorem dL_run_159 : decode cL_run 159 = .ok (.imul, 1) := by decide +kernel
theorem dL_run_160 : decode cL_run 160 = .ok (.iconst 1, 1) := by decide +kernel
theorem dL_run_161 : decode cL_run 161 = .ok (.iadd, 1) := by decide +kernel
theorem dL_run_162 : decode cL_run 162 = .ok (.iaload, 1) := by decide +kernel
theorem dL_run_163 : decode cL_run 163 = .ok (.iload 10, 2) := by decide +kernel
theorem dL_run_165 : decode cL_run 165 = .ok (.ishr, 1) := by decide +kernel
theorem dL_run_166 : decode cL_run 166 = .ok (.iconst 1, 1) := by decide +kernel
theorem dL_run_167 : decode cL_run 167 = .ok (.iand, 1) := by decide +kernel
theorem dL_run_168 : decode cL_run 168 = .ok (.ifCond .ne 6, 3) := by decide +kernel
theorem dL_run_171 : decode cL_run 171 = .ok (.goto 35, 3) := by decide +kernel
theorem dL_run_174 : decode cL_run 174 = .ok (.aload_n 1, 1) := by decide +kernel
theorem dL_run_175 : decode cL_run 175 = .ok (.bipush 6, 2) := by decide +kernel
theorem dL_run_177 : decode cL_run 177 = .ok (.iload 8, 2) := by decide +kernel
theorem dL_run_179 : decode cL_run 179 = .ok (.imul, 1) := by decide +kernel
theorem dL_run_180 : decode cL_run 180 = .ok (.iload 10, 2) := by decide +kernel
theorem dL_run_182 : decode cL_run 182 = .ok (.iadd, 1) := by decide +kernel
theorem dL_run_183 : decode cL_run 183 = .ok (.dup2, 1) := by decide +kernel
theorem dL_run_184 : decode cL_run 184 = .ok (.iaload, 1) := by decide +kernel
theorem dL_run_185 : decode cL_run 185 = .ok (.iload 9, 2) := by decide +kernel
theorem dL_run_187 : decode cL_run 187 = .ok (.iadd, 1) := by decide +kernel
theorem dL_run_188 : decode cL_run 188 = .ok (.iastore, 1) := by decide +kernel
theorem dL_run_189 : decode cL_run 189 = .ok (.aload_n 2, 1) := by decide +kernel
theorem dL_run_190 : decode cL_run 190 = .ok (.bipush 6, 2) := by decide +kernel
theorem dL_run_192 : decode cL_run 192 = .ok (.iload 8, 2) := by decide +kernel
theorem dL_run_194 : decode cL_run 194 = .ok (.imul, 1) := by decide +kernel
theorem dL_run_195 : decode cL_run 195 = .ok (.iload 10, 2) := by decide +kernel
theorem dL_run_197 : decode cL_run 197 = .ok (.iadd, 1) := by decide +kernel
theorem dL_run_198 : decode cL_run 198 = .ok (.aload 4, 2) := by decide +kernel
theorem dL_run_200 : decode cL_run 200 = .ok (.iconst 1, 1) := by decide +kernel
theorem dL_run_201 : decode cL_run 201 = .ok (.iaload, 1) := by decide +kernel
theorem dL_run_202 : decode cL_run 202 = .ok (.iastore, 1) := by decide +kernel
theorem dL_run_203 : decode cL_run 203 = .ok (.iinc 5 1, 3) := by decide +kernel
theorem dL_run_206 : decode cL_run 206 = .ok (.iinc 10 1, 3) := by decide +kernel
theorem dL_run_209 : decode cL_run 209 = .ok (.goto (-61), 3) := by decide +kernel
theorem dL_run_212 : decode cL_run 212 = .ok (.iinc 8 1, 3) := by decide +kernel
theorem dL_run_215 : decode cL_run 215 = .ok (.goto (-179), 3) := by decide +kernel
theorem dL_run_218 : decode cL_run 218 = .ok (.iinc 7 1, 3) := by decide +kernel
theorem dL_run_221 : decode cL_run 221 = .ok (.goto (-197), 3) := by decide +kernel
theorem dL_run_224 : decode cL_run 224 = .ok (.iinc 6 1, 3) := by decide +kernel
theorem dL_run_227 : decode cL_run 227 = .ok (.goto (-213), 3) := by decide +kernel
theorem dL_run_230 : decode cL_run 230 = .ok (.iload 5, 2) := by decide +kernel
theorem dL_run_232 : decode cL_run 232 = .ok (.ireturn, 1) := by decide +kernel
set_option maxRecDepth 20000 in
theorem ggL_does_L_end : GoodIn wsL_does wsL_end := goodIn_r _ [4, 5, 6, 3, 7, 8, 9, 10, 11, 12, 13] (by decide +kernel) (by decide +kernel)
set_option maxRecDepth 20000 in
theorem gL_does_L_end : GoodIn wsL_does (va_wsS RL 139 yL_end wsL_end) := goodIn_app (goodIn_of _ (by decide +kernel)) ggL_does_L_end
set_option maxRecDepth 20000 in
theorem ggL_does_L_make : GoodIn wsL_does wsL_make := goodIn_r _ [16, 17, 18, 3, 19, 20, 21, 22, 8, 9, 10] (by decide +kernel) (by decide +kernel)
set_option maxRecDepth 20000 in
theorem gL_does_L_make : GoodIn wsL_does (va_wsS RL 141 yL_make wsL_make) := goodIn_app (goodIn_of _ (by decide +kernel)) ggL_does_L_make
set_option maxRecDepth 20000 in
theorem ggL_does_L_change : GoodIn wsL_does wsL_change := goodIn_r _ [25, 5, 6, 3, 7, 8, 9, 10, 11, 12, 13, 17, 18, 19, 20, 21, 22] (by decide +kernel) (by decide +kernel)
set_option maxRecDepth 20000 in
theorem gL_does_L_change : GoodIn wsL_does (va_wsS RL 144 yL_change wsL_change) := goodIn_app (goodIn_of _ (by decide +kernel)) ggL_does_L_change
theorem dL_does_0 : decode cL_does 0 = .ok (.iload_n 2, 1) := by decide +kernel
theorem dL_does_1 : decode cL_does 1 = .ok (.ifCond .lt 13, 3) := by decide +kernel
theorem dL_does_4 : decode cL_does 4 = .ok (.iload_n 2, 1) := by decide +kernel
theorem dL_does_5 : decode cL_does 5 = .ok (.bipush 6, 2) := by decide +kernel
theorem dL_does_7 : decode cL_does 7 = .ok (.if_icmp .ge 7, 3) := by decide +kernel
theorem dL_does_10 : decode cL_does 10 = .ok (.iconst 1, 1) := by decide +kernel
theorem dL_does_11 : decode cL_does 11 = .ok (.goto 4, 3) := by decide +kernel
theorem dL_does_14 : decode cL_does 14 = .ok (.iconst 0, 1) := by decide +kernel
theorem dL_does_15 : decode cL_does 15 = .ok (.istore 9, 2) := by decide +kernel
theorem dL_does_17 : decode cL_does 17 = .ok (.iload_n 0, 1) := by decide +kernel
theorem dL_does_18 : decode cL_does 18 = .ok (.iconst 2, 1) := by decide +kernel
theorem dL_does_19 : decode cL_does 19 = .ok (.if_icmp .ne 14, 3) := by decide +kernel
theorem dL_does_22 : decode cL_does 22 = .ok (.iload_n 1, 1) := by decide +kernel
theorem dL_does_23 : decode cL_does 23 = .ok (.ifCond .lt 10, 3) := by decide +kernel
theorem dL_does_26 : decode cL_does 26 = .ok (.iload_n 1, 1) := by decide +kernel
theorem dL_does_27 : decode cL_does 27 = .ok (.aload 4, 2) := by decide +kernel
theorem dL_does_29 : decode cL_does 29 = .ok (.invokestatic 139, 3) := by decide +kernel
theorem dL_does_32 : decode cL_does 32 = .ok (.pop, 1) := by decide +kernel
theorem dL_does_33 : decode cL_does 33 = .ok (.iload_n 0, 1) := by decide +kernel
theorem dL_does_34 : decode cL_does 34 = .ok (.iconst 2, 1) := by decide +kernel
theorem dL_does_35 : decode cL_does 35 = .ok (.if_icmp .ne 13, 3) := by decide +kernel
theorem dL_does_38 : decode cL_does 38 = .ok (.iload_n 1, 1) := by decide +kernel
theorem dL_does_39 : decode cL_does 39 = .ok (.ifCond .lt 7, 3) := by decide +kernel
theorem dL_does_42 : decode cL_does 42 = .ok (.iconst 1, 1) := by decide +kernel
theorem dL_does_43 : decode cL_does 43 = .ok (.goto 4, 3) := by decide +kernel
theorem dL_does_46 : decode cL_does 46 = .ok (.iconst 0, 1) := by decide +kernel
theorem dL_does_47 : decode cL_does 47 = .ok (.ireturn, 1) := by decide +kernel
theorem dL_does_48 : decode cL_does 48 = .ok (.iload 9, 2) := by decide +kernel
theorem dL_does_50 : decode cL_does 50 = .ok (.ifCond .eq 12, 3) := by decide +kernel
theorem dL_does_53 : decode cL_does 53 = .ok (.iload_n 0, 1) := by decide +kernel
theorem dL_does_54 : decode cL_does 54 = .ok (.iconst 3, 1) := by decide +kernel
theorem dL_does_55 : decode cL_does 55 = .ok (.if_icmp .ge 9, 3) := by decide +kernel
theorem dL_does_58 : decode cL_does 58 = .ok (.iload_n 1, 1) := by decide +kernel
theorem dL_does_59 : decode cL_does 59 = .ok (.ifCond .ge 5, 3) := by decide +kernel
theorem dL_does_62 : decode cL_does 62 = .ok (.iconst 0, 1) := by decide +kernel
theorem dL_does_63 : decode cL_does 63 = .ok (.ireturn, 1) := by decide +kernel
theorem dL_does_64 : decode cL_does 64 = .ok (.iload_n 0, 1) := by decide +kernel
theorem dL_does_65 : decode cL_does 65 = .ok (.iconst 3, 1) := by decide +kernel
theorem dL_does_66 : decode cL_does 66 = .ok (.if_icmp .ne 15, 3) := by decide +kernel
theorem dL_does_69 : decode cL_does 69 = .ok (.aload 4, 2) := by decide +kernel
theorem dL_does_71 : decode cL_does 71 = .ok (.aload 7, 2) := by decide +kernel
theorem dL_does_73 : decode cL_does 73 = .ok (.aload 8, 2) := by decide +kernel
theorem dL_does_75 : decode cL_does 75 = .ok (.invokestatic 141, 3) := by decide +kernel
theorem dL_does_78 : decode cL_does 78 = .ok (.goto 4, 3) := by decide +kernel
theorem dL_does_81 : decode cL_does 81 = .ok (.iload_n 1, 1) := by decide +kernel
theorem dL_does_82 : decode cL_does 82 = .ok (.istore 10, 2) := by decide +kernel
theorem dL_does_84 : decode cL_does 84 = .ok (.aload 4, 2) := by decide +kernel
theorem dL_does_86 : decode cL_does 86 = .ok (.bipush 6, 2) := by decide +kernel
theorem dL_does_88 : decode cL_does 88 = .ok (.iload 10, 2) := by decide +kernel
theorem dL_does_90 : decode cL_does 90 = .ok (.imul, 1) := by decide +kernel
theorem dL_does_91 : decode cL_does 91 = .ok (.iconst 2, 1) := by decide +kernel
theorem dL_does_92 : decode cL_does 92 = .ok (.iadd, 1) := by decide +kernel
theorem dL_does_93 : decode cL_does 93 = .ok (.iaload, 1) := by decide +kernel
theorem dL_does_94 : decode cL_does 94 = .ok (.iload_n 2, 1) := by decide +kernel
theorem dL_does_95 : decode cL_does 95 = .ok (.ishr, 1) := by decide +kernel
theorem dL_does_96 : decode cL_does 96 = .ok (.iconst 1, 1) := by decide +kernel
theorem dL_does_97 : decode cL_does 97 = .ok (.iand, 1) := by decide +kernel
theorem dL_does_98 : decode cL_does 98 = .ok (.iconst 1, 1) := by decide +kernel
theorem dL_does_99 : decode cL_does 99 = .ok (.if_icmp .ne 7, 3) := by decide +kernel
theorem dL_does_102 : decode cL_does 102 = .ok (.iconst 1, 1) := by decide +kernel
theorem dL_does_103 : decode cL_does 103 = .ok (.goto 4, 3) := by decide +kernel
theorem dL_does_106 : decode cL_does 106 = .ok (.iconst 0, 1) := by decide +kernel
theorem dL_does_107 : decode cL_does 107 = .ok (.istore 11, 2) := by decide +kernel
theorem dL_does_109 : decode cL_does 109 = .ok (.iload 11, 2) := by decide +kernel
theorem dL_does_111 : decode cL_does 111 = .ok (.iload_n 0, 1) := by decide +kernel
theorem dL_does_112 : decode cL_does 112 = .ok (.iconst 1, 1) := by decide +kernel
theorem dL_does_113 : decode cL_does 113 = .ok (.if_icmp .ne 7, 3) := by decide +kernel
theorem dL_does_116 : decode cL_does 116 = .ok (.iconst 1, 1) := by decide +kernel
theorem dL_does_117 : decode cL_does 117 = .ok (.goto 4, 3) := by decide +kernel
theorem dL_does_120 : decode cL_does 120 = .ok (.iconst 0, 1) := by decide +kernel
theorem dL_does_121 : decode cL_does 121 = .ok (.if_icmp .eq 5, 3) := by decide +kernel
theorem dL_does_124 : decode cL_does 124 = .ok (.iconst 0, 1) := by decide +kernel
theorem dL_does_125 : decode cL_does 125 = .ok (.ireturn, 1) := by decide +kernel
theorem dL_does_126 : decode cL_does 126 = .ok (.iload_n 0, 1) := by decide +kernel
theorem dL_does_127 : decode cL_does 127 = .ok (.iconst 1, 1) := by decide +kernel
theorem dL_does_128 : decode cL_does 128 = .ok (.if_icmp .eq 28, 3) := by decide +kernel
theorem dL_does_131 : decode cL_does 131 = .ok (.aload 5, 2) := by decide +kernel
theorem dL_does_133 : decode cL_does 133 = .ok (.bipush 6, 2) := by decide +kernel
theorem dL_does_135 : decode cL_does 135 = .ok (.iload 10, 2) := by decide +kernel
theorem dL_does_137 : decode cL_does 137 = .ok (.imul, 1) := by decide +kernel
theorem dL_does_138 : decode cL_does 138 = .ok (.iload_n 2, 1) := by decide +kernel
theorem dL_does_139 : decode cL_does 139 = .ok (.iadd, 1) := by decide +kernel
theorem dL_does_140 : decode cL_does 140 = .ok (.iload_n 3, 1) := by decide +kernel
theorem dL_does_141 : decode cL_does 141 = .ok (.iastore, 1) := by decide +kernel
theorem dL_does_142 : decode cL_does 142 = .ok (.aload 6, 2) := by decide +kernel
theorem dL_does_144 : decode cL_does 144 = .ok (.bipush 6, 2) := by decide +kernel
theorem dL_does_146 : decode cL_does 146 = .ok (.iload 10, 2) := by decide +kernel
theorem dL_does_148 : decode cL_does 148 = .ok (.imul, 1) := by decide +kernel
theorem dL_does_149 : decode cL_does 149 = .ok (.iload_n 2, 1) := by decide +kernel
theorem dL_does_150 : decode cL_does 150 = .ok (.iadd, 1) := by decide +kernel
theorem dL_does_151 : decode cL_does 151 = .ok (.aload 8, 2) := by decide +kernel
theorem dL_does_153 : decode cL_does 153 = .ok (.iconst 1, 1) := by decide +kernel
theorem dL_does_154 : decode cL_does 154 = .ok (.iaload, 1) := by decide +kernel
theorem dL_does_155 : decode cL_does 155 = .ok (.iastore, 1) := by decide +kernel
theorem dL_does_156 : decode cL_does 156 = .ok (.iload 10, 2) := by decide +kernel
theorem dL_does_158 : decode cL_does 158 = .ok (.aload 4, 2) := by decide +kernel
theorem dL_does_160 : decode cL_does 160 = .ok (.bipush 6, 2) := by decide +kernel
theorem dL_does_162 : decode cL_does 162 = .ok (.iload 10, 2) := by decide +kernel
theorem dL_does_164 : decode cL_does 164 = .ok (.imul, 1) := by decide +kernel
theorem dL_does_165 : decode cL_does 165 = .ok (.iconst 2, 1) := by decide +kernel
theorem dL_does_166 : decode cL_does 166 = .ok (.iadd, 1) := by decide +kernel
theorem dL_does_167 : decode cL_does 167 = .ok (.iaload, 1) := by decide +kernel
theorem dL_does_168 : decode cL_does 168 = .ok (.iconst 1, 1) := by decide +kernel
theorem dL_does_169 : decode cL_does 169 = .ok (.iload_n 2, 1) := by decide +kernel
theorem dL_does_170 : decode cL_does 170 = .ok (.ishl, 1) := by decide +kernel
theorem dL_does_171 : decode cL_does 171 = .ok (.ixor, 1) := by decide +kernel
theorem dL_does_172 : decode cL_does 172 = .ok (.aload 4, 2) := by decide +kernel
theorem dL_does_174 : decode cL_does 174 = .ok (.aload 7, 2) := by decide +kernel
theorem dL_does_176 : decode cL_does 176 = .ok (.aload 8, 2) := by decide +kernel
theorem dL_does_178 : decode cL_does 178 = .ok (.invokestatic 144, 3) := by decide +kernel
theorem dL_does_181 : decode cL_does 181 = .ok (.iconst 1, 1) := by decide +kernel
theorem dL_does_182 : decode cL_does 182 = .ok (.ireturn, 1) := by decide +kernel
theorem dL_there_0 : decode cL_there 0 = .ok (.iconst 0, 1) := by decide +kernel
theorem dL_there_1 : decode cL_there 1 = .ok (.istore_n 1, 1) := by decide +kernel
theorem dL_there_2 : decode cL_there 2 = .ok (.iconst 0, 1) := by decide +kernel
theorem dL_there_3 : decode cL_there 3 = .ok (.istore_n 2, 1) := by decide +kernel
theorem dL_there_4 : decode cL_there 4 = .ok (.iload_n 2, 1) := by decide +kernel
theorem dL_there_5 : decode cL_there 5 = .ok (.bipush 10, 2) := by decide +kernel
theorem dL_there_7 : decode cL_there 7 = .ok (.if_icmp .ge 18, 3) := by decide +kernel
theorem dL_there_10 : decode cL_there 10 = .ok (.iload_n 1, 1) := by decide +kernel
theorem dL_there_11 : decode cL_there 11 = .ok (.aload_n 0, 1) := by decide +kernel
theorem dL_there_12 : decode cL_there 12 = .ok (.bipush 6, 2) := by decide +kernel
theorem dL_there_14 : decode cL_there 14 = .ok (.iload_n 2, 1) := by decide +kernel
theorem dL_there_15 : decode cL_there 15 = .ok (.imul, 1) := by decide +kernel
theorem dL_there_16 : decode cL_there 16 = .ok (.iaload, 1) := by decide +kernel
theorem dL_there_17 : decode cL_there 17 = .ok (.iadd, 1) := by decide +kernel
theorem dL_there_18 : decode cL_there 18 = .ok (.istore_n 1, 1) := by decide +kernel
theorem dL_there_19 : decode cL_there 19 = .ok (.iinc 2 1, 3) := by decide +kernel
theorem dL_there_22 : decode cL_there 22 = .ok (.goto (-18), 3) := by decide +kernel
theorem dL_there_25 : decode cL_there 25 = .ok (.iload_n 1, 1) := by decide +kernel
theorem dL_there_26 : decode cL_there 26 = .ok (.ireturn, 1) := by decide +kernel

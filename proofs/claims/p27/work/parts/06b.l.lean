set_option maxRecDepth 20000 in
theorem ggL_refuses_X0_common : GoodIn wsL_refuses wsX0_common := goodIn_r _ [8, 9, 10, 11, 12, 7, 13, 14, 15, 16, 17, 18, 19, 20, 21, 22, 23, 24, 25, 26, 27, 28, 29, 30, 31, 32, 33, 34, 35, 36, 37, 38, 39, 40, 41, 42, 43, 44, 45, 46, 47, 48, 49, 50, 51, 52, 53, 54, 55, 56, 57, 58, 59, 60, 61, 62, 63, 64, 65, 66, 67, 68, 69, 321, 322, 323, 324, 325, 326, 327, 328, 329, 330, 331, 332] (by decide +kernel) (by decide +kernel)
set_option maxRecDepth 20000 in
theorem gL_refuses_X0_common : GoodIn wsL_refuses (wsV RL 91 RX0 yX0_common wsX0_common) := goodIn_app (goodIn_of _ (by decide +kernel)) ggL_refuses_X0_common
set_option maxRecDepth 20000 in
theorem ggL_refuses_L_act : GoodIn wsL_refuses wsL_act := goodIn_ca (goodIn_ca (goodIn_ca (goodIn_r _ [73, 74, 75, 76, 3, 2, 77, 78, 79, 80, 7, 81, 9, 82, 83, 84, 85, 32, 47, 86, 87, 88, 89, 90, 91, 92, 93, 94, 20, 21, 22, 23, 95, 96, 97, 98, 99, 100, 101, 102, 103, 104, 105, 106, 107, 33, 34, 35, 108, 109, 110, 111, 112, 113, 48, 49, 50, 36, 37, 38, 114, 115, 116, 117, 118, 119, 120, 121, 122, 123, 124, 125, 126, 127, 128, 129, 130, 131, 28, 29, 30, 31, 132, 133, 134, 135, 43, 44, 45, 46, 136, 137, 138, 139, 140, 141, 142, 143, 144, 145, 146, 147, 148, 149, 150, 151, 152, 153, 154, 155, 156, 157, 158, 159, 160, 161, 162, 163, 164, 59, 60, 61, 62, 63, 64, 65, 165, 166, 167, 168, 169, 170, 171, 172, 173, 174, 175, 176, 39, 40, 41, 42, 177, 178, 179, 180, 181, 182, 183, 184, 185, 186, 187, 188, 189, 190, 191, 192, 193, 194, 195, 196, 197, 198, 199, 200, 201, 202, 203, 204, 205, 206, 207, 208, 209, 210, 211, 212, 213, 214, 215, 216, 217, 218, 219, 220, 221, 222, 223, 224, 225, 226, 227, 228, 229, 230, 231, 232, 233, 234, 235, 236, 237, 238, 239, 240, 241, 242, 243, 244, 245, 246, 247, 248, 249, 250, 251, 252, 253, 254, 255, 256, 257, 258, 259, 260, 261, 262, 263, 264, 265, 266, 267, 268, 269, 270, 271, 272, 273, 274, 275, 276, 277, 278, 279, 280, 281, 282, 283, 284, 285, 286, 287, 288, 289, 290, 291, 292, 293, 294, 295, 296, 297, 298, 299, 300, 301, 302, 303, 304, 305, 306, 307, 308, 309, 310, 311, 312, 321, 322, 323, 324, 325, 326, 327, 328, 329, 330, 331, 332] rfl (by decide +kernel)) (goodIn_sub (fun _ h => List.mem_cons_of_mem _ (List.mem_append_left _ (List.mem_append_left _ (List.mem_append_right _ h)))) (by decide +kernel))) (goodIn_sub (fun _ h => List.mem_cons_of_mem _ (List.mem_append_left _ (List.mem_append_right _ h))) (by decide +kernel))) (goodIn_sub (fun _ h => List.mem_cons_of_mem _ (List.mem_append_right _ h)) (by decide +kernel))
set_option maxRecDepth 20000 in
theorem gL_refuses_L_act : GoodIn wsL_refuses (va_wsS RL 95 yL_act wsL_act) := goodIn_app (goodIn_of _ (by decide +kernel)) ggL_refuses_L_act
set_option maxRecDepth 20000 in
theorem ggL_refuses_X0_commonAnew : GoodIn wsL_refuses wsX0_commonAnew := goodIn_r _ [316, 295, 296, 175, 297, 153, 154, 155, 7, 156, 9, 317, 318, 319, 320, 39, 40, 41, 42, 36, 37, 38, 28, 29, 30, 31, 32, 33, 34, 35, 43, 44, 45, 46, 47, 59, 60, 61, 62, 63, 64, 65, 321, 322, 323, 324, 325, 326, 327, 328, 329, 330, 331, 332] (by decide +kernel) (by decide +kernel)
set_option maxRecDepth 20000 in
theorem gL_refuses_X0_commonAnew : GoodIn wsL_refuses (wsV RL 101 RX0 yX0_commonAnew wsX0_commonAnew) := goodIn_app (goodIn_of _ (by decide +kernel)) ggL_refuses_X0_commonAnew
theorem dL_refuses_0 : decode cL_refuses 0 = .ok (.ldc 90, 2) := by decide +kernel
theorem dL_refuses_2 : decode cL_refuses 2 = .ok (.istore_n 3, 1) := by decide +kernel
theorem dL_refuses_3 : decode cL_refuses 3 = .ok (.aload_n 0, 1) := by decide +kernel
theorem dL_refuses_4 : decode cL_refuses 4 = .ok (.invokevirtual 91, 3) := by decide +kernel
theorem dL_refuses_7 : decode cL_refuses 7 = .ok (.istore 4, 2) := by decide +kernel
theorem dL_refuses_9 : decode cL_refuses 9 = .ok (.iconst 0, 1) := by decide +kernel
theorem dL_refuses_10 : decode cL_refuses 10 = .ok (.istore 5, 2) := by decide +kernel
theorem dL_refuses_12 : decode cL_refuses 12 = .ok (.iload 5, 2) := by decide +kernel
theorem dL_refuses_14 : decode cL_refuses 14 = .ok (.iconst 4, 1) := by decide +kernel
theorem dL_refuses_15 : decode cL_refuses 15 = .ok (.if_icmp .ge 678, 3) := by decide +kernel
theorem dL_refuses_18 : decode cL_refuses 18 = .ok (.iload 5, 2) := by decide +kernel
theorem dL_refuses_20 : decode cL_refuses 20 = .ok (.ifCond .ne 7, 3) := by decide +kernel
theorem dL_refuses_23 : decode cL_refuses 23 = .ok (.iconst (-1), 1) := by decide +kernel
theorem dL_refuses_24 : decode cL_refuses 24 = .ok (.goto 17, 3) := by decide +kernel
theorem dL_refuses_27 : decode cL_refuses 27 = .ok (.iload 5, 2) := by decide +kernel
theorem dL_refuses_29 : decode cL_refuses 29 = .ok (.iconst 2, 1) := by decide +kernel
theorem dL_refuses_30 : decode cL_refuses 30 = .ok (.if_icmp .ne 7, 3) := by decide +kernel
theorem dL_refuses_33 : decode cL_refuses 33 = .ok (.iload_n 3, 1) := by decide +kernel
theorem dL_refuses_34 : decode cL_refuses 34 = .ok (.goto 7, 3) := by decide +kernel
theorem dL_refuses_37 : decode cL_refuses 37 = .ok (.iload_n 3, 1) := by decide +kernel
theorem dL_refuses_38 : decode cL_refuses 38 = .ok (.ineg, 1) := by decide +kernel
theorem dL_refuses_39 : decode cL_refuses 39 = .ok (.iconst 1, 1) := by decide +kernel
theorem dL_refuses_40 : decode cL_refuses 40 = .ok (.isub, 1) := by decide +kernel
theorem dL_refuses_41 : decode cL_refuses 41 = .ok (.istore 6, 2) := by decide +kernel
theorem dL_refuses_43 : decode cL_refuses 43 = .ok (.iload 5, 2) := by decide +kernel
theorem dL_refuses_45 : decode cL_refuses 45 = .ok (.iconst 1, 1) := by decide +kernel
theorem dL_refuses_46 : decode cL_refuses 46 = .ok (.if_icmp .ne 7, 3) := by decide +kernel
theorem dL_refuses_49 : decode cL_refuses 49 = .ok (.iload_n 1, 1) := by decide +kernel
theorem dL_refuses_50 : decode cL_refuses 50 = .ok (.goto 5, 3) := by decide +kernel
theorem dL_refuses_53 : decode cL_refuses 53 = .ok (.iload 6, 2) := by decide +kernel
theorem dL_refuses_55 : decode cL_refuses 55 = .ok (.istore 7, 2) := by decide +kernel
theorem dL_refuses_57 : decode cL_refuses 57 = .ok (.iload 5, 2) := by decide +kernel
theorem dL_refuses_59 : decode cL_refuses 59 = .ok (.iconst 1, 1) := by decide +kernel
theorem dL_refuses_60 : decode cL_refuses 60 = .ok (.if_icmp .ne 7, 3) := by decide +kernel
theorem dL_refuses_63 : decode cL_refuses 63 = .ok (.iload_n 2, 1) := by decide +kernel
theorem dL_refuses_64 : decode cL_refuses 64 = .ok (.goto 5, 3) := by decide +kernel
theorem dL_refuses_67 : decode cL_refuses 67 = .ok (.iload 6, 2) := by decide +kernel
theorem dL_refuses_69 : decode cL_refuses 69 = .ok (.istore 8, 2) := by decide +kernel
theorem dL_refuses_71 : decode cL_refuses 71 = .ok (.iload 5, 2) := by decide +kernel
theorem dL_refuses_73 : decode cL_refuses 73 = .ok (.iconst 1, 1) := by decide +kernel
theorem dL_refuses_74 : decode cL_refuses 74 = .ok (.if_icmp .ne 8, 3) := by decide +kernel
theorem dL_refuses_77 : decode cL_refuses 77 = .ok (.bipush 6, 2) := by decide +kernel
theorem dL_refuses_79 : decode cL_refuses 79 = .ok (.goto 5, 3) := by decide +kernel
theorem dL_refuses_82 : decode cL_refuses 82 = .ok (.iload 6, 2) := by decide +kernel
theorem dL_refuses_84 : decode cL_refuses 84 = .ok (.istore 9, 2) := by decide +kernel
theorem dL_refuses_86 : decode cL_refuses 86 = .ok (.iload 5, 2) := by decide +kernel
theorem dL_refuses_88 : decode cL_refuses 88 = .ok (.iconst 1, 1) := by decide +kernel
theorem dL_refuses_89 : decode cL_refuses 89 = .ok (.if_icmp .ne 9, 3) := by decide +kernel
theorem dL_refuses_92 : decode cL_refuses 92 = .ok (.iconst 1, 1) := by decide +kernel
theorem dL_refuses_93 : decode cL_refuses 93 = .ok (.iload_n 1, 1) := by decide +kernel
theorem dL_refuses_94 : decode cL_refuses 94 = .ok (.ishl, 1) := by decide +kernel
theorem dL_refuses_95 : decode cL_refuses 95 = .ok (.goto 5, 3) := by decide +kernel
theorem dL_refuses_98 : decode cL_refuses 98 = .ok (.iload 6, 2) := by decide +kernel
theorem dL_refuses_100 : decode cL_refuses 100 = .ok (.istore 10, 2) := by decide +kernel
theorem dL_refuses_102 : decode cL_refuses 102 = .ok (.iload 5, 2) := by decide +kernel
theorem dL_refuses_104 : decode cL_refuses 104 = .ok (.iconst 1, 1) := by decide +kernel
theorem dL_refuses_105 : decode cL_refuses 105 = .ok (.if_icmp .ne 8, 3) := by decide +kernel
theorem dL_refuses_108 : decode cL_refuses 108 = .ok (.bipush 7, 2) := by decide +kernel
theorem dL_refuses_110 : decode cL_refuses 110 = .ok (.goto 5, 3) := by decide +kernel
theorem dL_refuses_113 : decode cL_refuses 113 = .ok (.iload 6, 2) := by decide +kernel
theorem dL_refuses_115 : decode cL_refuses 115 = .ok (.istore 11, 2) := by decide +kernel
theorem dL_refuses_117 : decode cL_refuses 117 = .ok (.aload_n 0, 1) := by decide +kernel
theorem dL_refuses_118 : decode cL_refuses 118 = .ok (.iconst 0, 1) := by decide +kernel
theorem dL_refuses_119 : decode cL_refuses 119 = .ok (.iload 5, 2) := by decide +kernel
theorem dL_refuses_121 : decode cL_refuses 121 = .ok (.ifCond .ne 7, 3) := by decide +kernel
theorem dL_refuses_124 : decode cL_refuses 124 = .ok (.iconst 0, 1) := by decide +kernel
theorem dL_refuses_125 : decode cL_refuses 125 = .ok (.goto 5, 3) := by decide +kernel
theorem dL_refuses_128 : decode cL_refuses 128 = .ok (.iload 11, 2) := by decide +kernel
theorem dL_refuses_130 : decode cL_refuses 130 = .ok (.iconst 0, 1) := by decide +kernel
theorem dL_refuses_131 : decode cL_refuses 131 = .ok (.iconst 0, 1) := by decide +kernel
theorem dL_refuses_132 : decode cL_refuses 132 = .ok (.invokestatic 95, 3) := by decide +kernel
theorem dL_refuses_135 : decode cL_refuses 135 = .ok (.ldc 86, 2) := by decide +kernel
theorem dL_refuses_137 : decode cL_refuses 137 = .ok (.if_icmp .ne 300, 3) := by decide +kernel
theorem dL_refuses_140 : decode cL_refuses 140 = .ok (.aload_n 0, 1) := by decide +kernel
theorem dL_refuses_141 : decode cL_refuses 141 = .ok (.iconst 1, 1) := by decide +kernel
theorem dL_refuses_142 : decode cL_refuses 142 = .ok (.iload 7, 2) := by decide +kernel
theorem dL_refuses_144 : decode cL_refuses 144 = .ok (.iconst 0, 1) := by decide +kernel
theorem dL_refuses_145 : decode cL_refuses 145 = .ok (.iconst 1, 1) := by decide +kernel
theorem dL_refuses_146 : decode cL_refuses 146 = .ok (.invokestatic 95, 3) := by decide +kernel
theorem dL_refuses_149 : decode cL_refuses 149 = .ok (.ldc 83, 2) := by decide +kernel
theorem dL_refuses_151 : decode cL_refuses 151 = .ok (.if_icmp .ne 286, 3) := by decide +kernel
theorem dL_refuses_154 : decode cL_refuses 154 = .ok (.aload_n 0, 1) := by decide +kernel
theorem dL_refuses_155 : decode cL_refuses 155 = .ok (.iconst 1, 1) := by decide +kernel
theorem dL_refuses_156 : decode cL_refuses 156 = .ok (.iconst 0, 1) := by decide +kernel
theorem dL_refuses_157 : decode cL_refuses 157 = .ok (.iload 5, 2) := by decide +kernel
theorem dL_refuses_159 : decode cL_refuses 159 = .ok (.iconst 1, 1) := by decide +kernel
theorem dL_refuses_160 : decode cL_refuses 160 = .ok (.if_icmp .ne 8, 3) := by decide +kernel
theorem dL_refuses_163 : decode cL_refuses 163 = .ok (.bipush 10, 2) := by decide +kernel
theorem dL_refuses_165 : decode cL_refuses 165 = .ok (.goto 5, 3) := by decide +kernel
theorem dL_refuses_168 : decode cL_refuses 168 = .ok (.iload 6, 2) := by decide +kernel
theorem dL_refuses_170 : decode cL_refuses 170 = .ok (.iconst 1, 1) := by decide +kernel
theorem dL_refuses_171 : decode cL_refuses 171 = .ok (.invokestatic 95, 3) := by decide +kernel
theorem dL_refuses_174 : decode cL_refuses 174 = .ok (.ldc 83, 2) := by decide +kernel
theorem dL_refuses_176 : decode cL_refuses 176 = .ok (.if_icmp .ne 261, 3) := by decide +kernel
theorem dL_refuses_179 : decode cL_refuses 179 = .ok (.aload_n 0, 1) := by decide +kernel
theorem dL_refuses_180 : decode cL_refuses 180 = .ok (.iconst 2, 1) := by decide +kernel
theorem dL_refuses_181 : decode cL_refuses 181 = .ok (.iload 7, 2) := by decide +kernel
theorem dL_refuses_183 : decode cL_refuses 183 = .ok (.iconst 0, 1) := by decide +kernel
theorem dL_refuses_184 : decode cL_refuses 184 = .ok (.bipush 99, 2) := by decide +kernel
theorem dL_refuses_186 : decode cL_refuses 186 = .ok (.invokestatic 95, 3) := by decide +kernel
theorem dL_refuses_189 : decode cL_refuses 189 = .ok (.ldc 83, 2) := by decide +kernel
theorem dL_refuses_191 : decode cL_refuses 191 = .ok (.if_icmp .ne 246, 3) := by decide +kernel
theorem dL_refuses_194 : decode cL_refuses 194 = .ok (.aload_n 0, 1) := by decide +kernel
theorem dL_refuses_195 : decode cL_refuses 195 = .ok (.iconst 2, 1) := by decide +kernel
theorem dL_refuses_196 : decode cL_refuses 196 = .ok (.iconst 0, 1) := by decide +kernel
theorem dL_refuses_197 : decode cL_refuses 197 = .ok (.iload 7, 2) := by decide +kernel
theorem dL_refuses_199 : decode cL_refuses 199 = .ok (.bipush 99, 2) := by decide +kernel
theorem dL_refuses_201 : decode cL_refuses 201 = .ok (.invokestatic 95, 3) := by decide +kernel
theorem dL_refuses_204 : decode cL_refuses 204 = .ok (.ldc 83, 2) := by decide +kernel
theorem dL_refuses_206 : decode cL_refuses 206 = .ok (.if_icmp .ne 231, 3) := by decide +kernel
theorem dL_refuses_209 : decode cL_refuses 209 = .ok (.aload_n 0, 1) := by decide +kernel
theorem dL_refuses_210 : decode cL_refuses 210 = .ok (.iconst 2, 1) := by decide +kernel
theorem dL_refuses_211 : decode cL_refuses 211 = .ok (.iconst 0, 1) := by decide +kernel
theorem dL_refuses_212 : decode cL_refuses 212 = .ok (.iconst 0, 1) := by decide +kernel
theorem dL_refuses_213 : decode cL_refuses 213 = .ok (.iconst 5, 1) := by decide +kernel
theorem dL_refuses_214 : decode cL_refuses 214 = .ok (.invokestatic 95, 3) := by decide +kernel
theorem dL_refuses_217 : decode cL_refuses 217 = .ok (.ldc 86, 2) := by decide +kernel
theorem dL_refuses_219 : decode cL_refuses 219 = .ok (.if_icmp .ne 218, 3) := by decide +kernel
theorem dL_refuses_222 : decode cL_refuses 222 = .ok (.iload_n 1, 1) := by decide +kernel
theorem dL_refuses_223 : decode cL_refuses 223 = .ok (.iconst 2, 1) := by decide +kernel
theorem dL_refuses_224 : decode cL_refuses 224 = .ok (.if_icmp .lt 28, 3) := by decide +kernel
theorem dL_refuses_227 : decode cL_refuses 227 = .ok (.aload_n 0, 1) := by decide +kernel
theorem dL_refuses_228 : decode cL_refuses 228 = .ok (.iconst 2, 1) := by decide +kernel
theorem dL_refuses_229 : decode cL_refuses 229 = .ok (.iconst 0, 1) := by decide +kernel
theorem dL_refuses_230 : decode cL_refuses 230 = .ok (.iconst 1, 1) := by decide +kernel
theorem dL_refuses_231 : decode cL_refuses 231 = .ok (.iload 5, 2) := by decide +kernel
theorem dL_refuses_233 : decode cL_refuses 233 = .ok (.iconst 1, 1) := by decide +kernel
theorem dL_refuses_234 : decode cL_refuses 234 = .ok (.if_icmp .ne 8, 3) := by decide +kernel
theorem dL_refuses_237 : decode cL_refuses 237 = .ok (.bipush 21, 2) := by decide +kernel
theorem dL_refuses_239 : decode cL_refuses 239 = .ok (.goto 5, 3) := by decide +kernel
theorem dL_refuses_242 : decode cL_refuses 242 = .ok (.iload 6, 2) := by decide +kernel
theorem dL_refuses_244 : decode cL_refuses 244 = .ok (.invokestatic 95, 3) := by decide +kernel
theorem dL_refuses_247 : decode cL_refuses 247 = .ok (.ldc 86, 2) := by decide +kernel
theorem dL_refuses_249 : decode cL_refuses 249 = .ok (.if_icmp .ne 188, 3) := by decide +kernel
theorem dL_refuses_252 : decode cL_refuses 252 = .ok (.aload_n 0, 1) := by decide +kernel
theorem dL_refuses_253 : decode cL_refuses 253 = .ok (.iconst 3, 1) := by decide +kernel
theorem dL_refuses_254 : decode cL_refuses 254 = .ok (.iload 5, 2) := by decide +kernel
theorem dL_refuses_256 : decode cL_refuses 256 = .ok (.iconst 1, 1) := by decide +kernel
theorem dL_refuses_257 : decode cL_refuses 257 = .ok (.if_icmp .ne 7, 3) := by decide +kernel
theorem dL_refuses_260 : decode cL_refuses 260 = .ok (.iconst 2, 1) := by decide +kernel
theorem dL_refuses_261 : decode cL_refuses 261 = .ok (.goto 5, 3) := by decide +kernel
theorem dL_refuses_264 : decode cL_refuses 264 = .ok (.iload 6, 2) := by decide +kernel
theorem dL_refuses_266 : decode cL_refuses 266 = .ok (.iconst 0, 1) := by decide +kernel
theorem dL_refuses_267 : decode cL_refuses 267 = .ok (.iconst 0, 1) := by decide +kernel
theorem dL_refuses_268 : decode cL_refuses 268 = .ok (.invokestatic 95, 3) := by decide +kernel
theorem dL_refuses_271 : decode cL_refuses 271 = .ok (.ldc 83, 2) := by decide +kernel
theorem dL_refuses_273 : decode cL_refuses 273 = .ok (.if_icmp .ne 164, 3) := by decide +kernel
theorem dL_refuses_276 : decode cL_refuses 276 = .ok (.aload_n 0, 1) := by decide +kernel
theorem dL_refuses_277 : decode cL_refuses 277 = .ok (.iconst 3, 1) := by decide +kernel
theorem dL_refuses_278 : decode cL_refuses 278 = .ok (.iconst 0, 1) := by decide +kernel
theorem dL_refuses_279 : decode cL_refuses 279 = .ok (.iload 7, 2) := by decide +kernel
theorem dL_refuses_281 : decode cL_refuses 281 = .ok (.iconst 0, 1) := by decide +kernel
theorem dL_refuses_282 : decode cL_refuses 282 = .ok (.invokestatic 95, 3) := by decide +kernel
theorem dL_refuses_285 : decode cL_refuses 285 = .ok (.ldc 83, 2) := by decide +kernel
theorem dL_refuses_287 : decode cL_refuses 287 = .ok (.if_icmp .ne 150, 3) := by decide +kernel
theorem dL_refuses_290 : decode cL_refuses 290 = .ok (.aload_n 0, 1) := by decide +kernel
theorem dL_refuses_291 : decode cL_refuses 291 = .ok (.iconst 3, 1) := by decide +kernel
theorem dL_refuses_292 : decode cL_refuses 292 = .ok (.iconst 0, 1) := by decide +kernel
theorem dL_refuses_293 : decode cL_refuses 293 = .ok (.iconst 0, 1) := by decide +kernel
theorem dL_refuses_294 : decode cL_refuses 294 = .ok (.iload 9, 2) := by decide +kernel
theorem dL_refuses_296 : decode cL_refuses 296 = .ok (.invokestatic 95, 3) := by decide +kernel
theorem dL_refuses_299 : decode cL_refuses 299 = .ok (.ldc 83, 2) := by decide +kernel
theorem dL_refuses_301 : decode cL_refuses 301 = .ok (.if_icmp .ne 136, 3) := by decide +kernel
theorem dL_refuses_304 : decode cL_refuses 304 = .ok (.aload_n 0, 1) := by decide +kernel
theorem dL_refuses_305 : decode cL_refuses 305 = .ok (.iconst 4, 1) := by decide +kernel
theorem dL_refuses_306 : decode cL_refuses 306 = .ok (.iload 5, 2) := by decide +kernel
theorem dL_refuses_308 : decode cL_refuses 308 = .ok (.iconst 1, 1) := by decide +kernel
theorem dL_refuses_309 : decode cL_refuses 309 = .ok (.if_icmp .ne 7, 3) := by decide +kernel
theorem dL_refuses_312 : decode cL_refuses 312 = .ok (.iconst 2, 1) := by decide +kernel
theorem dL_refuses_313 : decode cL_refuses 313 = .ok (.goto 5, 3) := by decide +kernel
theorem dL_refuses_316 : decode cL_refuses 316 = .ok (.iload 6, 2) := by decide +kernel
theorem dL_refuses_318 : decode cL_refuses 318 = .ok (.iconst 0, 1) := by decide +kernel
theorem dL_refuses_319 : decode cL_refuses 319 = .ok (.bipush 99, 2) := by decide +kernel
theorem dL_refuses_321 : decode cL_refuses 321 = .ok (.invokestatic 95, 3) := by decide +kernel
theorem dL_refuses_324 : decode cL_refuses 324 = .ok (.ldc 83, 2) := by decide +kernel
theorem dL_refuses_326 : decode cL_refuses 326 = .ok (.if_icmp .ne 111, 3) := by decide +kernel
theorem dL_refuses_329 : decode cL_refuses 329 = .ok (.aload_n 0, 1) := by decide +kernel
theorem dL_refuses_330 : decode cL_refuses 330 = .ok (.iconst 4, 1) := by decide +kernel
theorem dL_refuses_331 : decode cL_refuses 331 = .ok (.iconst 0, 1) := by decide +kernel
theorem dL_refuses_332 : decode cL_refuses 332 = .ok (.iload 9, 2) := by decide +kernel
theorem dL_refuses_334 : decode cL_refuses 334 = .ok (.bipush 99, 2) := by decide +kernel
theorem dL_refuses_336 : decode cL_refuses 336 = .ok (.invokestatic 95, 3) := by decide +kernel
theorem dL_refuses_339 : decode cL_refuses 339 = .ok (.ldc 83, 2) := by decide +kernel
theorem dL_refuses_341 : decode cL_refuses 341 = .ok (.if_icmp .ne 96, 3) := by decide +kernel
theorem dL_refuses_344 : decode cL_refuses 344 = .ok (.aload_n 0, 1) := by decide +kernel
theorem dL_refuses_345 : decode cL_refuses 345 = .ok (.iconst 4, 1) := by decide +kernel
theorem dL_refuses_346 : decode cL_refuses 346 = .ok (.iconst 0, 1) := by decide +kernel
theorem dL_refuses_347 : decode cL_refuses 347 = .ok (.iconst 0, 1) := by decide +kernel
theorem dL_refuses_348 : decode cL_refuses 348 = .ok (.iload 11, 2) := by decide +kernel
theorem dL_refuses_350 : decode cL_refuses 350 = .ok (.invokestatic 95, 3) := by decide +kernel
theorem dL_refuses_353 : decode cL_refuses 353 = .ok (.ldc 86, 2) := by decide +kernel
theorem dL_refuses_355 : decode cL_refuses 355 = .ok (.if_icmp .ne 82, 3) := by decide +kernel
theorem dL_refuses_358 : decode cL_refuses 358 = .ok (.aload_n 0, 1) := by decide +kernel
theorem dL_refuses_359 : decode cL_refuses 359 = .ok (.iconst 5, 1) := by decide +kernel
theorem dL_refuses_360 : decode cL_refuses 360 = .ok (.iload 7, 2) := by decide +kernel
theorem dL_refuses_362 : decode cL_refuses 362 = .ok (.bipush 99, 2) := by decide +kernel
theorem dL_refuses_364 : decode cL_refuses 364 = .ok (.iconst 0, 1) := by decide +kernel
theorem dL_refuses_365 : decode cL_refuses 365 = .ok (.invokestatic 95, 3) := by decide +kernel
theorem dL_refuses_368 : decode cL_refuses 368 = .ok (.ldc 83, 2) := by decide +kernel
theorem dL_refuses_370 : decode cL_refuses 370 = .ok (.if_icmp .ne 67, 3) := by decide +kernel
theorem dL_refuses_373 : decode cL_refuses 373 = .ok (.aload_n 0, 1) := by decide +kernel
theorem dL_refuses_374 : decode cL_refuses 374 = .ok (.iconst 5, 1) := by decide +kernel
theorem dL_refuses_375 : decode cL_refuses 375 = .ok (.iconst 0, 1) := by decide +kernel
theorem dL_refuses_376 : decode cL_refuses 376 = .ok (.iload 5, 2) := by decide +kernel
theorem dL_refuses_378 : decode cL_refuses 378 = .ok (.ifCond .ne 8, 3) := by decide +kernel
theorem dL_refuses_381 : decode cL_refuses 381 = .ok (.bipush (-21), 2) := by decide +kernel
theorem dL_refuses_383 : decode cL_refuses 383 = .ok (.goto 16, 3) := by decide +kernel
theorem dL_refuses_386 : decode cL_refuses 386 = .ok (.iload 5, 2) := by decide +kernel
theorem dL_refuses_388 : decode cL_refuses 388 = .ok (.iconst 1, 1) := by decide +kernel
theorem dL_refuses_389 : decode cL_refuses 389 = .ok (.if_icmp .ne 8, 3) := by decide +kernel
theorem dL_refuses_392 : decode cL_refuses 392 = .ok (.bipush 21, 2) := by decide +kernel
theorem dL_refuses_394 : decode cL_refuses 394 = .ok (.goto 5, 3) := by decide +kernel
theorem dL_refuses_397 : decode cL_refuses 397 = .ok (.iload 6, 2) := by decide +kernel
theorem dL_refuses_399 : decode cL_refuses 399 = .ok (.iconst 0, 1) := by decide +kernel
theorem dL_refuses_400 : decode cL_refuses 400 = .ok (.invokestatic 95, 3) := by decide +kernel
theorem dL_refuses_403 : decode cL_refuses 403 = .ok (.ldc 86, 2) := by decide +kernel
theorem dL_refuses_405 : decode cL_refuses 405 = .ok (.if_icmp .ne 32, 3) := by decide +kernel
theorem dL_refuses_408 : decode cL_refuses 408 = .ok (.aload_n 0, 1) := by decide +kernel
theorem dL_refuses_409 : decode cL_refuses 409 = .ok (.bipush 6, 2) := by decide +kernel
theorem dL_refuses_411 : decode cL_refuses 411 = .ok (.iload 5, 2) := by decide +kernel
theorem dL_refuses_413 : decode cL_refuses 413 = .ok (.iconst 1, 1) := by decide +kernel
theorem dL_refuses_414 : decode cL_refuses 414 = .ok (.if_icmp .ne 7, 3) := by decide +kernel
theorem dL_refuses_417 : decode cL_refuses 417 = .ok (.iconst 5, 1) := by decide +kernel
theorem dL_refuses_418 : decode cL_refuses 418 = .ok (.goto 5, 3) := by decide +kernel
theorem dL_refuses_421 : decode cL_refuses 421 = .ok (.iload 6, 2) := by decide +kernel
theorem dL_refuses_423 : decode cL_refuses 423 = .ok (.iconst 0, 1) := by decide +kernel
theorem dL_refuses_424 : decode cL_refuses 424 = .ok (.iconst 0, 1) := by decide +kernel
theorem dL_refuses_425 : decode cL_refuses 425 = .ok (.invokestatic 95, 3) := by decide +kernel
theorem dL_refuses_428 : decode cL_refuses 428 = .ok (.ldc 86, 2) := by decide +kernel
theorem dL_refuses_430 : decode cL_refuses 430 = .ok (.if_icmp .ne 7, 3) := by decide +kernel
theorem dL_refuses_433 : decode cL_refuses 433 = .ok (.iconst 1, 1) := by decide +kernel
theorem dL_refuses_434 : decode cL_refuses 434 = .ok (.goto 4, 3) := by decide +kernel
theorem dL_refuses_437 : decode cL_refuses 437 = .ok (.iconst 0, 1) := by decide +kernel
theorem dL_refuses_438 : decode cL_refuses 438 = .ok (.istore 12, 2) := by decide +kernel
theorem dL_refuses_440 : decode cL_refuses 440 = .ok (.bipush 7, 2) := by decide +kernel
theorem dL_refuses_442 : decode cL_refuses 442 = .ok (.istore 13, 2) := by decide +kernel
theorem dL_refuses_444 : decode cL_refuses 444 = .ok (.iload 13, 2) := by decide +kernel
theorem dL_refuses_446 : decode cL_refuses 446 = .ok (.bipush 22, 2) := by decide +kernel
theorem dL_refuses_448 : decode cL_refuses 448 = .ok (.if_icmp .ge 43, 3) := by decide +kernel
theorem dL_refuses_451 : decode cL_refuses 451 = .ok (.iload 12, 2) := by decide +kernel
theorem dL_refuses_453 : decode cL_refuses 453 = .ok (.ifCond .eq 38, 3) := by decide +kernel
theorem dL_refuses_456 : decode cL_refuses 456 = .ok (.iload 13, 2) := by decide +kernel
theorem dL_refuses_458 : decode cL_refuses 458 = .ok (.bipush 16, 2) := by decide +kernel
theorem dL_refuses_460 : decode cL_refuses 460 = .ok (.if_icmp .eq 18, 3) := by decide +kernel
theorem dL_refuses_463 : decode cL_refuses 463 = .ok (.aload_n 0, 1) := by decide +kernel
theorem dL_refuses_464 : decode cL_refuses 464 = .ok (.iload 13, 2) := by decide +kernel
theorem dL_refuses_466 : decode cL_refuses 466 = .ok (.iload 8, 2) := by decide +kernel
theorem dL_refuses_468 : decode cL_refuses 468 = .ok (.iconst 0, 1) := by decide +kernel
theorem dL_refuses_469 : decode cL_refuses 469 = .ok (.iconst 0, 1) := by decide +kernel
theorem dL_refuses_470 : decode cL_refuses 470 = .ok (.invokestatic 95, 3) := by decide +kernel
theorem dL_refuses_473 : decode cL_refuses 473 = .ok (.ldc 83, 2) := by decide +kernel
theorem dL_refuses_475 : decode cL_refuses 475 = .ok (.if_icmp .ne 7, 3) := by decide +kernel
theorem dL_refuses_478 : decode cL_refuses 478 = .ok (.iconst 1, 1) := by decide +kernel
theorem dL_refuses_479 : decode cL_refuses 479 = .ok (.goto 4, 3) := by decide +kernel
theorem dL_refuses_482 : decode cL_refuses 482 = .ok (.iconst 0, 1) := by decide +kernel
theorem dL_refuses_483 : decode cL_refuses 483 = .ok (.istore 12, 2) := by decide +kernel
theorem dL_refuses_485 : decode cL_refuses 485 = .ok (.iinc 13 1, 3) := by decide +kernel
theorem dL_refuses_488 : decode cL_refuses 488 = .ok (.goto (-44), 3) := by decide +kernel
theorem dL_refuses_491 : decode cL_refuses 491 = .ok (.iload 12, 2) := by decide +kernel
theorem dL_refuses_493 : decode cL_refuses 493 = .ok (.ifCond .eq 82, 3) := by decide +kernel
theorem dL_refuses_496 : decode cL_refuses 496 = .ok (.aload_n 0, 1) := by decide +kernel
theorem dL_refuses_497 : decode cL_refuses 497 = .ok (.bipush 7, 2) := by decide +kernel
theorem dL_refuses_499 : decode cL_refuses 499 = .ok (.iconst 0, 1) := by decide +kernel
theorem dL_refuses_500 : decode cL_refuses 500 = .ok (.iload 8, 2) := by decide +kernel
theorem dL_refuses_502 : decode cL_refuses 502 = .ok (.iconst 0, 1) := by decide +kernel
theorem dL_refuses_503 : decode cL_refuses 503 = .ok (.invokestatic 95, 3) := by decide +kernel
theorem dL_refuses_506 : decode cL_refuses 506 = .ok (.ldc 83, 2) := by decide +kernel
theorem dL_refuses_508 : decode cL_refuses 508 = .ok (.if_icmp .ne 67, 3) := by decide +kernel
theorem dL_refuses_511 : decode cL_refuses 511 = .ok (.aload_n 0, 1) := by decide +kernel
theorem dL_refuses_512 : decode cL_refuses 512 = .ok (.bipush 16, 2) := by decide +kernel
theorem dL_refuses_514 : decode cL_refuses 514 = .ok (.iload 7, 2) := by decide +kernel
theorem dL_refuses_516 : decode cL_refuses 516 = .ok (.iconst 0, 1) := by decide +kernel
theorem dL_refuses_517 : decode cL_refuses 517 = .ok (.iconst 0, 1) := by decide +kernel
theorem dL_refuses_518 : decode cL_refuses 518 = .ok (.invokestatic 95, 3) := by decide +kernel
theorem dL_refuses_521 : decode cL_refuses 521 = .ok (.ldc 83, 2) := by decide +kernel
theorem dL_refuses_523 : decode cL_refuses 523 = .ok (.if_icmp .ne 52, 3) := by decide +kernel
theorem dL_refuses_526 : decode cL_refuses 526 = .ok (.aload_n 0, 1) := by decide +kernel
theorem dL_refuses_527 : decode cL_refuses 527 = .ok (.bipush 17, 2) := by decide +kernel
theorem dL_refuses_529 : decode cL_refuses 529 = .ok (.iconst 0, 1) := by decide +kernel
theorem dL_refuses_530 : decode cL_refuses 530 = .ok (.iload 7, 2) := by decide +kernel
theorem dL_refuses_532 : decode cL_refuses 532 = .ok (.iconst 0, 1) := by decide +kernel
theorem dL_refuses_533 : decode cL_refuses 533 = .ok (.invokestatic 95, 3) := by decide +kernel
theorem dL_refuses_536 : decode cL_refuses 536 = .ok (.ldc 83, 2) := by decide +kernel
theorem dL_refuses_538 : decode cL_refuses 538 = .ok (.if_icmp .ne 37, 3) := by decide +kernel
theorem dL_refuses_541 : decode cL_refuses 541 = .ok (.aload_n 0, 1) := by decide +kernel
theorem dL_refuses_542 : decode cL_refuses 542 = .ok (.bipush 20, 2) := by decide +kernel
theorem dL_refuses_544 : decode cL_refuses 544 = .ok (.iconst 0, 1) := by decide +kernel
theorem dL_refuses_545 : decode cL_refuses 545 = .ok (.iload 7, 2) := by decide +kernel
theorem dL_refuses_547 : decode cL_refuses 547 = .ok (.iconst 0, 1) := by decide +kernel
theorem dL_refuses_548 : decode cL_refuses 548 = .ok (.invokestatic 95, 3) := by decide +kernel
theorem dL_refuses_551 : decode cL_refuses 551 = .ok (.ldc 83, 2) := by decide +kernel
theorem dL_refuses_553 : decode cL_refuses 553 = .ok (.if_icmp .ne 22, 3) := by decide +kernel
theorem dL_refuses_556 : decode cL_refuses 556 = .ok (.aload_n 0, 1) := by decide +kernel
theorem dL_refuses_557 : decode cL_refuses 557 = .ok (.bipush 21, 2) := by decide +kernel
theorem dL_refuses_559 : decode cL_refuses 559 = .ok (.iconst 0, 1) := by decide +kernel
theorem dL_refuses_560 : decode cL_refuses 560 = .ok (.iload 7, 2) := by decide +kernel
theorem dL_refuses_562 : decode cL_refuses 562 = .ok (.iconst 0, 1) := by decide +kernel
theorem dL_refuses_563 : decode cL_refuses 563 = .ok (.invokestatic 95, 3) := by decide +kernel
theorem dL_refuses_566 : decode cL_refuses 566 = .ok (.ldc 83, 2) := by decide +kernel
theorem dL_refuses_568 : decode cL_refuses 568 = .ok (.if_icmp .ne 7, 3) := by decide +kernel
theorem dL_refuses_571 : decode cL_refuses 571 = .ok (.iconst 1, 1) := by decide +kernel
theorem dL_refuses_572 : decode cL_refuses 572 = .ok (.goto 4, 3) := by decide +kernel
theorem dL_refuses_575 : decode cL_refuses 575 = .ok (.iconst 0, 1) := by decide +kernel
theorem dL_refuses_576 : decode cL_refuses 576 = .ok (.istore 12, 2) := by decide +kernel
theorem dL_refuses_578 : decode cL_refuses 578 = .ok (.iload 12, 2) := by decide +kernel
theorem dL_refuses_580 : decode cL_refuses 580 = .ok (.ifCond .eq 97, 3) := by decide +kernel
theorem dL_refuses_583 : decode cL_refuses 583 = .ok (.iload_n 2, 1) := by decide +kernel
theorem dL_refuses_584 : decode cL_refuses 584 = .ok (.ifCond .eq 89, 3) := by decide +kernel
theorem dL_refuses_587 : decode cL_refuses 587 = .ok (.aload_n 0, 1) := by decide +kernel
theorem dL_refuses_588 : decode cL_refuses 588 = .ok (.bipush 8, 2) := by decide +kernel
theorem dL_refuses_590 : decode cL_refuses 590 = .ok (.iconst 0, 1) := by decide +kernel
theorem dL_refuses_591 : decode cL_refuses 591 = .ok (.iload 10, 2) := by decide +kernel
theorem dL_refuses_593 : decode cL_refuses 593 = .ok (.iconst 0, 1) := by decide +kernel
theorem dL_refuses_594 : decode cL_refuses 594 = .ok (.invokestatic 95, 3) := by decide +kernel
theorem dL_refuses_597 : decode cL_refuses 597 = .ok (.ldc 86, 2) := by decide +kernel
theorem dL_refuses_599 : decode cL_refuses 599 = .ok (.if_icmp .ne 78, 3) := by decide +kernel
theorem dL_refuses_602 : decode cL_refuses 602 = .ok (.aload_n 0, 1) := by decide +kernel
theorem dL_refuses_603 : decode cL_refuses 603 = .ok (.bipush 9, 2) := by decide +kernel
theorem dL_refuses_605 : decode cL_refuses 605 = .ok (.iconst 0, 1) := by decide +kernel
theorem dL_refuses_606 : decode cL_refuses 606 = .ok (.iload 5, 2) := by decide +kernel
theorem dL_refuses_608 : decode cL_refuses 608 = .ok (.iconst 1, 1) := by decide +kernel
theorem dL_refuses_609 : decode cL_refuses 609 = .ok (.if_icmp .ne 8, 3) := by decide +kernel
theorem dL_refuses_612 : decode cL_refuses 612 = .ok (.bipush 101, 2) := by decide +kernel
theorem dL_refuses_614 : decode cL_refuses 614 = .ok (.goto 5, 3) := by decide +kernel
theorem dL_refuses_617 : decode cL_refuses 617 = .ok (.iload 6, 2) := by decide +kernel
theorem dL_refuses_619 : decode cL_refuses 619 = .ok (.iconst 0, 1) := by decide +kernel
theorem dL_refuses_620 : decode cL_refuses 620 = .ok (.invokestatic 95, 3) := by decide +kernel
theorem dL_refuses_623 : decode cL_refuses 623 = .ok (.ldc 86, 2) := by decide +kernel
theorem dL_refuses_625 : decode cL_refuses 625 = .ok (.if_icmp .ne 52, 3) := by decide +kernel
theorem dL_refuses_628 : decode cL_refuses 628 = .ok (.aload_n 0, 1) := by decide +kernel
theorem dL_refuses_629 : decode cL_refuses 629 = .ok (.bipush 10, 2) := by decide +kernel
theorem dL_refuses_631 : decode cL_refuses 631 = .ok (.iconst 0, 1) := by decide +kernel
theorem dL_refuses_632 : decode cL_refuses 632 = .ok (.iload 10, 2) := by decide +kernel
theorem dL_refuses_634 : decode cL_refuses 634 = .ok (.iconst 0, 1) := by decide +kernel
theorem dL_refuses_635 : decode cL_refuses 635 = .ok (.invokestatic 95, 3) := by decide +kernel
theorem dL_refuses_638 : decode cL_refuses 638 = .ok (.ldc 86, 2) := by decide +kernel
theorem dL_refuses_640 : decode cL_refuses 640 = .ok (.if_icmp .ne 37, 3) := by decide +kernel
theorem dL_refuses_643 : decode cL_refuses 643 = .ok (.aload_n 0, 1) := by decide +kernel
theorem dL_refuses_644 : decode cL_refuses 644 = .ok (.bipush 18, 2) := by decide +kernel
theorem dL_refuses_646 : decode cL_refuses 646 = .ok (.iconst 0, 1) := by decide +kernel
theorem dL_refuses_647 : decode cL_refuses 647 = .ok (.iload 11, 2) := by decide +kernel
theorem dL_refuses_649 : decode cL_refuses 649 = .ok (.iconst 0, 1) := by decide +kernel
theorem dL_refuses_650 : decode cL_refuses 650 = .ok (.invokestatic 95, 3) := by decide +kernel
theorem dL_refuses_653 : decode cL_refuses 653 = .ok (.ldc 86, 2) := by decide +kernel
theorem dL_refuses_655 : decode cL_refuses 655 = .ok (.if_icmp .ne 22, 3) := by decide +kernel
theorem dL_refuses_658 : decode cL_refuses 658 = .ok (.aload_n 0, 1) := by decide +kernel
theorem dL_refuses_659 : decode cL_refuses 659 = .ok (.bipush 19, 2) := by decide +kernel
theorem dL_refuses_661 : decode cL_refuses 661 = .ok (.iconst 0, 1) := by decide +kernel
theorem dL_refuses_662 : decode cL_refuses 662 = .ok (.iload 11, 2) := by decide +kernel
theorem dL_refuses_664 : decode cL_refuses 664 = .ok (.iconst 0, 1) := by decide +kernel
theorem dL_refuses_665 : decode cL_refuses 665 = .ok (.invokestatic 95, 3) := by decide +kernel
theorem dL_refuses_668 : decode cL_refuses 668 = .ok (.ldc 86, 2) := by decide +kernel
theorem dL_refuses_670 : decode cL_refuses 670 = .ok (.if_icmp .ne 7, 3) := by decide +kernel
theorem dL_refuses_673 : decode cL_refuses 673 = .ok (.iconst 1, 1) := by decide +kernel
theorem dL_refuses_674 : decode cL_refuses 674 = .ok (.goto 4, 3) := by decide +kernel
theorem dL_refuses_677 : decode cL_refuses 677 = .ok (.iconst 0, 1) := by decide +kernel
theorem dL_refuses_678 : decode cL_refuses 678 = .ok (.istore 12, 2) := by decide +kernel
theorem dL_refuses_680 : decode cL_refuses 680 = .ok (.iload 12, 2) := by decide +kernel
theorem dL_refuses_682 : decode cL_refuses 682 = .ok (.ifCond .ne 5, 3) := by decide +kernel
theorem dL_refuses_685 : decode cL_refuses 685 = .ok (.iconst 0, 1) := by decide +kernel
theorem dL_refuses_686 : decode cL_refuses 686 = .ok (.ireturn, 1) := by decide +kernel
theorem dL_refuses_687 : decode cL_refuses 687 = .ok (.iinc 5 1, 3) := by decide +kernel
theorem dL_refuses_690 : decode cL_refuses 690 = .ok (.goto (-678), 3) := by decide +kernel
theorem dL_refuses_693 : decode cL_refuses 693 = .ok (.aload_n 0, 1) := by decide +kernel
theorem dL_refuses_694 : decode cL_refuses 694 = .ok (.invokevirtual 91, 3) := by decide +kernel
theorem dL_refuses_697 : decode cL_refuses 697 = .ok (.iload 4, 2) := by decide +kernel
theorem dL_refuses_699 : decode cL_refuses 699 = .ok (.if_icmp .ne 30, 3) := by decide +kernel
theorem dL_refuses_702 : decode cL_refuses 702 = .ok (.aload_n 0, 1) := by decide +kernel
theorem dL_refuses_703 : decode cL_refuses 703 = .ok (.invokevirtual 101, 3) := by decide +kernel
theorem dL_refuses_706 : decode cL_refuses 706 = .ok (.iload 4, 2) := by decide +kernel
theorem dL_refuses_708 : decode cL_refuses 708 = .ok (.if_icmp .ne 21, 3) := by decide +kernel
theorem dL_refuses_711 : decode cL_refuses 711 = .ok (.aload_n 0, 1) := by decide +kernel
theorem dL_refuses_712 : decode cL_refuses 712 = .ok (.bipush 10, 2) := by decide +kernel
theorem dL_refuses_714 : decode cL_refuses 714 = .ok (.iload_n 2, 1) := by decide +kernel
theorem dL_refuses_715 : decode cL_refuses 715 = .ok (.iconst 0, 1) := by decide +kernel
theorem dL_refuses_716 : decode cL_refuses 716 = .ok (.iconst 0, 1) := by decide +kernel
theorem dL_refuses_717 : decode cL_refuses 717 = .ok (.invokestatic 95, 3) := by decide +kernel
theorem dL_refuses_720 : decode cL_refuses 720 = .ok (.ldc 83, 2) := by decide +kernel
theorem dL_refuses_722 : decode cL_refuses 722 = .ok (.if_icmp .ne 7, 3) := by decide +kernel
theorem dL_refuses_725 : decode cL_refuses 725 = .ok (.iconst 1, 1) := by decide +kernel
theorem dL_refuses_726 : decode cL_refuses 726 = .ok (.goto 4, 3) := by decide +kernel
theorem dL_refuses_729 : decode cL_refuses 729 = .ok (.iconst 0, 1) := by decide +kernel
theorem dL_refuses_730 : decode cL_refuses 730 = .ok (.ireturn, 1) := by decide +kernel
set_option maxRecDepth 20000 in
theorem ggL_least_X0_least : GoodIn wsL_least wsX0_least := goodIn_ca (goodIn_ca (goodIn_r _ [5, 6, 7, 8, 4, 9, 10, 11, 12, 13, 14, 15, 16, 17, 18, 19, 20, 21, 22, 23, 24, 25, 26, 27, 28, 29, 30, 31, 32, 33, 34, 35, 36, 37, 38, 39, 40, 41, 42, 43, 44, 45, 46, 47, 48, 49, 50, 51, 52, 53, 54, 55, 56, 57, 58, 59, 60, 61, 62, 63, 64, 65, 66, 67, 68, 69, 70, 83, 84, 85, 86, 87, 88, 89, 90, 91, 92, 93, 94] (by decide +kernel) (by decide +kernel)) (goodIn_sub (fun _ h => List.mem_cons_of_mem _ (List.mem_append_left _ (List.mem_append_right _ h))) (by decide +kernel))) (goodIn_sub (fun _ h => List.mem_cons_of_mem _ (List.mem_append_right _ h)) (by decide +kernel))
set_option maxRecDepth 20000 in
theorem gL_least_X0_least : GoodIn wsL_least (wsV RL 53 RX0 yX0_least wsX0_least) := goodIn_app (goodIn_of _ (by decide +kernel)) ggL_least_X0_least
set_option maxRecDepth 20000 in
theorem ggL_least_X0_leastSet : GoodIn wsL_least wsX0_leastSet := goodIn_ca (goodIn_ca (goodIn_r _ [74, 6, 7, 8, 4, 9, 10, 11, 12, 13, 14, 15, 16, 17, 18, 19, 20, 21, 22, 23, 24, 25, 26, 27, 28, 29, 30, 31, 32, 33, 34, 35, 36, 37, 38, 39, 40, 41, 42, 43, 44, 45, 46, 47, 48, 49, 50, 51, 52, 53, 54, 55, 56, 57, 58, 59, 60, 61, 62, 63, 64, 65, 66, 67, 68, 69, 70, 83, 84, 85, 86, 87, 88, 89, 90, 91, 92, 93, 94] (by decide +kernel) (by decide +kernel)) (goodIn_sub (fun _ h => List.mem_cons_of_mem _ (List.mem_append_left _ (List.mem_append_right _ h))) (by decide +kernel))) (goodIn_sub (fun _ h => List.mem_cons_of_mem _ (List.mem_append_right _ h)) (by decide +kernel))
set_option maxRecDepth 20000 in
theorem gL_least_X0_leastSet : GoodIn wsL_least (wsV RL 56 RX0 yX0_leastSet wsX0_leastSet) := goodIn_app (goodIn_of _ (by decide +kernel)) ggL_least_X0_leastSet
set_option maxRecDepth 20000 in
theorem ggL_least_X0_leastSetAnew : GoodIn wsL_least wsX0_leastSetAnew := goodIn_ca (goodIn_ca (goodIn_r _ [78, 79, 80, 81, 82, 6, 7, 8, 4, 9, 10, 11, 12, 13, 14, 15, 16, 17, 18, 19, 20, 21, 22, 23, 24, 25, 26, 27, 28, 29, 30, 31, 32, 33, 34, 35, 36, 37, 38, 39, 40, 41, 42, 43, 44, 45, 46, 47, 48, 49, 50, 51, 83, 84, 85, 86, 87, 88, 89, 90, 91, 92, 93, 94] (by decide +kernel) (by decide +kernel)) (goodIn_sub (fun _ h => List.mem_cons_of_mem _ (List.mem_append_left _ (List.mem_append_right _ h))) (by decide +kernel))) (goodIn_sub (fun _ h => List.mem_cons_of_mem _ (List.mem_append_right _ h)) (by decide +kernel))
set_option maxRecDepth 20000 in
theorem gL_least_X0_leastSetAnew : GoodIn wsL_least (wsV RL 60 RX0 yX0_leastSetAnew wsX0_leastSetAnew) := goodIn_app (goodIn_of _ (by decide +kernel)) ggL_least_X0_leastSetAnew
theorem dL_least_0 : decode cL_least 0 = .ok (.aload_n 0, 1) := by decide +kernel
theorem dL_least_1 : decode cL_least 1 = .ok (.iload_n 1, 1) := by decide +kernel
theorem dL_least_2 : decode cL_least 2 = .ok (.invokevirtual 53, 3) := by decide +kernel
theorem dL_least_5 : decode cL_least 5 = .ok (.iload_n 2, 1) := by decide +kernel
theorem dL_least_6 : decode cL_least 6 = .ok (.if_icmp .ne 49, 3) := by decide +kernel
theorem dL_least_9 : decode cL_least 9 = .ok (.aload_n 0, 1) := by decide +kernel
theorem dL_least_10 : decode cL_least 10 = .ok (.iload_n 1, 1) := by decide +kernel
theorem dL_least_11 : decode cL_least 11 = .ok (.iconst 0, 1) := by decide +kernel
theorem dL_least_12 : decode cL_least 12 = .ok (.invokevirtual 56, 3) := by decide +kernel
theorem dL_least_15 : decode cL_least 15 = .ok (.iload_n 3, 1) := by decide +kernel
theorem dL_least_16 : decode cL_least 16 = .ok (.if_icmp .ne 39, 3) := by decide +kernel
theorem dL_least_19 : decode cL_least 19 = .ok (.aload_n 0, 1) := by decide +kernel
theorem dL_least_20 : decode cL_least 20 = .ok (.iload_n 1, 1) := by decide +kernel
theorem dL_least_21 : decode cL_least 21 = .ok (.iconst 1, 1) := by decide +kernel
theorem dL_least_22 : decode cL_least 22 = .ok (.invokevirtual 56, 3) := by decide +kernel
theorem dL_least_25 : decode cL_least 25 = .ok (.iload 4, 2) := by decide +kernel
theorem dL_least_27 : decode cL_least 27 = .ok (.if_icmp .ne 28, 3) := by decide +kernel
theorem dL_least_30 : decode cL_least 30 = .ok (.aload_n 0, 1) := by decide +kernel
theorem dL_least_31 : decode cL_least 31 = .ok (.iload_n 1, 1) := by decide +kernel
theorem dL_least_32 : decode cL_least 32 = .ok (.iconst 0, 1) := by decide +kernel
theorem dL_least_33 : decode cL_least 33 = .ok (.invokevirtual 60, 3) := by decide +kernel
theorem dL_least_36 : decode cL_least 36 = .ok (.iload_n 3, 1) := by decide +kernel
theorem dL_least_37 : decode cL_least 37 = .ok (.if_icmp .ne 18, 3) := by decide +kernel
theorem dL_least_40 : decode cL_least 40 = .ok (.aload_n 0, 1) := by decide +kernel
theorem dL_least_41 : decode cL_least 41 = .ok (.iload_n 1, 1) := by decide +kernel
theorem dL_least_42 : decode cL_least 42 = .ok (.iconst 1, 1) := by decide +kernel
theorem dL_least_43 : decode cL_least 43 = .ok (.invokevirtual 60, 3) := by decide +kernel
theorem dL_least_46 : decode cL_least 46 = .ok (.iload 4, 2) := by decide +kernel
theorem dL_least_48 : decode cL_least 48 = .ok (.if_icmp .ne 7, 3) := by decide +kernel
theorem dL_least_51 : decode cL_least 51 = .ok (.iconst 1, 1) := by decide +kernel
theorem dL_least_52 : decode cL_least 52 = .ok (.goto 4, 3) := by decide +kernel
theorem dL_least_55 : decode cL_least 55 = .ok (.iconst 0, 1) := by decide +kernel
theorem dL_least_56 : decode cL_least 56 = .ok (.ireturn, 1) := by decide +kernel
set_option maxRecDepth 20000 in
theorem ggL_share_X0_share : GoodIn wsL_share wsX0_share := goodIn_ca (goodIn_r _ [5, 6, 7, 8, 9, 4, 10, 11, 12, 13, 14, 15, 16, 17, 18, 19, 20, 21, 22, 23, 24, 25, 26, 27, 28, 29, 30, 31, 32, 33, 34, 35, 36, 37, 38, 39, 40, 41, 42, 43, 44, 45, 46, 47, 48, 49, 50, 51, 52, 61, 62, 63, 64, 65, 66, 67, 68, 69, 70, 71, 72] (by decide +kernel) (by decide +kernel)) (goodIn_sub (fun _ h => List.mem_cons_of_mem _ (List.mem_append_right _ h)) (by decide +kernel))
set_option maxRecDepth 20000 in
theorem gL_share_X0_share : GoodIn wsL_share (wsV RL 75 RX0 yX0_share wsX0_share) := goodIn_app (goodIn_of _ (by decide +kernel)) ggL_share_X0_share
set_option maxRecDepth 20000 in
theorem ggL_share_X0_shareAnew : GoodIn wsL_share wsX0_shareAnew := goodIn_ca (goodIn_r _ [56, 7, 8, 9, 4, 10, 11, 12, 13, 14, 15, 6, 16, 17, 18, 19, 20, 57, 58, 59, 60, 25, 26, 27, 38, 39, 40, 41, 42, 43, 44, 45, 46, 47, 48, 49, 50, 51, 52, 61, 62, 63, 64, 65, 66, 67, 68, 69, 70, 71, 72] (by decide +kernel) (by decide +kernel)) (goodIn_sub (fun _ h => List.mem_cons_of_mem _ (List.mem_append_right _ h)) (by decide +kernel))
set_option maxRecDepth 20000 in
theorem gL_share_X0_shareAnew : GoodIn wsL_share (wsV RL 78 RX0 yX0_shareAnew wsX0_shareAnew) := goodIn_app (goodIn_of _ (by decide +kernel)) ggL_share_X0_shareAnew
theorem dL_share_0 : decode cL_share 0 = .ok (.aload_n 0, 1) := by decide +kernel
theorem dL_share_1 : decode cL_share 1 = .ok (.iload_n 1, 1) := by decide +kernel
theorem dL_share_2 : decode cL_share 2 = .ok (.iload_n 2, 1) := by decide +kernel
theorem dL_share_3 : decode cL_share 3 = .ok (.invokevirtual 75, 3) := by decide +kernel
theorem dL_share_6 : decode cL_share 6 = .ok (.iload_n 3, 1) := by decide +kernel
theorem dL_share_7 : decode cL_share 7 = .ok (.if_icmp .ne 17, 3) := by decide +kernel
theorem dL_share_10 : decode cL_share 10 = .ok (.aload_n 0, 1) := by decide +kernel
theorem dL_share_11 : decode cL_share 11 = .ok (.iload_n 1, 1) := by decide +kernel
theorem dL_share_12 : decode cL_share 12 = .ok (.iload_n 2, 1) := by decide +kernel
theorem dL_share_13 : decode cL_share 13 = .ok (.invokevirtual 78, 3) := by decide +kernel
theorem dL_share_16 : decode cL_share 16 = .ok (.iload_n 3, 1) := by decide +kernel
theorem dL_share_17 : decode cL_share 17 = .ok (.if_icmp .ne 7, 3) := by decide +kernel
theorem dL_share_20 : decode cL_share 20 = .ok (.iconst 1, 1) := by decide +kernel
theorem dL_share_21 : decode cL_share 21 = .ok (.goto 4, 3) := by decide +kernel
theorem dL_share_24 : decode cL_share 24 = .ok (.iconst 0, 1) := by decide +kernel
theorem dL_share_25 : decode cL_share 25 = .ok (.ireturn, 1) := by decide +kernel

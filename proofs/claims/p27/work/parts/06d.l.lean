set_option maxRecDepth 20000 in
theorem ggL_greed_X0_greedy : GoodIn wsL_greed wsX0_greedy := goodIn_ca (goodIn_ca (goodIn_r _ [5, 6, 7, 8, 4, 9, 10, 11, 12, 13, 14, 15, 16, 17, 18, 19, 20, 21, 22, 23, 24, 25, 26, 27, 28, 29, 30, 31, 32, 33, 34, 35, 36, 37, 38, 39, 40, 41, 42, 43, 162, 163, 164, 165, 166, 167, 168, 169, 170, 171, 172, 173] (by decide +kernel) (by decide +kernel)) (goodIn_sub (fun _ h => List.mem_cons_of_mem _ (List.mem_append_left _ (List.mem_append_right _ h))) (by decide +kernel))) (goodIn_sub (fun _ h => List.mem_cons_of_mem _ (List.mem_append_right _ h)) (by decide +kernel))
set_option maxRecDepth 20000 in
theorem gL_greed_X0_greedy : GoodIn wsL_greed (wsV RL 69 RX0 yX0_greedy wsX0_greedy) := goodIn_app (goodIn_of _ (by decide +kernel)) ggL_greed_X0_greedy
set_option maxRecDepth 20000 in
theorem ggL_greed_X0_best : GoodIn wsL_greed wsX0_best := goodIn_ca (goodIn_ca (goodIn_r _ [47, 48, 49, 50, 51, 6, 7, 8, 4, 9, 10, 11, 12, 13, 14, 15, 16, 17, 18, 19, 20, 21, 22, 23, 52, 53, 54, 55, 28, 56, 57, 58, 59, 60, 61, 62, 36, 37, 38, 39, 40, 41, 42, 43, 162, 163, 164, 165, 166, 167, 168, 169, 170, 171, 172, 173] (by decide +kernel) (by decide +kernel)) (goodIn_sub (fun _ h => List.mem_cons_of_mem _ (List.mem_append_left _ (List.mem_append_right _ h))) (by decide +kernel))) (goodIn_sub (fun _ h => List.mem_cons_of_mem _ (List.mem_append_right _ h)) (by decide +kernel))
set_option maxRecDepth 20000 in
theorem gL_greed_X0_best : GoodIn wsL_greed (wsV RL 72 RX0 yX0_best wsX0_best) := goodIn_app (goodIn_of _ (by decide +kernel)) ggL_greed_X0_best
set_option maxRecDepth 20000 in
theorem ggL_greed_X0_common : GoodIn wsL_greed wsX0_common := goodIn_r _ [66, 28, 67, 68, 69, 4, 70, 71, 72, 73, 74, 75, 76, 77, 78, 79, 80, 81, 82, 83, 84, 85, 86, 87, 88, 89, 41, 42, 43, 90, 91, 92, 93, 94, 95, 96, 97, 98, 99, 100, 101, 102, 103, 104, 105, 106, 107, 108, 109, 110, 111, 112, 56, 57, 58, 59, 60, 61, 62, 113, 114, 115, 116, 162, 163, 164, 165, 166, 167, 168, 169, 170, 171, 172, 173] (by decide +kernel) (by decide +kernel)
set_option maxRecDepth 20000 in
theorem gL_greed_X0_common : GoodIn wsL_greed (wsV RL 91 RX0 yX0_common wsX0_common) := goodIn_app (goodIn_of _ (by decide +kernel)) ggL_greed_X0_common
set_option maxRecDepth 20000 in
theorem ggL_greed_X0_colour : GoodIn wsL_greed wsX0_colour := goodIn_ca (goodIn_r _ [120, 89, 121, 122, 4, 123, 124, 125, 126, 127, 28, 128, 129, 130, 11, 12, 13, 14, 15, 85, 86, 87, 88, 41, 42, 43, 102, 103, 104, 162, 163, 164, 165, 166, 167, 168, 169, 170, 171, 172, 173] (by decide +kernel) (by decide +kernel)) (goodIn_sub (fun _ h => List.mem_cons_of_mem _ (List.mem_append_left _ (List.mem_append_right _ h))) (by decide +kernel))
set_option maxRecDepth 20000 in
theorem gL_greed_X0_colour : GoodIn wsL_greed (wsV RL 21 RX0 yX0_colour wsX0_colour) := goodIn_app (goodIn_of _ (by decide +kernel)) ggL_greed_X0_colour
set_option maxRecDepth 20000 in
theorem ggL_greed_X0_commonAnew : GoodIn wsL_greed wsX0_commonAnew := goodIn_r _ [134, 48, 49, 50, 51, 52, 53, 54, 4, 55, 28, 135, 136, 137, 138, 93, 94, 95, 96, 90, 91, 92, 85, 86, 87, 88, 89, 41, 42, 43, 97, 98, 99, 100, 101, 56, 57, 58, 59, 60, 61, 62, 162, 163, 164, 165, 166, 167, 168, 169, 170, 171, 172, 173] (by decide +kernel) (by decide +kernel)
set_option maxRecDepth 20000 in
theorem gL_greed_X0_commonAnew : GoodIn wsL_greed (wsV RL 101 RX0 yX0_commonAnew wsX0_commonAnew) := goodIn_app (goodIn_of _ (by decide +kernel)) ggL_greed_X0_commonAnew
set_option maxRecDepth 20000 in
theorem ggL_greed_X0_room : GoodIn wsL_greed wsX0_room := goodIn_ca (goodIn_ca (goodIn_r _ [142, 101, 121, 122, 4, 123, 128, 129, 130, 11, 12, 13, 14, 15, 16, 17, 18, 19, 20, 21, 22, 23, 97, 98, 99, 100, 41, 42, 43, 102, 103, 104, 162, 163, 164, 165, 166, 167, 168, 169, 170, 171, 172, 173] (by decide +kernel) (by decide +kernel)) (goodIn_sub (fun _ h => List.mem_cons_of_mem _ (List.mem_append_left _ (List.mem_append_right _ h))) (by decide +kernel))) (goodIn_sub (fun _ h => List.mem_cons_of_mem _ (List.mem_append_right _ h)) (by decide +kernel))
set_option maxRecDepth 20000 in
theorem gL_greed_X0_room : GoodIn wsL_greed (wsV RL 24 RX0 yX0_room wsX0_room) := goodIn_app (goodIn_of _ (by decide +kernel)) ggL_greed_X0_room
set_option maxRecDepth 20000 in
theorem ggL_greed_L_share : GoodIn wsL_greed wsL_share := goodIn_ca (goodIn_r _ [146, 147, 148, 149, 4, 150, 28, 6, 7, 8, 9, 10, 124, 125, 126, 127, 11, 12, 13, 14, 15, 52, 53, 54, 55, 90, 91, 92, 56, 57, 58, 59, 60, 61, 62, 151, 152, 153, 29, 30, 31, 32, 33, 34, 35, 36, 37, 38, 39, 40, 41, 42, 43, 154, 155, 156, 157, 158, 159, 160, 161, 162, 163, 164, 165, 166, 167, 168, 169, 170, 171, 172, 173] rfl (by decide +kernel)) (goodIn_sub (fun _ h => List.mem_cons_of_mem _ (List.mem_append_left _ (List.mem_append_right _ h))) (by decide +kernel))
set_option maxRecDepth 20000 in
theorem gL_greed_L_share : GoodIn wsL_greed (va_wsS RL 123 yL_share wsL_share) := goodIn_app (goodIn_of _ (by decide +kernel)) ggL_greed_L_share
theorem dL_greed_0 : decode cL_greed 0 = .ok (.aload_n 0, 1) := by decide +kernel
theorem dL_greed_1 : decode cL_greed 1 = .ok (.iconst 0, 1) := by decide +kernel
theorem dL_greed_2 : decode cL_greed 2 = .ok (.iconst 0, 1) := by decide +kernel
theorem dL_greed_3 : decode cL_greed 3 = .ok (.invokevirtual 69, 3) := by decide +kernel
theorem dL_greed_6 : decode cL_greed 6 = .ok (.ifCond .ne 171, 3) := by decide +kernel
theorem dL_greed_9 : decode cL_greed 9 = .ok (.aload_n 0, 1) := by decide +kernel
theorem dL_greed_10 : decode cL_greed 10 = .ok (.iconst 0, 1) := by decide +kernel
theorem dL_greed_11 : decode cL_greed 11 = .ok (.iconst 1, 1) := by decide +kernel
theorem dL_greed_12 : decode cL_greed 12 = .ok (.invokevirtual 69, 3) := by decide +kernel
theorem dL_greed_15 : decode cL_greed 15 = .ok (.iconst 1, 1) := by decide +kernel
theorem dL_greed_16 : decode cL_greed 16 = .ok (.if_icmp .ne 161, 3) := by decide +kernel
theorem dL_greed_19 : decode cL_greed 19 = .ok (.aload_n 0, 1) := by decide +kernel
theorem dL_greed_20 : decode cL_greed 20 = .ok (.iconst 0, 1) := by decide +kernel
theorem dL_greed_21 : decode cL_greed 21 = .ok (.iconst 2, 1) := by decide +kernel
theorem dL_greed_22 : decode cL_greed 22 = .ok (.invokevirtual 69, 3) := by decide +kernel
theorem dL_greed_25 : decode cL_greed 25 = .ok (.iconst 3, 1) := by decide +kernel
theorem dL_greed_26 : decode cL_greed 26 = .ok (.if_icmp .ne 151, 3) := by decide +kernel
theorem dL_greed_29 : decode cL_greed 29 = .ok (.aload_n 0, 1) := by decide +kernel
theorem dL_greed_30 : decode cL_greed 30 = .ok (.iconst 0, 1) := by decide +kernel
theorem dL_greed_31 : decode cL_greed 31 = .ok (.bipush 6, 2) := by decide +kernel
theorem dL_greed_33 : decode cL_greed 33 = .ok (.invokevirtual 69, 3) := by decide +kernel
theorem dL_greed_36 : decode cL_greed 36 = .ok (.bipush 11, 2) := by decide +kernel
theorem dL_greed_38 : decode cL_greed 38 = .ok (.if_icmp .ne 139, 3) := by decide +kernel
theorem dL_greed_41 : decode cL_greed 41 = .ok (.aload_n 0, 1) := by decide +kernel
theorem dL_greed_42 : decode cL_greed 42 = .ok (.iconst 0, 1) := by decide +kernel
theorem dL_greed_43 : decode cL_greed 43 = .ok (.iconst 0, 1) := by decide +kernel
theorem dL_greed_44 : decode cL_greed 44 = .ok (.invokevirtual 72, 3) := by decide +kernel
theorem dL_greed_47 : decode cL_greed 47 = .ok (.ifCond .ne 130, 3) := by decide +kernel
theorem dL_greed_50 : decode cL_greed 50 = .ok (.aload_n 0, 1) := by decide +kernel
theorem dL_greed_51 : decode cL_greed 51 = .ok (.iconst 0, 1) := by decide +kernel
theorem dL_greed_52 : decode cL_greed 52 = .ok (.iconst 1, 1) := by decide +kernel
theorem dL_greed_53 : decode cL_greed 53 = .ok (.invokevirtual 72, 3) := by decide +kernel
theorem dL_greed_56 : decode cL_greed 56 = .ok (.iconst 2, 1) := by decide +kernel
theorem dL_greed_57 : decode cL_greed 57 = .ok (.if_icmp .ne 120, 3) := by decide +kernel
theorem dL_greed_60 : decode cL_greed 60 = .ok (.aload_n 0, 1) := by decide +kernel
theorem dL_greed_61 : decode cL_greed 61 = .ok (.iconst 0, 1) := by decide +kernel
theorem dL_greed_62 : decode cL_greed 62 = .ok (.iconst 2, 1) := by decide +kernel
theorem dL_greed_63 : decode cL_greed 63 = .ok (.invokevirtual 72, 3) := by decide +kernel
theorem dL_greed_66 : decode cL_greed 66 = .ok (.iconst 3, 1) := by decide +kernel
theorem dL_greed_67 : decode cL_greed 67 = .ok (.if_icmp .ne 110, 3) := by decide +kernel
theorem dL_greed_70 : decode cL_greed 70 = .ok (.aload_n 0, 1) := by decide +kernel
theorem dL_greed_71 : decode cL_greed 71 = .ok (.iconst 0, 1) := by decide +kernel
theorem dL_greed_72 : decode cL_greed 72 = .ok (.iconst 3, 1) := by decide +kernel
theorem dL_greed_73 : decode cL_greed 73 = .ok (.invokevirtual 72, 3) := by decide +kernel
theorem dL_greed_76 : decode cL_greed 76 = .ok (.iconst 4, 1) := by decide +kernel
theorem dL_greed_77 : decode cL_greed 77 = .ok (.if_icmp .ne 100, 3) := by decide +kernel
theorem dL_greed_80 : decode cL_greed 80 = .ok (.aload_n 0, 1) := by decide +kernel
theorem dL_greed_81 : decode cL_greed 81 = .ok (.iconst 1, 1) := by decide +kernel
theorem dL_greed_82 : decode cL_greed 82 = .ok (.bipush 6, 2) := by decide +kernel
theorem dL_greed_84 : decode cL_greed 84 = .ok (.invokevirtual 69, 3) := by decide +kernel
theorem dL_greed_87 : decode cL_greed 87 = .ok (.bipush 10, 2) := by decide +kernel
theorem dL_greed_89 : decode cL_greed 89 = .ok (.if_icmp .ne 88, 3) := by decide +kernel
theorem dL_greed_92 : decode cL_greed 92 = .ok (.aload_n 0, 1) := by decide +kernel
theorem dL_greed_93 : decode cL_greed 93 = .ok (.iconst 1, 1) := by decide +kernel
theorem dL_greed_94 : decode cL_greed 94 = .ok (.iconst 1, 1) := by decide +kernel
theorem dL_greed_95 : decode cL_greed 95 = .ok (.invokevirtual 72, 3) := by decide +kernel
theorem dL_greed_98 : decode cL_greed 98 = .ok (.bipush 8, 2) := by decide +kernel
theorem dL_greed_100 : decode cL_greed 100 = .ok (.if_icmp .ne 77, 3) := by decide +kernel
theorem dL_greed_103 : decode cL_greed 103 = .ok (.aload_n 0, 1) := by decide +kernel
theorem dL_greed_104 : decode cL_greed 104 = .ok (.iconst 1, 1) := by decide +kernel
theorem dL_greed_105 : decode cL_greed 105 = .ok (.bipush 6, 2) := by decide +kernel
theorem dL_greed_107 : decode cL_greed 107 = .ok (.invokevirtual 72, 3) := by decide +kernel
theorem dL_greed_110 : decode cL_greed 110 = .ok (.bipush 10, 2) := by decide +kernel
theorem dL_greed_112 : decode cL_greed 112 = .ok (.if_icmp .ne 65, 3) := by decide +kernel
theorem dL_greed_115 : decode cL_greed 115 = .ok (.aload_n 0, 1) := by decide +kernel
theorem dL_greed_116 : decode cL_greed 116 = .ok (.iconst 2, 1) := by decide +kernel
theorem dL_greed_117 : decode cL_greed 117 = .ok (.iconst 4, 1) := by decide +kernel
theorem dL_greed_118 : decode cL_greed 118 = .ok (.invokevirtual 69, 3) := by decide +kernel
theorem dL_greed_121 : decode cL_greed 121 = .ok (.iconst 2, 1) := by decide +kernel
theorem dL_greed_122 : decode cL_greed 122 = .ok (.if_icmp .ne 55, 3) := by decide +kernel
theorem dL_greed_125 : decode cL_greed 125 = .ok (.aload_n 0, 1) := by decide +kernel
theorem dL_greed_126 : decode cL_greed 126 = .ok (.iconst 2, 1) := by decide +kernel
theorem dL_greed_127 : decode cL_greed 127 = .ok (.iconst 5, 1) := by decide +kernel
theorem dL_greed_128 : decode cL_greed 128 = .ok (.invokevirtual 72, 3) := by decide +kernel
theorem dL_greed_131 : decode cL_greed 131 = .ok (.iconst 3, 1) := by decide +kernel
theorem dL_greed_132 : decode cL_greed 132 = .ok (.if_icmp .ne 45, 3) := by decide +kernel
theorem dL_greed_135 : decode cL_greed 135 = .ok (.aload_n 0, 1) := by decide +kernel
theorem dL_greed_136 : decode cL_greed 136 = .ok (.bipush 6, 2) := by decide +kernel
theorem dL_greed_138 : decode cL_greed 138 = .ok (.iconst 3, 1) := by decide +kernel
theorem dL_greed_139 : decode cL_greed 139 = .ok (.invokevirtual 69, 3) := by decide +kernel
theorem dL_greed_142 : decode cL_greed 142 = .ok (.ifCond .ne 35, 3) := by decide +kernel
theorem dL_greed_145 : decode cL_greed 145 = .ok (.aload_n 0, 1) := by decide +kernel
theorem dL_greed_146 : decode cL_greed 146 = .ok (.bipush 6, 2) := by decide +kernel
theorem dL_greed_148 : decode cL_greed 148 = .ok (.iconst 3, 1) := by decide +kernel
theorem dL_greed_149 : decode cL_greed 149 = .ok (.invokevirtual 72, 3) := by decide +kernel
theorem dL_greed_152 : decode cL_greed 152 = .ok (.ifCond .ne 25, 3) := by decide +kernel
theorem dL_greed_155 : decode cL_greed 155 = .ok (.aload_n 0, 1) := by decide +kernel
theorem dL_greed_156 : decode cL_greed 156 = .ok (.iconst 4, 1) := by decide +kernel
theorem dL_greed_157 : decode cL_greed 157 = .ok (.bipush 6, 2) := by decide +kernel
theorem dL_greed_159 : decode cL_greed 159 = .ok (.invokevirtual 69, 3) := by decide +kernel
theorem dL_greed_162 : decode cL_greed 162 = .ok (.iconst 4, 1) := by decide +kernel
theorem dL_greed_163 : decode cL_greed 163 = .ok (.if_icmp .ne 14, 3) := by decide +kernel
theorem dL_greed_166 : decode cL_greed 166 = .ok (.aload_n 0, 1) := by decide +kernel
theorem dL_greed_167 : decode cL_greed 167 = .ok (.iconst 4, 1) := by decide +kernel
theorem dL_greed_168 : decode cL_greed 168 = .ok (.bipush 6, 2) := by decide +kernel
theorem dL_greed_170 : decode cL_greed 170 = .ok (.invokevirtual 72, 3) := by decide +kernel
theorem dL_greed_173 : decode cL_greed 173 = .ok (.iconst 3, 1) := by decide +kernel
theorem dL_greed_174 : decode cL_greed 174 = .ok (.if_icmp .eq 5, 3) := by decide +kernel
theorem dL_greed_177 : decode cL_greed 177 = .ok (.iconst 0, 1) := by decide +kernel
theorem dL_greed_178 : decode cL_greed 178 = .ok (.ireturn, 1) := by decide +kernel
theorem dL_greed_179 : decode cL_greed 179 = .ok (.aload_n 0, 1) := by decide +kernel
theorem dL_greed_180 : decode cL_greed 180 = .ok (.invokevirtual 91, 3) := by decide +kernel
theorem dL_greed_183 : decode cL_greed 183 = .ok (.iconst 1, 1) := by decide +kernel
theorem dL_greed_184 : decode cL_greed 184 = .ok (.if_icmp .ne 204, 3) := by decide +kernel
theorem dL_greed_187 : decode cL_greed 187 = .ok (.aload_n 0, 1) := by decide +kernel
theorem dL_greed_188 : decode cL_greed 188 = .ok (.iconst 1, 1) := by decide +kernel
theorem dL_greed_189 : decode cL_greed 189 = .ok (.iconst 0, 1) := by decide +kernel
theorem dL_greed_190 : decode cL_greed 190 = .ok (.iconst 3, 1) := by decide +kernel
theorem dL_greed_191 : decode cL_greed 191 = .ok (.invokevirtual 21, 3) := by decide +kernel
theorem dL_greed_194 : decode cL_greed 194 = .ok (.ifCond .ne 194, 3) := by decide +kernel
theorem dL_greed_197 : decode cL_greed 197 = .ok (.aload_n 0, 1) := by decide +kernel
theorem dL_greed_198 : decode cL_greed 198 = .ok (.iconst 1, 1) := by decide +kernel
theorem dL_greed_199 : decode cL_greed 199 = .ok (.iconst 2, 1) := by decide +kernel
theorem dL_greed_200 : decode cL_greed 200 = .ok (.iconst 4, 1) := by decide +kernel
theorem dL_greed_201 : decode cL_greed 201 = .ok (.invokevirtual 21, 3) := by decide +kernel
theorem dL_greed_204 : decode cL_greed 204 = .ok (.ifCond .ne 184, 3) := by decide +kernel
theorem dL_greed_207 : decode cL_greed 207 = .ok (.aload_n 0, 1) := by decide +kernel
theorem dL_greed_208 : decode cL_greed 208 = .ok (.invokevirtual 91, 3) := by decide +kernel
theorem dL_greed_211 : decode cL_greed 211 = .ok (.iconst 3, 1) := by decide +kernel
theorem dL_greed_212 : decode cL_greed 212 = .ok (.if_icmp .ne 176, 3) := by decide +kernel
theorem dL_greed_215 : decode cL_greed 215 = .ok (.aload_n 0, 1) := by decide +kernel
theorem dL_greed_216 : decode cL_greed 216 = .ok (.invokevirtual 101, 3) := by decide +kernel
theorem dL_greed_219 : decode cL_greed 219 = .ok (.iconst 3, 1) := by decide +kernel
theorem dL_greed_220 : decode cL_greed 220 = .ok (.if_icmp .ne 168, 3) := by decide +kernel
theorem dL_greed_223 : decode cL_greed 223 = .ok (.aload_n 0, 1) := by decide +kernel
theorem dL_greed_224 : decode cL_greed 224 = .ok (.iconst 1, 1) := by decide +kernel
theorem dL_greed_225 : decode cL_greed 225 = .ok (.iconst 0, 1) := by decide +kernel
theorem dL_greed_226 : decode cL_greed 226 = .ok (.iconst 2, 1) := by decide +kernel
theorem dL_greed_227 : decode cL_greed 227 = .ok (.invokevirtual 24, 3) := by decide +kernel
theorem dL_greed_230 : decode cL_greed 230 = .ok (.iconst 1, 1) := by decide +kernel
theorem dL_greed_231 : decode cL_greed 231 = .ok (.if_icmp .ne 157, 3) := by decide +kernel
theorem dL_greed_234 : decode cL_greed 234 = .ok (.aload_n 0, 1) := by decide +kernel
theorem dL_greed_235 : decode cL_greed 235 = .ok (.invokevirtual 91, 3) := by decide +kernel
theorem dL_greed_238 : decode cL_greed 238 = .ok (.iconst 3, 1) := by decide +kernel
theorem dL_greed_239 : decode cL_greed 239 = .ok (.if_icmp .ne 149, 3) := by decide +kernel
theorem dL_greed_242 : decode cL_greed 242 = .ok (.aload_n 0, 1) := by decide +kernel
theorem dL_greed_243 : decode cL_greed 243 = .ok (.iconst 0, 1) := by decide +kernel
theorem dL_greed_244 : decode cL_greed 244 = .ok (.iconst 2, 1) := by decide +kernel
theorem dL_greed_245 : decode cL_greed 245 = .ok (.iconst 2, 1) := by decide +kernel
theorem dL_greed_246 : decode cL_greed 246 = .ok (.invokevirtual 24, 3) := by decide +kernel
theorem dL_greed_249 : decode cL_greed 249 = .ok (.iconst 1, 1) := by decide +kernel
theorem dL_greed_250 : decode cL_greed 250 = .ok (.if_icmp .ne 138, 3) := by decide +kernel
theorem dL_greed_253 : decode cL_greed 253 = .ok (.aload_n 0, 1) := by decide +kernel
theorem dL_greed_254 : decode cL_greed 254 = .ok (.invokevirtual 91, 3) := by decide +kernel
theorem dL_greed_257 : decode cL_greed 257 = .ok (.iconst 4, 1) := by decide +kernel
theorem dL_greed_258 : decode cL_greed 258 = .ok (.if_icmp .ne 130, 3) := by decide +kernel
theorem dL_greed_261 : decode cL_greed 261 = .ok (.aload_n 0, 1) := by decide +kernel
theorem dL_greed_262 : decode cL_greed 262 = .ok (.invokevirtual 101, 3) := by decide +kernel
theorem dL_greed_265 : decode cL_greed 265 = .ok (.iconst 4, 1) := by decide +kernel
theorem dL_greed_266 : decode cL_greed 266 = .ok (.if_icmp .ne 122, 3) := by decide +kernel
theorem dL_greed_269 : decode cL_greed 269 = .ok (.aload_n 0, 1) := by decide +kernel
theorem dL_greed_270 : decode cL_greed 270 = .ok (.iconst 1, 1) := by decide +kernel
theorem dL_greed_271 : decode cL_greed 271 = .ok (.iconst 3, 1) := by decide +kernel
theorem dL_greed_272 : decode cL_greed 272 = .ok (.iconst 0, 1) := by decide +kernel
theorem dL_greed_273 : decode cL_greed 273 = .ok (.invokevirtual 24, 3) := by decide +kernel
theorem dL_greed_276 : decode cL_greed 276 = .ok (.iconst 1, 1) := by decide +kernel
theorem dL_greed_277 : decode cL_greed 277 = .ok (.if_icmp .ne 111, 3) := by decide +kernel
theorem dL_greed_280 : decode cL_greed 280 = .ok (.aload_n 0, 1) := by decide +kernel
theorem dL_greed_281 : decode cL_greed 281 = .ok (.invokevirtual 91, 3) := by decide +kernel
theorem dL_greed_284 : decode cL_greed 284 = .ok (.iconst 3, 1) := by decide +kernel
theorem dL_greed_285 : decode cL_greed 285 = .ok (.if_icmp .ne 103, 3) := by decide +kernel
theorem dL_greed_288 : decode cL_greed 288 = .ok (.aload_n 0, 1) := by decide +kernel
theorem dL_greed_289 : decode cL_greed 289 = .ok (.iconst 0, 1) := by decide +kernel
theorem dL_greed_290 : decode cL_greed 290 = .ok (.iconst 0, 1) := by decide +kernel
theorem dL_greed_291 : decode cL_greed 291 = .ok (.bipush 36, 2) := by decide +kernel
theorem dL_greed_293 : decode cL_greed 293 = .ok (.invokestatic 123, 3) := by decide +kernel
theorem dL_greed_296 : decode cL_greed 296 = .ok (.ifCond .eq 92, 3) := by decide +kernel
theorem dL_greed_299 : decode cL_greed 299 = .ok (.aload_n 0, 1) := by decide +kernel
theorem dL_greed_300 : decode cL_greed 300 = .ok (.iconst 0, 1) := by decide +kernel
theorem dL_greed_301 : decode cL_greed 301 = .ok (.iconst 1, 1) := by decide +kernel
theorem dL_greed_302 : decode cL_greed 302 = .ok (.bipush 24, 2) := by decide +kernel
theorem dL_greed_304 : decode cL_greed 304 = .ok (.invokestatic 123, 3) := by decide +kernel
theorem dL_greed_307 : decode cL_greed 307 = .ok (.ifCond .eq 81, 3) := by decide +kernel
theorem dL_greed_310 : decode cL_greed 310 = .ok (.aload_n 0, 1) := by decide +kernel
theorem dL_greed_311 : decode cL_greed 311 = .ok (.iconst 0, 1) := by decide +kernel
theorem dL_greed_312 : decode cL_greed 312 = .ok (.iconst 2, 1) := by decide +kernel
theorem dL_greed_313 : decode cL_greed 313 = .ok (.bipush 12, 2) := by decide +kernel
theorem dL_greed_315 : decode cL_greed 315 = .ok (.invokestatic 123, 3) := by decide +kernel
theorem dL_greed_318 : decode cL_greed 318 = .ok (.ifCond .eq 70, 3) := by decide +kernel
theorem dL_greed_321 : decode cL_greed 321 = .ok (.aload_n 0, 1) := by decide +kernel
theorem dL_greed_322 : decode cL_greed 322 = .ok (.iconst 0, 1) := by decide +kernel
theorem dL_greed_323 : decode cL_greed 323 = .ok (.iconst 3, 1) := by decide +kernel
theorem dL_greed_324 : decode cL_greed 324 = .ok (.bipush 24, 2) := by decide +kernel
theorem dL_greed_326 : decode cL_greed 326 = .ok (.invokestatic 123, 3) := by decide +kernel
theorem dL_greed_329 : decode cL_greed 329 = .ok (.ifCond .eq 59, 3) := by decide +kernel
theorem dL_greed_332 : decode cL_greed 332 = .ok (.aload_n 0, 1) := by decide +kernel
theorem dL_greed_333 : decode cL_greed 333 = .ok (.iconst 2, 1) := by decide +kernel
theorem dL_greed_334 : decode cL_greed 334 = .ok (.iconst 0, 1) := by decide +kernel
theorem dL_greed_335 : decode cL_greed 335 = .ok (.bipush (-96), 2) := by decide +kernel
theorem dL_greed_337 : decode cL_greed 337 = .ok (.invokestatic 123, 3) := by decide +kernel
theorem dL_greed_340 : decode cL_greed 340 = .ok (.ifCond .eq 48, 3) := by decide +kernel
theorem dL_greed_343 : decode cL_greed 343 = .ok (.aload_n 0, 1) := by decide +kernel
theorem dL_greed_344 : decode cL_greed 344 = .ok (.iconst 2, 1) := by decide +kernel
theorem dL_greed_345 : decode cL_greed 345 = .ok (.iconst 3, 1) := by decide +kernel
theorem dL_greed_346 : decode cL_greed 346 = .ok (.iconst 0, 1) := by decide +kernel
theorem dL_greed_347 : decode cL_greed 347 = .ok (.invokestatic 123, 3) := by decide +kernel
theorem dL_greed_350 : decode cL_greed 350 = .ok (.ifCond .eq 38, 3) := by decide +kernel
theorem dL_greed_353 : decode cL_greed 353 = .ok (.aload_n 0, 1) := by decide +kernel
theorem dL_greed_354 : decode cL_greed 354 = .ok (.iconst 1, 1) := by decide +kernel
theorem dL_greed_355 : decode cL_greed 355 = .ok (.iconst 2, 1) := by decide +kernel
theorem dL_greed_356 : decode cL_greed 356 = .ok (.iconst 0, 1) := by decide +kernel
theorem dL_greed_357 : decode cL_greed 357 = .ok (.invokestatic 123, 3) := by decide +kernel
theorem dL_greed_360 : decode cL_greed 360 = .ok (.ifCond .eq 28, 3) := by decide +kernel
theorem dL_greed_363 : decode cL_greed 363 = .ok (.aload_n 0, 1) := by decide +kernel
theorem dL_greed_364 : decode cL_greed 364 = .ok (.iconst 1, 1) := by decide +kernel
theorem dL_greed_365 : decode cL_greed 365 = .ok (.iconst 0, 1) := by decide +kernel
theorem dL_greed_366 : decode cL_greed 366 = .ok (.iconst 0, 1) := by decide +kernel
theorem dL_greed_367 : decode cL_greed 367 = .ok (.invokestatic 123, 3) := by decide +kernel
theorem dL_greed_370 : decode cL_greed 370 = .ok (.ifCond .eq 18, 3) := by decide +kernel
theorem dL_greed_373 : decode cL_greed 373 = .ok (.aload_n 0, 1) := by decide +kernel
theorem dL_greed_374 : decode cL_greed 374 = .ok (.iconst 3, 1) := by decide +kernel
theorem dL_greed_375 : decode cL_greed 375 = .ok (.iconst 1, 1) := by decide +kernel
theorem dL_greed_376 : decode cL_greed 376 = .ok (.bipush 72, 2) := by decide +kernel
theorem dL_greed_378 : decode cL_greed 378 = .ok (.invokestatic 123, 3) := by decide +kernel
theorem dL_greed_381 : decode cL_greed 381 = .ok (.ifCond .eq 7, 3) := by decide +kernel
theorem dL_greed_384 : decode cL_greed 384 = .ok (.iconst 1, 1) := by decide +kernel
theorem dL_greed_385 : decode cL_greed 385 = .ok (.goto 4, 3) := by decide +kernel
theorem dL_greed_388 : decode cL_greed 388 = .ok (.iconst 0, 1) := by decide +kernel
theorem dL_greed_389 : decode cL_greed 389 = .ok (.ireturn, 1) := by decide +kernel
set_option maxRecDepth 20000 in
theorem ggL_orders_L_act : GoodIn wsL_orders wsL_act := goodIn_ca (goodIn_ca (goodIn_ca (goodIn_r _ [6, 7, 8, 9, 2, 10, 1, 11, 12, 13, 14, 15, 16, 17, 18, 19, 20, 21, 22, 23, 24, 25, 26, 27, 28, 29, 30, 31, 32, 33, 34, 35, 36, 37, 38, 39, 40, 41, 42, 43, 44, 45, 46, 47, 48, 49, 50, 51, 52, 53, 54, 55, 56, 57, 58, 59, 60, 61, 62, 63, 64, 65, 66, 67, 68, 69, 70, 71, 72, 73, 74, 75, 76, 77, 78, 79, 80, 81, 82, 83, 84, 85, 86, 87, 88, 89, 90, 91, 92, 93, 94, 95, 96, 97, 98, 99, 100, 101, 102, 103, 104, 105, 106, 107, 108, 109, 110, 111, 112, 113, 114, 115, 116, 117, 118, 119, 120, 121, 122, 123, 124, 125, 126, 127, 128, 129, 130, 131, 132, 133, 134, 135, 136, 137, 138, 139, 140, 141, 142, 143, 144, 145, 146, 147, 148, 149, 150, 151, 152, 153, 154, 155, 156, 157, 158, 159, 160, 161, 162, 163, 164, 165, 166, 167, 168, 169, 170, 171, 172, 173, 174, 175, 176, 177, 178, 179, 180, 181, 182, 183, 184, 185, 186, 187, 188, 189, 190, 191, 192, 193, 194, 195, 196, 197, 198, 199, 200, 201, 202, 203, 204, 205, 206, 207, 208, 209, 210, 211, 212, 213, 214, 215, 216, 217, 218, 219, 220, 221, 222, 223, 224, 225, 226, 227, 228, 229, 230, 231, 232, 233, 234, 235, 236, 237, 238, 239, 240, 241, 242, 243, 244, 245, 246, 247, 248, 249, 250, 251, 252, 253, 254, 255, 256, 257, 258, 259, 260, 261, 262, 263, 264, 265, 266, 267, 268, 269, 270, 271, 272, 273, 274, 275, 276, 277, 278, 279, 280, 281, 324, 325, 326, 327, 328, 329, 330, 331, 332, 333, 334, 335] rfl (by decide +kernel)) (goodIn_sub (fun _ h => List.mem_cons_of_mem _ (List.mem_append_left _ (List.mem_append_left _ (List.mem_append_right _ h)))) (by decide +kernel))) (goodIn_sub (fun _ h => List.mem_cons_of_mem _ (List.mem_append_left _ (List.mem_append_right _ h))) (by decide +kernel))) (goodIn_sub (fun _ h => List.mem_cons_of_mem _ (List.mem_append_right _ h)) (by decide +kernel))
set_option maxRecDepth 20000 in
theorem gL_orders_L_act : GoodIn wsL_orders (va_wsS RL 95 yL_act wsL_act) := goodIn_app (goodIn_of _ (by decide +kernel)) ggL_orders_L_act
set_option maxRecDepth 20000 in
theorem ggL_orders_X0_order : GoodIn wsL_orders wsX0_order := goodIn_ca (goodIn_ca (goodIn_r _ [238, 18, 16, 239, 40, 41, 42, 14, 43, 44, 45, 46, 47, 48, 240, 241, 242, 243, 49, 50, 51, 106, 107, 108, 109, 110, 58, 59, 60, 324, 325, 326, 327, 328, 329, 330, 331, 332, 333, 334, 335] (by decide +kernel) (by decide +kernel)) (goodIn_sub (fun _ h => List.mem_cons_of_mem _ (List.mem_append_left _ (List.mem_append_right _ h))) (by decide +kernel))) (goodIn_sub (fun _ h => List.mem_cons_of_mem _ (List.mem_append_right _ h)) (by decide +kernel))
set_option maxRecDepth 20000 in
theorem gL_orders_X0_order : GoodIn wsL_orders (wsV RL 63 RX0 yX0_order wsX0_order) := goodIn_app (goodIn_of _ (by decide +kernel)) ggL_orders_X0_order
set_option maxRecDepth 20000 in
theorem ggL_orders_X0_corner : GoodIn wsL_orders wsX0_corner := goodIn_ca (goodIn_ca (goodIn_r _ [247, 163, 164, 165, 14, 166, 17, 40, 41, 42, 43, 16, 44, 45, 46, 47, 48, 240, 241, 242, 243, 18, 239, 49, 50, 51, 106, 107, 108, 109, 110, 248, 249, 250, 251, 52, 53, 54, 199, 200, 201, 202, 167, 168, 169, 170, 154, 324, 325, 326, 327, 328, 329, 330, 331, 332, 333, 334, 335] (by decide +kernel) (by decide +kernel)) (goodIn_sub (fun _ h => List.mem_cons_of_mem _ (List.mem_append_left _ (List.mem_append_right _ h))) (by decide +kernel))) (goodIn_sub (fun _ h => List.mem_cons_of_mem _ (List.mem_append_right _ h)) (by decide +kernel))
set_option maxRecDepth 20000 in
theorem gL_orders_X0_corner : GoodIn wsL_orders (wsV RL 66 RX0 yX0_corner wsX0_corner) := goodIn_app (goodIn_of _ (by decide +kernel)) ggL_orders_X0_corner
set_option maxRecDepth 20000 in
theorem ggL_orders_L_refuses : GoodIn wsL_orders wsL_refuses := goodIn_ca (goodIn_ca (goodIn_ca (goodIn_r _ [284, 285, 10, 2, 286, 287, 288, 14, 289, 16, 290, 291, 292, 293, 294, 295, 296, 297, 298, 299, 32, 33, 34, 35, 300, 301, 302, 303, 82, 83, 84, 85, 21, 49, 50, 51, 61, 62, 63, 142, 143, 144, 145, 90, 91, 92, 93, 22, 58, 59, 60, 304, 305, 306, 307, 308, 309, 310, 311, 123, 124, 125, 126, 127, 128, 129, 312, 313, 314, 315, 3, 4, 5, 6, 7, 8, 9, 1, 11, 12, 13, 15, 17, 18, 19, 20, 23, 24, 25, 26, 27, 28, 29, 30, 31, 36, 37, 38, 39, 40, 41, 42, 43, 44, 45, 46, 47, 48, 52, 53, 54, 55, 56, 57, 64, 65, 66, 67, 68, 69, 70, 71, 72, 73, 74, 75, 76, 77, 78, 79, 80, 81, 86, 87, 88, 89, 94, 95, 96, 97, 98, 99, 100, 101, 102, 103, 104, 105, 106, 107, 108, 109, 110, 111, 112, 113, 114, 115, 116, 117, 118, 119, 120, 121, 122, 130, 131, 132, 133, 134, 135, 136, 137, 138, 139, 140, 141, 146, 147, 148, 149, 150, 151, 152, 153, 154, 155, 156, 157, 158, 159, 160, 161, 162, 163, 164, 165, 166, 167, 168, 169, 170, 171, 172, 173, 174, 175, 176, 177, 178, 179, 180, 181, 182, 183, 184, 185, 186, 187, 188, 189, 190, 191, 192, 193, 194, 195, 196, 197, 198, 199, 200, 201, 202, 203, 204, 205, 206, 207, 208, 209, 210, 211, 212, 213, 214, 215, 216, 217, 218, 219, 220, 221, 222, 223, 224, 225, 226, 227, 228, 229, 230, 231, 232, 233, 234, 235, 236, 237, 238, 239, 240, 241, 242, 243, 244, 245, 246, 247, 248, 249, 250, 251, 252, 253, 254, 255, 256, 257, 258, 259, 260, 261, 262, 263, 264, 265, 266, 267, 268, 269, 270, 271, 272, 273, 274, 275, 276, 277, 278, 279, 280, 281, 316, 317, 318, 319, 320, 321, 322, 323, 324, 325, 326, 327, 328, 329, 330, 331, 332, 333, 334, 335] rfl (by decide +kernel)) (goodIn_sub (fun _ h => List.mem_cons_of_mem _ (List.mem_append_left _ (List.mem_append_left _ (List.mem_append_right _ h)))) (by decide +kernel))) (goodIn_sub (fun _ h => List.mem_cons_of_mem _ (List.mem_append_left _ (List.mem_append_right _ h))) (by decide +kernel))) (goodIn_sub (fun _ h => List.mem_cons_of_mem _ (List.mem_append_right _ h)) (by decide +kernel))
set_option maxRecDepth 20000 in
theorem gL_orders_L_refuses : GoodIn wsL_orders (va_wsS RL 105 yL_refuses wsL_refuses) := goodIn_app (goodIn_of _ (by decide +kernel)) ggL_orders_L_refuses
set_option maxRecDepth 20000 in
theorem ggL_orders_X0_elements : GoodIn wsL_orders wsX0_elements := goodIn_ca (goodIn_r _ [15, 16, 17, 18, 19, 20, 21, 22, 23, 24, 25, 14, 26, 27, 28, 29, 30, 31, 32, 33, 34, 35, 324, 325, 326, 327, 328, 329, 330, 331, 332, 333, 334, 335] (by decide +kernel) (by decide +kernel)) (goodIn_sub (fun _ h => List.mem_cons_of_mem _ (List.mem_append_left _ (List.mem_append_left _ (List.mem_append_right _ h)))) (by decide +kernel))
set_option maxRecDepth 20000 in
theorem gL_orders_X0_elements : GoodIn wsL_orders (wsV RL 7 RX0 yX0_elements wsX0_elements) := goodIn_app (goodIn_of _ (by decide +kernel)) ggL_orders_X0_elements
set_option maxRecDepth 20000 in
theorem ggL_orders_X0_make : GoodIn wsL_orders wsX0_make := goodIn_ca (goodIn_ca (goodIn_r _ [101, 24, 25, 14, 26, 27, 28, 29, 30, 31, 102, 103, 104, 105, 17, 106, 107, 108, 109, 110, 111, 112, 113, 114, 16, 115, 116, 117, 118, 119, 120, 121, 122, 19, 61, 62, 63, 49, 50, 51, 123, 124, 125, 126, 127, 128, 129, 130, 131, 132, 133, 68, 69, 70, 71, 20, 134, 135, 136, 137, 138, 139, 140, 141, 142, 143, 144, 145, 82, 83, 84, 85, 21, 90, 91, 92, 93, 22, 146, 147, 148, 149, 23, 150, 151, 152, 153, 154, 58, 59, 60, 155, 156, 157, 158, 324, 325, 326, 327, 328, 329, 330, 331, 332, 333, 334, 335] (by decide +kernel) (by decide +kernel)) (goodIn_sub (fun _ h => List.mem_cons_of_mem _ (List.mem_append_left _ (List.mem_append_left _ (List.mem_append_right _ h)))) (by decide +kernel))) (goodIn_sub (fun _ h => List.mem_cons_of_mem _ (List.mem_append_right _ h)) (by decide +kernel))
set_option maxRecDepth 20000 in
theorem gL_orders_X0_make : GoodIn wsL_orders (wsV RL 31 RX0 yX0_make wsX0_make) := goodIn_app (goodIn_of _ (by decide +kernel)) ggL_orders_X0_make
set_option maxRecDepth 20000 in
theorem ggL_orders_X0_value : GoodIn wsL_orders wsX0_value := goodIn_ca (goodIn_ca (goodIn_r _ [186, 163, 164, 165, 14, 166, 17, 44, 45, 46, 47, 48, 175, 176, 177, 178, 111, 112, 113, 114, 16, 27, 28, 29, 30, 31, 167, 168, 169, 170, 154, 49, 50, 51, 324, 325, 326, 327, 328, 329, 330, 331, 332, 333, 334, 335] (by decide +kernel) (by decide +kernel)) (goodIn_sub (fun _ h => List.mem_cons_of_mem _ (List.mem_append_left _ (List.mem_append_right _ h))) (by decide +kernel))) (goodIn_sub (fun _ h => List.mem_cons_of_mem _ (List.mem_append_left _ (List.mem_append_left _ (List.mem_append_right _ h)))) (by decide +kernel))
set_option maxRecDepth 20000 in
theorem gL_orders_X0_value : GoodIn wsL_orders (wsV RL 43 RX0 yX0_value wsX0_value) := goodIn_app (goodIn_of _ (by decide +kernel)) ggL_orders_X0_value
theorem dL_orders_0 : decode cL_orders 0 = .ok (.aload_n 0, 1) := by decide +kernel
theorem dL_orders_1 : decode cL_orders 1 = .ok (.bipush 17, 2) := by decide +kernel
theorem dL_orders_3 : decode cL_orders 3 = .ok (.iconst 0, 1) := by decide +kernel
theorem dL_orders_4 : decode cL_orders 4 = .ok (.iconst 0, 1) := by decide +kernel
theorem dL_orders_5 : decode cL_orders 5 = .ok (.iconst 0, 1) := by decide +kernel
theorem dL_orders_6 : decode cL_orders 6 = .ok (.invokestatic 95, 3) := by decide +kernel
theorem dL_orders_9 : decode cL_orders 9 = .ok (.ldc 89, 2) := by decide +kernel
theorem dL_orders_11 : decode cL_orders 11 = .ok (.if_icmp .ne 384, 3) := by decide +kernel
theorem dL_orders_14 : decode cL_orders 14 = .ok (.aload_n 0, 1) := by decide +kernel
theorem dL_orders_15 : decode cL_orders 15 = .ok (.iconst 2, 1) := by decide +kernel
theorem dL_orders_16 : decode cL_orders 16 = .ok (.invokevirtual 63, 3) := by decide +kernel
theorem dL_orders_19 : decode cL_orders 19 = .ok (.iconst 1, 1) := by decide +kernel
theorem dL_orders_20 : decode cL_orders 20 = .ok (.if_icmp .ne 375, 3) := by decide +kernel
theorem dL_orders_23 : decode cL_orders 23 = .ok (.aload_n 0, 1) := by decide +kernel
theorem dL_orders_24 : decode cL_orders 24 = .ok (.iconst 0, 1) := by decide +kernel
theorem dL_orders_25 : decode cL_orders 25 = .ok (.invokevirtual 63, 3) := by decide +kernel
theorem dL_orders_28 : decode cL_orders 28 = .ok (.iconst 2, 1) := by decide +kernel
theorem dL_orders_29 : decode cL_orders 29 = .ok (.if_icmp .ne 366, 3) := by decide +kernel
theorem dL_orders_32 : decode cL_orders 32 = .ok (.aload_n 0, 1) := by decide +kernel
theorem dL_orders_33 : decode cL_orders 33 = .ok (.bipush 16, 2) := by decide +kernel
theorem dL_orders_35 : decode cL_orders 35 = .ok (.iconst 2, 1) := by decide +kernel
theorem dL_orders_36 : decode cL_orders 36 = .ok (.iconst 0, 1) := by decide +kernel
theorem dL_orders_37 : decode cL_orders 37 = .ok (.iconst 0, 1) := by decide +kernel
theorem dL_orders_38 : decode cL_orders 38 = .ok (.invokestatic 95, 3) := by decide +kernel
theorem dL_orders_41 : decode cL_orders 41 = .ok (.ldc 89, 2) := by decide +kernel
theorem dL_orders_43 : decode cL_orders 43 = .ok (.if_icmp .ne 352, 3) := by decide +kernel
theorem dL_orders_46 : decode cL_orders 46 = .ok (.aload_n 0, 1) := by decide +kernel
theorem dL_orders_47 : decode cL_orders 47 = .ok (.bipush 16, 2) := by decide +kernel
theorem dL_orders_49 : decode cL_orders 49 = .ok (.iconst 0, 1) := by decide +kernel
theorem dL_orders_50 : decode cL_orders 50 = .ok (.iconst 0, 1) := by decide +kernel
theorem dL_orders_51 : decode cL_orders 51 = .ok (.iconst 0, 1) := by decide +kernel
theorem dL_orders_52 : decode cL_orders 52 = .ok (.invokestatic 95, 3) := by decide +kernel
theorem dL_orders_55 : decode cL_orders 55 = .ok (.ldc 89, 2) := by decide +kernel
theorem dL_orders_57 : decode cL_orders 57 = .ok (.if_icmp .ne 338, 3) := by decide +kernel
theorem dL_orders_60 : decode cL_orders 60 = .ok (.aload_n 0, 1) := by decide +kernel
theorem dL_orders_61 : decode cL_orders 61 = .ok (.iconst 0, 1) := by decide +kernel
theorem dL_orders_62 : decode cL_orders 62 = .ok (.iconst 2, 1) := by decide +kernel
theorem dL_orders_63 : decode cL_orders 63 = .ok (.invokevirtual 66, 3) := by decide +kernel
theorem dL_orders_66 : decode cL_orders 66 = .ok (.iconst 1, 1) := by decide +kernel
theorem dL_orders_67 : decode cL_orders 67 = .ok (.if_icmp .ne 328, 3) := by decide +kernel
theorem dL_orders_70 : decode cL_orders 70 = .ok (.aload_n 0, 1) := by decide +kernel
theorem dL_orders_71 : decode cL_orders 71 = .ok (.iconst 0, 1) := by decide +kernel
theorem dL_orders_72 : decode cL_orders 72 = .ok (.iconst 0, 1) := by decide +kernel
theorem dL_orders_73 : decode cL_orders 73 = .ok (.invokevirtual 66, 3) := by decide +kernel
theorem dL_orders_76 : decode cL_orders 76 = .ok (.iconst 2, 1) := by decide +kernel
theorem dL_orders_77 : decode cL_orders 77 = .ok (.if_icmp .ne 318, 3) := by decide +kernel
theorem dL_orders_80 : decode cL_orders 80 = .ok (.aload_n 0, 1) := by decide +kernel
theorem dL_orders_81 : decode cL_orders 81 = .ok (.bipush 17, 2) := by decide +kernel
theorem dL_orders_83 : decode cL_orders 83 = .ok (.iconst 0, 1) := by decide +kernel
theorem dL_orders_84 : decode cL_orders 84 = .ok (.iconst 1, 1) := by decide +kernel
theorem dL_orders_85 : decode cL_orders 85 = .ok (.iconst 0, 1) := by decide +kernel
theorem dL_orders_86 : decode cL_orders 86 = .ok (.invokestatic 95, 3) := by decide +kernel
theorem dL_orders_89 : decode cL_orders 89 = .ok (.ldc 89, 2) := by decide +kernel
theorem dL_orders_91 : decode cL_orders 91 = .ok (.if_icmp .ne 304, 3) := by decide +kernel
theorem dL_orders_94 : decode cL_orders 94 = .ok (.aload_n 0, 1) := by decide +kernel
theorem dL_orders_95 : decode cL_orders 95 = .ok (.iconst 1, 1) := by decide +kernel
theorem dL_orders_96 : decode cL_orders 96 = .ok (.invokevirtual 63, 3) := by decide +kernel
theorem dL_orders_99 : decode cL_orders 99 = .ok (.iconst 3, 1) := by decide +kernel
theorem dL_orders_100 : decode cL_orders 100 = .ok (.if_icmp .ne 295, 3) := by decide +kernel
theorem dL_orders_103 : decode cL_orders 103 = .ok (.aload_n 0, 1) := by decide +kernel
theorem dL_orders_104 : decode cL_orders 104 = .ok (.iconst 3, 1) := by decide +kernel
theorem dL_orders_105 : decode cL_orders 105 = .ok (.invokevirtual 63, 3) := by decide +kernel
theorem dL_orders_108 : decode cL_orders 108 = .ok (.iconst 4, 1) := by decide +kernel
theorem dL_orders_109 : decode cL_orders 109 = .ok (.if_icmp .ne 286, 3) := by decide +kernel
theorem dL_orders_112 : decode cL_orders 112 = .ok (.aload_n 0, 1) := by decide +kernel
theorem dL_orders_113 : decode cL_orders 113 = .ok (.iconst 0, 1) := by decide +kernel
theorem dL_orders_114 : decode cL_orders 114 = .ok (.iconst 1, 1) := by decide +kernel
theorem dL_orders_115 : decode cL_orders 115 = .ok (.invokevirtual 66, 3) := by decide +kernel
theorem dL_orders_118 : decode cL_orders 118 = .ok (.ifCond .ne 277, 3) := by decide +kernel
theorem dL_orders_121 : decode cL_orders 121 = .ok (.aload_n 0, 1) := by decide +kernel
theorem dL_orders_122 : decode cL_orders 122 = .ok (.iconst 0, 1) := by decide +kernel
theorem dL_orders_123 : decode cL_orders 123 = .ok (.iconst 3, 1) := by decide +kernel
theorem dL_orders_124 : decode cL_orders 124 = .ok (.invokevirtual 66, 3) := by decide +kernel
theorem dL_orders_127 : decode cL_orders 127 = .ok (.iconst 1, 1) := by decide +kernel
theorem dL_orders_128 : decode cL_orders 128 = .ok (.if_icmp .ne 267, 3) := by decide +kernel
theorem dL_orders_131 : decode cL_orders 131 = .ok (.aload_n 0, 1) := by decide +kernel
theorem dL_orders_132 : decode cL_orders 132 = .ok (.iconst 1, 1) := by decide +kernel
theorem dL_orders_133 : decode cL_orders 133 = .ok (.iconst 2, 1) := by decide +kernel
theorem dL_orders_134 : decode cL_orders 134 = .ok (.invokevirtual 66, 3) := by decide +kernel
theorem dL_orders_137 : decode cL_orders 137 = .ok (.iconst 3, 1) := by decide +kernel
theorem dL_orders_138 : decode cL_orders 138 = .ok (.if_icmp .ne 257, 3) := by decide +kernel
theorem dL_orders_141 : decode cL_orders 141 = .ok (.aload_n 0, 1) := by decide +kernel
theorem dL_orders_142 : decode cL_orders 142 = .ok (.iconst 1, 1) := by decide +kernel
theorem dL_orders_143 : decode cL_orders 143 = .ok (.iconst 0, 1) := by decide +kernel
theorem dL_orders_144 : decode cL_orders 144 = .ok (.invokevirtual 66, 3) := by decide +kernel
theorem dL_orders_147 : decode cL_orders 147 = .ok (.bipush 7, 2) := by decide +kernel
theorem dL_orders_149 : decode cL_orders 149 = .ok (.if_icmp .ne 246, 3) := by decide +kernel
theorem dL_orders_152 : decode cL_orders 152 = .ok (.aload_n 0, 1) := by decide +kernel
theorem dL_orders_153 : decode cL_orders 153 = .ok (.iconst 1, 1) := by decide +kernel
theorem dL_orders_154 : decode cL_orders 154 = .ok (.iconst 1, 1) := by decide +kernel
theorem dL_orders_155 : decode cL_orders 155 = .ok (.invokevirtual 66, 3) := by decide +kernel
theorem dL_orders_158 : decode cL_orders 158 = .ok (.bipush (-8), 2) := by decide +kernel
theorem dL_orders_160 : decode cL_orders 160 = .ok (.if_icmp .ne 235, 3) := by decide +kernel
theorem dL_orders_163 : decode cL_orders 163 = .ok (.aload_n 0, 1) := by decide +kernel
theorem dL_orders_164 : decode cL_orders 164 = .ok (.iconst 1, 1) := by decide +kernel
theorem dL_orders_165 : decode cL_orders 165 = .ok (.iconst 3, 1) := by decide +kernel
theorem dL_orders_166 : decode cL_orders 166 = .ok (.invokevirtual 66, 3) := by decide +kernel
theorem dL_orders_169 : decode cL_orders 169 = .ok (.bipush (-2), 2) := by decide +kernel
theorem dL_orders_171 : decode cL_orders 171 = .ok (.if_icmp .ne 224, 3) := by decide +kernel
theorem dL_orders_174 : decode cL_orders 174 = .ok (.aload_n 0, 1) := by decide +kernel
theorem dL_orders_175 : decode cL_orders 175 = .ok (.iconst 3, 1) := by decide +kernel
theorem dL_orders_176 : decode cL_orders 176 = .ok (.invokevirtual 63, 3) := by decide +kernel
theorem dL_orders_179 : decode cL_orders 179 = .ok (.iconst 1, 1) := by decide +kernel
theorem dL_orders_180 : decode cL_orders 180 = .ok (.if_icmp .ne 215, 3) := by decide +kernel
theorem dL_orders_183 : decode cL_orders 183 = .ok (.aload_n 0, 1) := by decide +kernel
theorem dL_orders_184 : decode cL_orders 184 = .ok (.iconst 0, 1) := by decide +kernel
theorem dL_orders_185 : decode cL_orders 185 = .ok (.iconst 3, 1) := by decide +kernel
theorem dL_orders_186 : decode cL_orders 186 = .ok (.invokevirtual 66, 3) := by decide +kernel
theorem dL_orders_189 : decode cL_orders 189 = .ok (.iconst 1, 1) := by decide +kernel
theorem dL_orders_190 : decode cL_orders 190 = .ok (.if_icmp .ne 205, 3) := by decide +kernel
theorem dL_orders_193 : decode cL_orders 193 = .ok (.aload_n 0, 1) := by decide +kernel
theorem dL_orders_194 : decode cL_orders 194 = .ok (.iconst 1, 1) := by decide +kernel
theorem dL_orders_195 : decode cL_orders 195 = .ok (.iconst 3, 1) := by decide +kernel
theorem dL_orders_196 : decode cL_orders 196 = .ok (.invokevirtual 66, 3) := by decide +kernel
theorem dL_orders_199 : decode cL_orders 199 = .ok (.iconst 2, 1) := by decide +kernel
theorem dL_orders_200 : decode cL_orders 200 = .ok (.if_icmp .ne 195, 3) := by decide +kernel
theorem dL_orders_203 : decode cL_orders 203 = .ok (.aload_n 0, 1) := by decide +kernel
theorem dL_orders_204 : decode cL_orders 204 = .ok (.bipush 17, 2) := by decide +kernel
theorem dL_orders_206 : decode cL_orders 206 = .ok (.iconst 0, 1) := by decide +kernel
theorem dL_orders_207 : decode cL_orders 207 = .ok (.iconst 0, 1) := by decide +kernel
theorem dL_orders_208 : decode cL_orders 208 = .ok (.iconst 0, 1) := by decide +kernel
theorem dL_orders_209 : decode cL_orders 209 = .ok (.invokestatic 95, 3) := by decide +kernel
theorem dL_orders_212 : decode cL_orders 212 = .ok (.ldc 89, 2) := by decide +kernel
theorem dL_orders_214 : decode cL_orders 214 = .ok (.if_icmp .ne 181, 3) := by decide +kernel
theorem dL_orders_217 : decode cL_orders 217 = .ok (.aload_n 0, 1) := by decide +kernel
theorem dL_orders_218 : decode cL_orders 218 = .ok (.iconst 0, 1) := by decide +kernel
theorem dL_orders_219 : decode cL_orders 219 = .ok (.invokevirtual 63, 3) := by decide +kernel
theorem dL_orders_222 : decode cL_orders 222 = .ok (.iconst 2, 1) := by decide +kernel
theorem dL_orders_223 : decode cL_orders 223 = .ok (.if_icmp .ne 172, 3) := by decide +kernel
theorem dL_orders_226 : decode cL_orders 226 = .ok (.aload_n 0, 1) := by decide +kernel
theorem dL_orders_227 : decode cL_orders 227 = .ok (.iconst 1, 1) := by decide +kernel
theorem dL_orders_228 : decode cL_orders 228 = .ok (.iconst 0, 1) := by decide +kernel
theorem dL_orders_229 : decode cL_orders 229 = .ok (.invokevirtual 66, 3) := by decide +kernel
theorem dL_orders_232 : decode cL_orders 232 = .ok (.iconst 3, 1) := by decide +kernel
theorem dL_orders_233 : decode cL_orders 233 = .ok (.if_icmp .ne 162, 3) := by decide +kernel
theorem dL_orders_236 : decode cL_orders 236 = .ok (.aload_n 0, 1) := by decide +kernel
theorem dL_orders_237 : decode cL_orders 237 = .ok (.iconst 4, 1) := by decide +kernel
theorem dL_orders_238 : decode cL_orders 238 = .ok (.bipush 8, 2) := by decide +kernel
theorem dL_orders_240 : decode cL_orders 240 = .ok (.invokestatic 105, 3) := by decide +kernel
theorem dL_orders_243 : decode cL_orders 243 = .ok (.ifCond .eq 152, 3) := by decide +kernel
theorem dL_orders_246 : decode cL_orders 246 = .ok (.aload_n 0, 1) := by decide +kernel
theorem dL_orders_247 : decode cL_orders 247 = .ok (.iconst 2, 1) := by decide +kernel
theorem dL_orders_248 : decode cL_orders 248 = .ok (.invokevirtual 7, 3) := by decide +kernel
theorem dL_orders_251 : decode cL_orders 251 = .ok (.iconst 4, 1) := by decide +kernel
theorem dL_orders_252 : decode cL_orders 252 = .ok (.if_icmp .ne 143, 3) := by decide +kernel
theorem dL_orders_255 : decode cL_orders 255 = .ok (.aload_n 0, 1) := by decide +kernel
theorem dL_orders_256 : decode cL_orders 256 = .ok (.iconst 2, 1) := by decide +kernel
theorem dL_orders_257 : decode cL_orders 257 = .ok (.iconst 0, 1) := by decide +kernel
theorem dL_orders_258 : decode cL_orders 258 = .ok (.invokestatic 105, 3) := by decide +kernel
theorem dL_orders_261 : decode cL_orders 261 = .ok (.ifCond .eq 134, 3) := by decide +kernel
theorem dL_orders_264 : decode cL_orders 264 = .ok (.aload_n 0, 1) := by decide +kernel
theorem dL_orders_265 : decode cL_orders 265 = .ok (.bipush 17, 2) := by decide +kernel
theorem dL_orders_267 : decode cL_orders 267 = .ok (.iconst 0, 1) := by decide +kernel
theorem dL_orders_268 : decode cL_orders 268 = .ok (.iconst 0, 1) := by decide +kernel
theorem dL_orders_269 : decode cL_orders 269 = .ok (.iconst 0, 1) := by decide +kernel
theorem dL_orders_270 : decode cL_orders 270 = .ok (.invokestatic 95, 3) := by decide +kernel
theorem dL_orders_273 : decode cL_orders 273 = .ok (.ldc 83, 2) := by decide +kernel
theorem dL_orders_275 : decode cL_orders 275 = .ok (.if_icmp .ne 120, 3) := by decide +kernel
theorem dL_orders_278 : decode cL_orders 278 = .ok (.aload_n 0, 1) := by decide +kernel
theorem dL_orders_279 : decode cL_orders 279 = .ok (.iconst 0, 1) := by decide +kernel
theorem dL_orders_280 : decode cL_orders 280 = .ok (.invokevirtual 31, 3) := by decide +kernel
theorem dL_orders_283 : decode cL_orders 283 = .ok (.ifCond .ne 112, 3) := by decide +kernel
theorem dL_orders_286 : decode cL_orders 286 = .ok (.aload_n 0, 1) := by decide +kernel
theorem dL_orders_287 : decode cL_orders 287 = .ok (.iconst 0, 1) := by decide +kernel
theorem dL_orders_288 : decode cL_orders 288 = .ok (.iconst 3, 1) := by decide +kernel
theorem dL_orders_289 : decode cL_orders 289 = .ok (.invokevirtual 43, 3) := by decide +kernel
theorem dL_orders_292 : decode cL_orders 292 = .ok (.ifCond .ne 103, 3) := by decide +kernel
theorem dL_orders_295 : decode cL_orders 295 = .ok (.aload_n 0, 1) := by decide +kernel
theorem dL_orders_296 : decode cL_orders 296 = .ok (.iconst 1, 1) := by decide +kernel
theorem dL_orders_297 : decode cL_orders 297 = .ok (.invokevirtual 31, 3) := by decide +kernel
theorem dL_orders_300 : decode cL_orders 300 = .ok (.iconst 1, 1) := by decide +kernel
theorem dL_orders_301 : decode cL_orders 301 = .ok (.if_icmp .ne 94, 3) := by decide +kernel
theorem dL_orders_304 : decode cL_orders 304 = .ok (.aload_n 0, 1) := by decide +kernel
theorem dL_orders_305 : decode cL_orders 305 = .ok (.iconst 1, 1) := by decide +kernel
theorem dL_orders_306 : decode cL_orders 306 = .ok (.iconst 1, 1) := by decide +kernel
theorem dL_orders_307 : decode cL_orders 307 = .ok (.invokevirtual 43, 3) := by decide +kernel
theorem dL_orders_310 : decode cL_orders 310 = .ok (.ifCond .ne 85, 3) := by decide +kernel
theorem dL_orders_313 : decode cL_orders 313 = .ok (.aload_n 0, 1) := by decide +kernel
theorem dL_orders_314 : decode cL_orders 314 = .ok (.iconst 2, 1) := by decide +kernel
theorem dL_orders_315 : decode cL_orders 315 = .ok (.invokevirtual 31, 3) := by decide +kernel
theorem dL_orders_318 : decode cL_orders 318 = .ok (.iconst 2, 1) := by decide +kernel
theorem dL_orders_319 : decode cL_orders 319 = .ok (.if_icmp .ne 76, 3) := by decide +kernel
theorem dL_orders_322 : decode cL_orders 322 = .ok (.aload_n 0, 1) := by decide +kernel
theorem dL_orders_323 : decode cL_orders 323 = .ok (.iconst 2, 1) := by decide +kernel
theorem dL_orders_324 : decode cL_orders 324 = .ok (.iconst 3, 1) := by decide +kernel
theorem dL_orders_325 : decode cL_orders 325 = .ok (.invokevirtual 43, 3) := by decide +kernel
theorem dL_orders_328 : decode cL_orders 328 = .ok (.iconst 1, 1) := by decide +kernel
theorem dL_orders_329 : decode cL_orders 329 = .ok (.if_icmp .ne 66, 3) := by decide +kernel
theorem dL_orders_332 : decode cL_orders 332 = .ok (.aload_n 0, 1) := by decide +kernel
theorem dL_orders_333 : decode cL_orders 333 = .ok (.iconst 4, 1) := by decide +kernel
theorem dL_orders_334 : decode cL_orders 334 = .ok (.invokevirtual 31, 3) := by decide +kernel
theorem dL_orders_337 : decode cL_orders 337 = .ok (.iconst 3, 1) := by decide +kernel
theorem dL_orders_338 : decode cL_orders 338 = .ok (.if_icmp .ne 57, 3) := by decide +kernel
theorem dL_orders_341 : decode cL_orders 341 = .ok (.aload_n 0, 1) := by decide +kernel
theorem dL_orders_342 : decode cL_orders 342 = .ok (.iconst 3, 1) := by decide +kernel
theorem dL_orders_343 : decode cL_orders 343 = .ok (.iconst 3, 1) := by decide +kernel
theorem dL_orders_344 : decode cL_orders 344 = .ok (.invokevirtual 43, 3) := by decide +kernel
theorem dL_orders_347 : decode cL_orders 347 = .ok (.ifCond .ne 48, 3) := by decide +kernel
theorem dL_orders_350 : decode cL_orders 350 = .ok (.aload_n 0, 1) := by decide +kernel
theorem dL_orders_351 : decode cL_orders 351 = .ok (.iconst 1, 1) := by decide +kernel
theorem dL_orders_352 : decode cL_orders 352 = .ok (.invokevirtual 63, 3) := by decide +kernel
theorem dL_orders_355 : decode cL_orders 355 = .ok (.iconst 1, 1) := by decide +kernel
theorem dL_orders_356 : decode cL_orders 356 = .ok (.if_icmp .ne 39, 3) := by decide +kernel
theorem dL_orders_359 : decode cL_orders 359 = .ok (.aload_n 0, 1) := by decide +kernel
theorem dL_orders_360 : decode cL_orders 360 = .ok (.iconst 2, 1) := by decide +kernel
theorem dL_orders_361 : decode cL_orders 361 = .ok (.invokevirtual 7, 3) := by decide +kernel
theorem dL_orders_364 : decode cL_orders 364 = .ok (.iconst 2, 1) := by decide +kernel
theorem dL_orders_365 : decode cL_orders 365 = .ok (.if_icmp .ne 30, 3) := by decide +kernel
theorem dL_orders_368 : decode cL_orders 368 = .ok (.aload_n 0, 1) := by decide +kernel
theorem dL_orders_369 : decode cL_orders 369 = .ok (.bipush 10, 2) := by decide +kernel
theorem dL_orders_371 : decode cL_orders 371 = .ok (.iconst 0, 1) := by decide +kernel
theorem dL_orders_372 : decode cL_orders 372 = .ok (.iconst 0, 1) := by decide +kernel
theorem dL_orders_373 : decode cL_orders 373 = .ok (.iconst 0, 1) := by decide +kernel
theorem dL_orders_374 : decode cL_orders 374 = .ok (.invokestatic 95, 3) := by decide +kernel
theorem dL_orders_377 : decode cL_orders 377 = .ok (.ldc 83, 2) := by decide +kernel
theorem dL_orders_379 : decode cL_orders 379 = .ok (.if_icmp .ne 16, 3) := by decide +kernel
theorem dL_orders_382 : decode cL_orders 382 = .ok (.aload_n 0, 1) := by decide +kernel
theorem dL_orders_383 : decode cL_orders 383 = .ok (.iconst 1, 1) := by decide +kernel
theorem dL_orders_384 : decode cL_orders 384 = .ok (.invokevirtual 63, 3) := by decide +kernel
theorem dL_orders_387 : decode cL_orders 387 = .ok (.iconst 1, 1) := by decide +kernel
theorem dL_orders_388 : decode cL_orders 388 = .ok (.if_icmp .ne 7, 3) := by decide +kernel
theorem dL_orders_391 : decode cL_orders 391 = .ok (.iconst 1, 1) := by decide +kernel
theorem dL_orders_392 : decode cL_orders 392 = .ok (.goto 4, 3) := by decide +kernel
theorem dL_orders_395 : decode cL_orders 395 = .ok (.iconst 0, 1) := by decide +kernel
theorem dL_orders_396 : decode cL_orders 396 = .ok (.ireturn, 1) := by decide +kernel
set_option maxRecDepth 20000 in
theorem ggL_six_X0_init : GoodIn wsL_six wsX0_init := goodIn_r _ [6, 7, 8, 9, 10, 11, 12, 13, 14, 15, 16, 17, 18, 19, 20, 21, 22, 23, 24, 25, 26, 339, 340, 341, 342, 343, 344, 345, 346, 347, 348, 349, 350] (by decide +kernel) (by decide +kernel)
set_option maxRecDepth 20000 in
theorem gL_six_X0_init : GoodIn wsL_six (wsX0_init) := ggL_six_X0_init
set_option maxRecDepth 20000 in
theorem ggL_six_X0_elements : GoodIn wsL_six wsX0_elements := goodIn_ca (goodIn_r _ [30, 10, 11, 12, 14, 15, 16, 17, 18, 31, 32, 3, 33, 34, 35, 36, 37, 38, 23, 24, 25, 26, 339, 340, 341, 342, 343, 344, 345, 346, 347, 348, 349, 350] (by decide +kernel) (by decide +kernel)) (goodIn_sub (fun _ h => List.mem_cons_of_mem _ (List.mem_append_left _ (List.mem_append_left _ (List.mem_append_right _ h)))) (by decide +kernel))
set_option maxRecDepth 20000 in
theorem gL_six_X0_elements : GoodIn wsL_six (wsV RL 7 RX0 yX0_elements wsX0_elements) := goodIn_app (goodIn_of _ (by decide +kernel)) ggL_six_X0_elements
set_option maxRecDepth 20000 in
theorem ggL_six_X0_weigh : GoodIn wsL_six wsX0_weigh := goodIn_ca (goodIn_ca (goodIn_r _ [42, 18, 43, 44, 45, 3, 46, 10, 47, 48, 49, 50, 51, 31, 32, 33, 34, 35, 36, 37, 38, 52, 53, 54, 55, 56, 57, 339, 340, 341, 342, 343, 344, 345, 346, 347, 348, 349, 350] (by decide +kernel) (by decide +kernel)) (goodIn_sub (fun _ h => List.mem_cons_of_mem _ (List.mem_append_left _ (List.mem_append_right _ h))) (by decide +kernel))) (goodIn_sub (fun _ h => List.mem_cons_of_mem _ (List.mem_append_left _ (List.mem_append_left _ (List.mem_append_right _ h)))) (by decide +kernel))
set_option maxRecDepth 20000 in
theorem gL_six_X0_weigh : GoodIn wsL_six (wsV RL 27 RX0 yX0_weigh wsX0_weigh) := goodIn_app (goodIn_of _ (by decide +kernel)) ggL_six_X0_weigh
set_option maxRecDepth 20000 in
theorem ggL_six_X0_make : GoodIn wsL_six wsX0_make := goodIn_ca (goodIn_ca (goodIn_r _ [61, 31, 32, 3, 33, 34, 35, 36, 37, 38, 62, 63, 64, 65, 11, 66, 67, 68, 69, 70, 71, 72, 73, 74, 10, 75, 76, 77, 78, 79, 80, 81, 82, 14, 83, 84, 85, 52, 53, 54, 86, 87, 88, 89, 90, 91, 92, 93, 94, 95, 96, 97, 98, 99, 100, 15, 101, 102, 103, 104, 105, 106, 107, 108, 109, 110, 111, 112, 113, 114, 115, 116, 16, 117, 118, 119, 120, 17, 121, 122, 123, 124, 18, 125, 126, 127, 128, 19, 55, 56, 57, 129, 130, 131, 132, 339, 340, 341, 342, 343, 344, 345, 346, 347, 348, 349, 350] (by decide +kernel) (by decide +kernel)) (goodIn_sub (fun _ h => List.mem_cons_of_mem _ (List.mem_append_left _ (List.mem_append_left _ (List.mem_append_right _ h)))) (by decide +kernel))) (goodIn_sub (fun _ h => List.mem_cons_of_mem _ (List.mem_append_right _ h)) (by decide +kernel))
set_option maxRecDepth 20000 in
theorem gL_six_X0_make : GoodIn wsL_six (wsV RL 31 RX0 yX0_make wsX0_make) := goodIn_app (goodIn_of _ (by decide +kernel)) ggL_six_X0_make
set_option maxRecDepth 20000 in
theorem ggL_six_X0_isLawful : GoodIn wsL_six wsX0_isLawful := goodIn_ca (goodIn_r _ [136, 137, 138, 139, 3, 140, 11, 47, 48, 49, 50, 51, 141, 142, 143, 144, 71, 72, 73, 74, 10, 145, 146, 147, 148, 83, 84, 85, 149, 150, 151, 152, 153, 154, 155, 156, 157, 158, 159, 19, 52, 53, 54, 339, 340, 341, 342, 343, 344, 345, 346, 347, 348, 349, 350] (by decide +kernel) (by decide +kernel)) (goodIn_sub (fun _ h => List.mem_cons_of_mem _ (List.mem_append_left _ (List.mem_append_right _ h))) (by decide +kernel))
set_option maxRecDepth 20000 in
theorem gL_six_X0_isLawful : GoodIn wsL_six (wsV RL 46 RX0 yX0_isLawful wsX0_isLawful) := goodIn_app (goodIn_of _ (by decide +kernel)) ggL_six_X0_isLawful
set_option maxRecDepth 20000 in
theorem ggL_six_L_least : GoodIn wsL_six wsL_least := goodIn_ca (goodIn_ca (goodIn_r _ [163, 164, 165, 166, 3, 167, 137, 138, 139, 140, 11, 47, 48, 49, 50, 51, 141, 142, 143, 144, 71, 72, 73, 74, 10, 145, 146, 147, 148, 83, 84, 85, 149, 150, 151, 152, 153, 154, 155, 156, 157, 158, 159, 19, 52, 53, 54, 66, 67, 68, 69, 70, 168, 169, 170, 171, 172, 173, 174, 175, 176, 177, 178, 179, 180, 181, 182, 183, 184, 185, 186, 187, 188, 189, 190, 191, 192, 193, 194, 105, 106, 107, 108, 339, 340, 341, 342, 343, 344, 345, 346, 347, 348, 349, 350] rfl (by decide +kernel)) (goodIn_sub (fun _ h => List.mem_cons_of_mem _ (List.mem_append_left _ (List.mem_append_right _ h))) (by decide +kernel))) (goodIn_sub (fun _ h => List.mem_cons_of_mem _ (List.mem_append_right _ h)) (by decide +kernel))
set_option maxRecDepth 20000 in
theorem gL_six_L_least : GoodIn wsL_six (va_wsS RL 109 yL_least wsL_least) := goodIn_app (goodIn_of _ (by decide +kernel)) ggL_six_L_least
set_option maxRecDepth 20000 in
theorem ggL_six_L_share : GoodIn wsL_six wsL_share := goodIn_ca (goodIn_r _ [197, 198, 199, 200, 3, 201, 10, 137, 138, 139, 140, 11, 43, 44, 45, 46, 47, 48, 49, 50, 51, 71, 72, 73, 74, 83, 84, 85, 86, 87, 88, 89, 90, 91, 92, 202, 203, 204, 149, 150, 151, 152, 153, 154, 155, 156, 157, 158, 159, 19, 52, 53, 54, 205, 206, 207, 208, 209, 210, 211, 212, 339, 340, 341, 342, 343, 344, 345, 346, 347, 348, 349, 350] rfl (by decide +kernel)) (goodIn_sub (fun _ h => List.mem_cons_of_mem _ (List.mem_append_left _ (List.mem_append_right _ h))) (by decide +kernel))
set_option maxRecDepth 20000 in
theorem gL_six_L_share : GoodIn wsL_six (va_wsS RL 123 yL_share wsL_share) := goodIn_app (goodIn_of _ (by decide +kernel)) ggL_six_L_share
set_option maxRecDepth 20000 in
theorem ggL_six_X0_greedy : GoodIn wsL_six wsX0_greedy := goodIn_ca (goodIn_ca (goodIn_r _ [216, 137, 138, 139, 3, 140, 11, 47, 48, 49, 50, 51, 31, 32, 33, 34, 35, 36, 37, 38, 217, 218, 219, 220, 10, 149, 150, 151, 152, 153, 154, 155, 156, 157, 158, 159, 19, 52, 53, 54, 339, 340, 341, 342, 343, 344, 345, 346, 347, 348, 349, 350] (by decide +kernel) (by decide +kernel)) (goodIn_sub (fun _ h => List.mem_cons_of_mem _ (List.mem_append_left _ (List.mem_append_right _ h))) (by decide +kernel))) (goodIn_sub (fun _ h => List.mem_cons_of_mem _ (List.mem_append_left _ (List.mem_append_left _ (List.mem_append_right _ h)))) (by decide +kernel))
set_option maxRecDepth 20000 in
theorem gL_six_X0_greedy : GoodIn wsL_six (wsV RL 69 RX0 yX0_greedy wsX0_greedy) := goodIn_app (goodIn_of _ (by decide +kernel)) ggL_six_X0_greedy
set_option maxRecDepth 20000 in
theorem ggL_six_X0_order : GoodIn wsL_six wsX0_order := goodIn_ca (goodIn_ca (goodIn_r _ [224, 12, 10, 20, 43, 44, 45, 3, 46, 47, 48, 49, 50, 51, 225, 226, 227, 228, 52, 53, 54, 66, 67, 68, 69, 70, 55, 56, 57, 339, 340, 341, 342, 343, 344, 345, 346, 347, 348, 349, 350] (by decide +kernel) (by decide +kernel)) (goodIn_sub (fun _ h => List.mem_cons_of_mem _ (List.mem_append_left _ (List.mem_append_right _ h))) (by decide +kernel))) (goodIn_sub (fun _ h => List.mem_cons_of_mem _ (List.mem_append_right _ h)) (by decide +kernel))
set_option maxRecDepth 20000 in
theorem gL_six_X0_order : GoodIn wsL_six (wsV RL 63 RX0 yX0_order wsX0_order) := goodIn_app (goodIn_of _ (by decide +kernel)) ggL_six_X0_order
set_option maxRecDepth 20000 in
theorem ggL_six_X0_corner : GoodIn wsL_six wsX0_corner := goodIn_ca (goodIn_ca (goodIn_r _ [232, 137, 138, 139, 3, 140, 11, 43, 44, 45, 46, 10, 47, 48, 49, 50, 51, 225, 226, 227, 228, 12, 20, 52, 53, 54, 66, 67, 68, 69, 70, 233, 234, 235, 236, 153, 154, 155, 149, 150, 151, 152, 156, 157, 158, 159, 19, 339, 340, 341, 342, 343, 344, 345, 346, 347, 348, 349, 350] (by decide +kernel) (by decide +kernel)) (goodIn_sub (fun _ h => List.mem_cons_of_mem _ (List.mem_append_left _ (List.mem_append_right _ h))) (by decide +kernel))) (goodIn_sub (fun _ h => List.mem_cons_of_mem _ (List.mem_append_right _ h)) (by decide +kernel))
set_option maxRecDepth 20000 in
theorem gL_six_X0_corner : GoodIn wsL_six (wsV RL 66 RX0 yX0_corner wsX0_corner) := goodIn_app (goodIn_of _ (by decide +kernel)) ggL_six_X0_corner
set_option maxRecDepth 20000 in
theorem ggL_six_L_refuses : GoodIn wsL_six wsL_refuses := goodIn_ca (goodIn_ca (goodIn_ca (goodIn_r _ [239, 240, 241, 242, 243, 244, 245, 3, 246, 10, 247, 248, 249, 250, 22, 251, 252, 253, 254, 21, 23, 24, 25, 26, 255, 256, 257, 258, 113, 114, 115, 116, 16, 52, 53, 54, 83, 84, 85, 109, 110, 111, 112, 117, 118, 119, 120, 17, 55, 56, 57, 259, 260, 261, 262, 263, 264, 265, 266, 86, 87, 88, 89, 90, 91, 92, 267, 268, 269, 270, 271, 272, 162, 273, 274, 275, 276, 277, 27, 28, 29, 30, 11, 12, 14, 15, 18, 31, 32, 33, 34, 35, 36, 37, 38, 278, 279, 280, 281, 43, 44, 45, 46, 47, 48, 49, 50, 51, 153, 154, 155, 180, 181, 182, 282, 283, 284, 285, 97, 98, 99, 100, 286, 287, 288, 289, 290, 291, 292, 293, 294, 295, 296, 297, 298, 299, 39, 40, 41, 42, 58, 59, 60, 61, 62, 63, 64, 65, 66, 67, 68, 69, 70, 71, 72, 73, 74, 75, 76, 77, 78, 79, 80, 81, 82, 93, 94, 95, 96, 101, 102, 103, 104, 105, 106, 107, 108, 121, 122, 123, 124, 125, 126, 127, 128, 19, 129, 130, 131, 132, 300, 301, 302, 303, 137, 138, 139, 140, 156, 157, 158, 159, 304, 305, 306, 307, 308, 309, 310, 311, 312, 313, 314, 315, 316, 317, 318, 319, 133, 134, 135, 136, 141, 142, 143, 144, 145, 146, 147, 148, 149, 150, 151, 152, 320, 321, 322, 323, 164, 165, 166, 167, 168, 169, 170, 171, 172, 173, 174, 175, 176, 177, 178, 179, 183, 184, 185, 186, 187, 188, 189, 190, 191, 192, 193, 194, 221, 222, 223, 224, 20, 225, 226, 227, 228, 229, 230, 231, 232, 233, 234, 235, 236, 213, 214, 215, 216, 217, 218, 219, 220, 324, 325, 326, 327, 328, 329, 330, 198, 199, 200, 201, 202, 203, 204, 205, 206, 207, 208, 209, 210, 211, 212, 331, 332, 333, 334, 335, 336, 337, 338, 339, 340, 341, 342, 343, 344, 345, 346, 347, 348, 349, 350] rfl (by decide +kernel)) (goodIn_sub (fun _ h => List.mem_cons_of_mem _ (List.mem_append_left _ (List.mem_append_left _ (List.mem_append_right _ h)))) (by decide +kernel))) (goodIn_sub (fun _ h => List.mem_cons_of_mem _ (List.mem_append_left _ (List.mem_append_right _ h))) (by decide +kernel))) (goodIn_sub (fun _ h => List.mem_cons_of_mem _ (List.mem_append_right _ h)) (by decide +kernel))
set_option maxRecDepth 20000 in
theorem gL_six_L_refuses : GoodIn wsL_six (va_wsS RL 105 yL_refuses wsL_refuses) := goodIn_app (goodIn_of _ (by decide +kernel)) ggL_six_L_refuses
set_option maxRecDepth 20000 in
theorem ggL_six_X0_cover : GoodIn wsL_six wsX0_cover := goodIn_ca (goodIn_r _ [281, 14, 43, 44, 45, 3, 46, 10, 31, 32, 33, 47, 48, 49, 50, 51, 52, 53, 54, 153, 154, 155, 180, 181, 182, 55, 56, 57, 83, 84, 85, 339, 340, 341, 342, 343, 344, 345, 346, 347, 348, 349, 350] (by decide +kernel) (by decide +kernel)) (goodIn_sub (fun _ h => List.mem_cons_of_mem _ (List.mem_append_left _ (List.mem_append_right _ h))) (by decide +kernel))
set_option maxRecDepth 20000 in
theorem gL_six_X0_cover : GoodIn wsL_six (wsV RL 13 RX0 yX0_cover wsX0_cover) := goodIn_app (goodIn_of _ (by decide +kernel)) ggL_six_X0_cover
set_option maxRecDepth 20000 in
theorem ggL_six_X0_edge : GoodIn wsL_six wsX0_edge := goodIn_ca (goodIn_ca (goodIn_r _ [285, 15, 43, 44, 45, 3, 46, 10, 47, 48, 49, 50, 51, 31, 32, 33, 34, 35, 36, 37, 38, 97, 98, 99, 100, 52, 53, 54, 55, 56, 57, 339, 340, 341, 342, 343, 344, 345, 346, 347, 348, 349, 350] (by decide +kernel) (by decide +kernel)) (goodIn_sub (fun _ h => List.mem_cons_of_mem _ (List.mem_append_left _ (List.mem_append_right _ h))) (by decide +kernel))) (goodIn_sub (fun _ h => List.mem_cons_of_mem _ (List.mem_append_left _ (List.mem_append_left _ (List.mem_append_right _ h)))) (by decide +kernel))
set_option maxRecDepth 20000 in
theorem gL_six_X0_edge : GoodIn wsL_six (wsV RL 17 RX0 yX0_edge wsX0_edge) := goodIn_app (goodIn_of _ (by decide +kernel)) ggL_six_X0_edge
set_option maxRecDepth 20000 in
theorem ggL_six_X0_value : GoodIn wsL_six wsX0_value := goodIn_ca (goodIn_ca (goodIn_r _ [319, 137, 138, 139, 3, 140, 11, 47, 48, 49, 50, 51, 308, 309, 310, 311, 71, 72, 73, 74, 10, 34, 35, 36, 37, 38, 156, 157, 158, 159, 19, 52, 53, 54, 339, 340, 341, 342, 343, 344, 345, 346, 347, 348, 349, 350] (by decide +kernel) (by decide +kernel)) (goodIn_sub (fun _ h => List.mem_cons_of_mem _ (List.mem_append_left _ (List.mem_append_right _ h))) (by decide +kernel))) (goodIn_sub (fun _ h => List.mem_cons_of_mem _ (List.mem_append_left _ (List.mem_append_left _ (List.mem_append_right _ h)))) (by decide +kernel))
set_option maxRecDepth 20000 in
theorem gL_six_X0_value : GoodIn wsL_six (wsV RL 43 RX0 yX0_value wsX0_value) := goodIn_app (goodIn_of _ (by decide +kernel)) ggL_six_X0_value
set_option maxRecDepth 20000 in
theorem ggL_six_X0_best : GoodIn wsL_six wsX0_best := goodIn_ca (goodIn_ca (goodIn_r _ [327, 328, 329, 107, 330, 137, 138, 139, 3, 140, 11, 47, 48, 49, 50, 51, 31, 32, 33, 34, 35, 36, 37, 38, 71, 72, 73, 74, 10, 86, 87, 88, 89, 90, 91, 92, 156, 157, 158, 159, 19, 52, 53, 54, 339, 340, 341, 342, 343, 344, 345, 346, 347, 348, 349, 350] (by decide +kernel) (by decide +kernel)) (goodIn_sub (fun _ h => List.mem_cons_of_mem _ (List.mem_append_left _ (List.mem_append_right _ h))) (by decide +kernel))) (goodIn_sub (fun _ h => List.mem_cons_of_mem _ (List.mem_append_left _ (List.mem_append_left _ (List.mem_append_right _ h)))) (by decide +kernel))
set_option maxRecDepth 20000 in
theorem gL_six_X0_best : GoodIn wsL_six (wsV RL 72 RX0 yX0_best wsX0_best) := goodIn_app (goodIn_of _ (by decide +kernel)) ggL_six_X0_best
set_option maxRecDepth 20000 in
theorem ggL_six_X0_sum : GoodIn wsL_six wsX0_sum := goodIn_ca (goodIn_ca (goodIn_r _ [303, 137, 138, 139, 3, 140, 11, 47, 48, 49, 50, 51, 62, 63, 64, 65, 66, 67, 68, 69, 70, 71, 72, 73, 74, 10, 156, 157, 158, 159, 19, 52, 53, 54, 125, 126, 127, 128, 55, 56, 57, 129, 130, 131, 132, 339, 340, 341, 342, 343, 344, 345, 346, 347, 348, 349, 350] (by decide +kernel) (by decide +kernel)) (goodIn_sub (fun _ h => List.mem_cons_of_mem _ (List.mem_append_left _ (List.mem_append_right _ h))) (by decide +kernel))) (goodIn_sub (fun _ h => List.mem_cons_of_mem _ (List.mem_append_right _ h)) (by decide +kernel))
set_option maxRecDepth 20000 in
theorem gL_six_X0_sum : GoodIn wsL_six (wsV RL 34 RX0 yX0_sum wsX0_sum) := goodIn_app (goodIn_of _ (by decide +kernel)) ggL_six_X0_sum
set_option maxRecDepth 20000 in
theorem ggL_six_X0_contract : GoodIn wsL_six wsX0_contract := goodIn_ca (goodIn_ca (goodIn_ca (goodIn_r _ [307, 137, 138, 139, 3, 140, 11, 47, 48, 49, 50, 51, 308, 309, 310, 311, 71, 72, 73, 74, 10, 34, 35, 36, 37, 38, 62, 63, 64, 65, 66, 67, 68, 69, 70, 156, 157, 158, 159, 19, 52, 53, 54, 125, 126, 127, 128, 55, 56, 57, 129, 130, 131, 132, 339, 340, 341, 342, 343, 344, 345, 346, 347, 348, 349, 350] (by decide +kernel) (by decide +kernel)) (goodIn_sub (fun _ h => List.mem_cons_of_mem _ (List.mem_append_left _ (List.mem_append_right _ h))) (by decide +kernel))) (goodIn_sub (fun _ h => List.mem_cons_of_mem _ (List.mem_append_left _ (List.mem_append_left _ (List.mem_append_right _ h)))) (by decide +kernel))) (goodIn_sub (fun _ h => List.mem_cons_of_mem _ (List.mem_append_right _ h)) (by decide +kernel))
set_option maxRecDepth 20000 in
theorem gL_six_X0_contract : GoodIn wsL_six (wsV RL 37 RX0 yX0_contract wsX0_contract) := goodIn_app (goodIn_of _ (by decide +kernel)) ggL_six_X0_contract
set_option maxRecDepth 20000 in
theorem ggL_six_X0_common : GoodIn wsL_six wsX0_common := goodIn_r _ [246, 10, 247, 248, 249, 3, 250, 22, 251, 252, 253, 254, 21, 23, 24, 25, 26, 255, 256, 257, 258, 113, 114, 115, 116, 16, 52, 53, 54, 83, 84, 85, 109, 110, 111, 112, 117, 118, 119, 120, 17, 55, 56, 57, 259, 260, 261, 262, 263, 264, 265, 266, 86, 87, 88, 89, 90, 91, 92, 267, 268, 269, 270, 339, 340, 341, 342, 343, 344, 345, 346, 347, 348, 349, 350] (by decide +kernel) (by decide +kernel)
set_option maxRecDepth 20000 in
theorem gL_six_X0_common : GoodIn wsL_six (wsV RL 91 RX0 yX0_common wsX0_common) := goodIn_app (goodIn_of _ (by decide +kernel)) ggL_six_X0_common
set_option maxRecDepth 20000 in
theorem ggL_six_X0_room : GoodIn wsL_six wsX0_room := goodIn_ca (goodIn_ca (goodIn_r _ [299, 17, 290, 291, 3, 292, 293, 294, 295, 47, 48, 49, 50, 51, 31, 32, 33, 34, 35, 36, 37, 38, 117, 118, 119, 120, 52, 53, 54, 55, 56, 57, 339, 340, 341, 342, 343, 344, 345, 346, 347, 348, 349, 350] (by decide +kernel) (by decide +kernel)) (goodIn_sub (fun _ h => List.mem_cons_of_mem _ (List.mem_append_left _ (List.mem_append_right _ h))) (by decide +kernel))) (goodIn_sub (fun _ h => List.mem_cons_of_mem _ (List.mem_append_left _ (List.mem_append_left _ (List.mem_append_right _ h)))) (by decide +kernel))
set_option maxRecDepth 20000 in
theorem gL_six_X0_room : GoodIn wsL_six (wsV RL 24 RX0 yX0_room wsX0_room) := goodIn_app (goodIn_of _ (by decide +kernel)) ggL_six_X0_room
theorem dL_six_0 : decode cL_six 0 = .ok (.new 8, 3) := by decide +kernel
theorem dL_six_3 : decode cL_six 3 = .ok (.dup, 1) := by decide +kernel
theorem dL_six_4 : decode cL_six 4 = .ok (.invokespecial 104, 3) := by decide +kernel
theorem dL_six_7 : decode cL_six 7 = .ok (.astore_n 0, 1) := by decide +kernel
theorem dL_six_8 : decode cL_six 8 = .ok (.aload_n 0, 1) := by decide +kernel
theorem dL_six_9 : decode cL_six 9 = .ok (.iconst 1, 1) := by decide +kernel
theorem dL_six_10 : decode cL_six 10 = .ok (.invokevirtual 7, 3) := by decide +kernel
theorem dL_six_13 : decode cL_six 13 = .ok (.iconst 4, 1) := by decide +kernel
theorem dL_six_14 : decode cL_six 14 = .ok (.if_icmp .ne 111, 3) := by decide +kernel
theorem dL_six_17 : decode cL_six 17 = .ok (.aload_n 0, 1) := by decide +kernel
theorem dL_six_18 : decode cL_six 18 = .ok (.iconst 0, 1) := by decide +kernel
theorem dL_six_19 : decode cL_six 19 = .ok (.bipush (-20), 2) := by decide +kernel
theorem dL_six_21 : decode cL_six 21 = .ok (.invokevirtual 27, 3) := by decide +kernel
theorem dL_six_24 : decode cL_six 24 = .ok (.ifCond .ne 101, 3) := by decide +kernel
theorem dL_six_27 : decode cL_six 27 = .ok (.aload_n 0, 1) := by decide +kernel
theorem dL_six_28 : decode cL_six 28 = .ok (.iconst 4, 1) := by decide +kernel
theorem dL_six_29 : decode cL_six 29 = .ok (.invokevirtual 31, 3) := by decide +kernel
theorem dL_six_32 : decode cL_six 32 = .ok (.ifCond .ne 93, 3) := by decide +kernel
theorem dL_six_35 : decode cL_six 35 = .ok (.aload_n 0, 1) := by decide +kernel
theorem dL_six_36 : decode cL_six 36 = .ok (.iconst 0, 1) := by decide +kernel
theorem dL_six_37 : decode cL_six 37 = .ok (.invokevirtual 46, 3) := by decide +kernel
theorem dL_six_40 : decode cL_six 40 = .ok (.ifCond .eq 85, 3) := by decide +kernel
theorem dL_six_43 : decode cL_six 43 = .ok (.aload_n 0, 1) := by decide +kernel
theorem dL_six_44 : decode cL_six 44 = .ok (.iconst 0, 1) := by decide +kernel
theorem dL_six_45 : decode cL_six 45 = .ok (.bipush (-20), 2) := by decide +kernel
theorem dL_six_47 : decode cL_six 47 = .ok (.iconst 1, 1) := by decide +kernel
theorem dL_six_48 : decode cL_six 48 = .ok (.iconst 1, 1) := by decide +kernel
theorem dL_six_49 : decode cL_six 49 = .ok (.invokestatic 109, 3) := by decide +kernel
theorem dL_six_52 : decode cL_six 52 = .ok (.ifCond .eq 73, 3) := by decide +kernel
theorem dL_six_55 : decode cL_six 55 = .ok (.aload_n 0, 1) := by decide +kernel
theorem dL_six_56 : decode cL_six 56 = .ok (.iconst 0, 1) := by decide +kernel
theorem dL_six_57 : decode cL_six 57 = .ok (.iconst 0, 1) := by decide +kernel
theorem dL_six_58 : decode cL_six 58 = .ok (.bipush (-20), 2) := by decide +kernel
theorem dL_six_60 : decode cL_six 60 = .ok (.invokestatic 123, 3) := by decide +kernel
theorem dL_six_63 : decode cL_six 63 = .ok (.ifCond .eq 62, 3) := by decide +kernel
theorem dL_six_66 : decode cL_six 66 = .ok (.aload_n 0, 1) := by decide +kernel
theorem dL_six_67 : decode cL_six 67 = .ok (.iconst 0, 1) := by decide +kernel
theorem dL_six_68 : decode cL_six 68 = .ok (.bipush 6, 2) := by decide +kernel
theorem dL_six_70 : decode cL_six 70 = .ok (.invokevirtual 69, 3) := by decide +kernel
theorem dL_six_73 : decode cL_six 73 = .ok (.ifCond .ne 52, 3) := by decide +kernel
theorem dL_six_76 : decode cL_six 76 = .ok (.aload_n 0, 1) := by decide +kernel
theorem dL_six_77 : decode cL_six 77 = .ok (.iconst 0, 1) := by decide +kernel
theorem dL_six_78 : decode cL_six 78 = .ok (.invokevirtual 63, 3) := by decide +kernel
theorem dL_six_81 : decode cL_six 81 = .ok (.iconst 1, 1) := by decide +kernel
theorem dL_six_82 : decode cL_six 82 = .ok (.if_icmp .ne 43, 3) := by decide +kernel
theorem dL_six_85 : decode cL_six 85 = .ok (.aload_n 0, 1) := by decide +kernel
theorem dL_six_86 : decode cL_six 86 = .ok (.iconst 0, 1) := by decide +kernel
theorem dL_six_87 : decode cL_six 87 = .ok (.iconst 0, 1) := by decide +kernel
theorem dL_six_88 : decode cL_six 88 = .ok (.invokevirtual 66, 3) := by decide +kernel
theorem dL_six_91 : decode cL_six 91 = .ok (.bipush (-20), 2) := by decide +kernel
theorem dL_six_93 : decode cL_six 93 = .ok (.if_icmp .ne 32, 3) := by decide +kernel
theorem dL_six_96 : decode cL_six 96 = .ok (.aload_n 0, 1) := by decide +kernel
theorem dL_six_97 : decode cL_six 97 = .ok (.iconst 0, 1) := by decide +kernel
theorem dL_six_98 : decode cL_six 98 = .ok (.invokevirtual 63, 3) := by decide +kernel
theorem dL_six_101 : decode cL_six 101 = .ok (.iconst 1, 1) := by decide +kernel
theorem dL_six_102 : decode cL_six 102 = .ok (.if_icmp .ne 23, 3) := by decide +kernel
theorem dL_six_105 : decode cL_six 105 = .ok (.aload_n 0, 1) := by decide +kernel
theorem dL_six_106 : decode cL_six 106 = .ok (.bipush 6, 2) := by decide +kernel
theorem dL_six_108 : decode cL_six 108 = .ok (.invokevirtual 7, 3) := by decide +kernel
theorem dL_six_111 : decode cL_six 111 = .ok (.iconst 1, 1) := by decide +kernel
theorem dL_six_112 : decode cL_six 112 = .ok (.if_icmp .ne 13, 3) := by decide +kernel
theorem dL_six_115 : decode cL_six 115 = .ok (.aload_n 0, 1) := by decide +kernel
theorem dL_six_116 : decode cL_six 116 = .ok (.bipush 6, 2) := by decide +kernel
theorem dL_six_118 : decode cL_six 118 = .ok (.iconst 0, 1) := by decide +kernel
theorem dL_six_119 : decode cL_six 119 = .ok (.invokestatic 105, 3) := by decide +kernel
theorem dL_six_122 : decode cL_six 122 = .ok (.ifCond .ne 5, 3) := by decide +kernel
theorem dL_six_125 : decode cL_six 125 = .ok (.iconst 0, 1) := by decide +kernel
theorem dL_six_126 : decode cL_six 126 = .ok (.ireturn, 1) := by decide +kernel
theorem dL_six_127 : decode cL_six 127 = .ok (.iconst 0, 1) := by decide +kernel
theorem dL_six_128 : decode cL_six 128 = .ok (.istore_n 1, 1) := by decide +kernel
theorem dL_six_129 : decode cL_six 129 = .ok (.iload_n 1, 1) := by decide +kernel
theorem dL_six_130 : decode cL_six 130 = .ok (.bipush 6, 2) := by decide +kernel
theorem dL_six_132 : decode cL_six 132 = .ok (.if_icmp .ge 68, 3) := by decide +kernel
theorem dL_six_135 : decode cL_six 135 = .ok (.aload_n 0, 1) := by decide +kernel
theorem dL_six_136 : decode cL_six 136 = .ok (.iload_n 1, 1) := by decide +kernel
theorem dL_six_137 : decode cL_six 137 = .ok (.bipush 20, 2) := by decide +kernel
theorem dL_six_139 : decode cL_six 139 = .ok (.invokevirtual 27, 3) := by decide +kernel
theorem dL_six_142 : decode cL_six 142 = .ok (.ifCond .ne 24, 3) := by decide +kernel
theorem dL_six_145 : decode cL_six 145 = .ok (.aload_n 0, 1) := by decide +kernel
theorem dL_six_146 : decode cL_six 146 = .ok (.iload_n 1, 1) := by decide +kernel
theorem dL_six_147 : decode cL_six 147 = .ok (.iload_n 1, 1) := by decide +kernel
theorem dL_six_148 : decode cL_six 148 = .ok (.iconst 1, 1) := by decide +kernel
theorem dL_six_149 : decode cL_six 149 = .ok (.invokevirtual 13, 3) := by decide +kernel
theorem dL_six_152 : decode cL_six 152 = .ok (.ifCond .ne 14, 3) := by decide +kernel
theorem dL_six_155 : decode cL_six 155 = .ok (.aload_n 0, 1) := by decide +kernel
theorem dL_six_156 : decode cL_six 156 = .ok (.iload_n 1, 1) := by decide +kernel
theorem dL_six_157 : decode cL_six 157 = .ok (.bipush 9, 2) := by decide +kernel
theorem dL_six_159 : decode cL_six 159 = .ok (.iconst 1, 1) := by decide +kernel
theorem dL_six_160 : decode cL_six 160 = .ok (.invokevirtual 13, 3) := by decide +kernel
theorem dL_six_163 : decode cL_six 163 = .ok (.ifCond .eq 5, 3) := by decide +kernel
theorem dL_six_166 : decode cL_six 166 = .ok (.iconst 0, 1) := by decide +kernel
theorem dL_six_167 : decode cL_six 167 = .ok (.ireturn, 1) := by decide +kernel
theorem dL_six_168 : decode cL_six 168 = .ok (.iconst 0, 1) := by decide +kernel
theorem dL_six_169 : decode cL_six 169 = .ok (.istore_n 2, 1) := by decide +kernel
theorem dL_six_170 : decode cL_six 170 = .ok (.iload_n 2, 1) := by decide +kernel
theorem dL_six_171 : decode cL_six 171 = .ok (.iload_n 1, 1) := by decide +kernel
theorem dL_six_172 : decode cL_six 172 = .ok (.if_icmp .ge 22, 3) := by decide +kernel
theorem dL_six_175 : decode cL_six 175 = .ok (.aload_n 0, 1) := by decide +kernel
theorem dL_six_176 : decode cL_six 176 = .ok (.iload_n 1, 1) := by decide +kernel
theorem dL_six_177 : decode cL_six 177 = .ok (.iload_n 2, 1) := by decide +kernel
theorem dL_six_178 : decode cL_six 178 = .ok (.bipush 20, 2) := by decide +kernel
theorem dL_six_180 : decode cL_six 180 = .ok (.invokevirtual 17, 3) := by decide +kernel
theorem dL_six_183 : decode cL_six 183 = .ok (.ifCond .eq 5, 3) := by decide +kernel
theorem dL_six_186 : decode cL_six 186 = .ok (.iconst 0, 1) := by decide +kernel
theorem dL_six_187 : decode cL_six 187 = .ok (.ireturn, 1) := by decide +kernel
theorem dL_six_188 : decode cL_six 188 = .ok (.iinc 2 1, 3) := by decide +kernel
theorem dL_six_191 : decode cL_six 191 = .ok (.goto (-21), 3) := by decide +kernel
theorem dL_six_194 : decode cL_six 194 = .ok (.iinc 1 1, 3) := by decide +kernel
theorem dL_six_197 : decode cL_six 197 = .ok (.goto (-68), 3) := by decide +kernel
theorem dL_six_200 : decode cL_six 200 = .ok (.aload_n 0, 1) := by decide +kernel
theorem dL_six_201 : decode cL_six 201 = .ok (.iconst 1, 1) := by decide +kernel
theorem dL_six_202 : decode cL_six 202 = .ok (.invokevirtual 31, 3) := by decide +kernel
theorem dL_six_205 : decode cL_six 205 = .ok (.ifCond .ne 224, 3) := by decide +kernel
theorem dL_six_208 : decode cL_six 208 = .ok (.aload_n 0, 1) := by decide +kernel
theorem dL_six_209 : decode cL_six 209 = .ok (.iconst 0, 1) := by decide +kernel
theorem dL_six_210 : decode cL_six 210 = .ok (.bipush 7, 2) := by decide +kernel
theorem dL_six_212 : decode cL_six 212 = .ok (.invokevirtual 43, 3) := by decide +kernel
theorem dL_six_215 : decode cL_six 215 = .ok (.sipush 180, 3) := by decide +kernel
theorem dL_six_218 : decode cL_six 218 = .ok (.if_icmp .ne 211, 3) := by decide +kernel
theorem dL_six_221 : decode cL_six 221 = .ok (.aload_n 0, 1) := by decide +kernel
theorem dL_six_222 : decode cL_six 222 = .ok (.iconst 0, 1) := by decide +kernel
theorem dL_six_223 : decode cL_six 223 = .ok (.iconst 1, 1) := by decide +kernel
theorem dL_six_224 : decode cL_six 224 = .ok (.invokevirtual 43, 3) := by decide +kernel
theorem dL_six_227 : decode cL_six 227 = .ok (.bipush 100, 2) := by decide +kernel
theorem dL_six_229 : decode cL_six 229 = .ok (.if_icmp .ne 200, 3) := by decide +kernel
theorem dL_six_232 : decode cL_six 232 = .ok (.aload_n 0, 1) := by decide +kernel
theorem dL_six_233 : decode cL_six 233 = .ok (.iconst 0, 1) := by decide +kernel
theorem dL_six_234 : decode cL_six 234 = .ok (.bipush 6, 2) := by decide +kernel
theorem dL_six_236 : decode cL_six 236 = .ok (.invokevirtual 72, 3) := by decide +kernel
theorem dL_six_239 : decode cL_six 239 = .ok (.sipush 180, 3) := by decide +kernel
theorem dL_six_242 : decode cL_six 242 = .ok (.if_icmp .ne 187, 3) := by decide +kernel
theorem dL_six_245 : decode cL_six 245 = .ok (.aload_n 0, 1) := by decide +kernel
theorem dL_six_246 : decode cL_six 246 = .ok (.iconst 0, 1) := by decide +kernel
theorem dL_six_247 : decode cL_six 247 = .ok (.bipush 6, 2) := by decide +kernel
theorem dL_six_249 : decode cL_six 249 = .ok (.invokevirtual 69, 3) := by decide +kernel
theorem dL_six_252 : decode cL_six 252 = .ok (.bipush 7, 2) := by decide +kernel
theorem dL_six_254 : decode cL_six 254 = .ok (.if_icmp .ne 175, 3) := by decide +kernel
theorem dL_six_257 : decode cL_six 257 = .ok (.aload_n 0, 1) := by decide +kernel
theorem dL_six_258 : decode cL_six 258 = .ok (.iconst 0, 1) := by decide +kernel
theorem dL_six_259 : decode cL_six 259 = .ok (.iconst 2, 1) := by decide +kernel
theorem dL_six_260 : decode cL_six 260 = .ok (.invokevirtual 69, 3) := by decide +kernel
theorem dL_six_263 : decode cL_six 263 = .ok (.iconst 3, 1) := by decide +kernel
theorem dL_six_264 : decode cL_six 264 = .ok (.if_icmp .ne 165, 3) := by decide +kernel
theorem dL_six_267 : decode cL_six 267 = .ok (.aload_n 0, 1) := by decide +kernel
theorem dL_six_268 : decode cL_six 268 = .ok (.iconst 0, 1) := by decide +kernel
theorem dL_six_269 : decode cL_six 269 = .ok (.iconst 0, 1) := by decide +kernel
theorem dL_six_270 : decode cL_six 270 = .ok (.iconst 0, 1) := by decide +kernel
theorem dL_six_271 : decode cL_six 271 = .ok (.bipush 63, 2) := by decide +kernel
theorem dL_six_273 : decode cL_six 273 = .ok (.invokestatic 109, 3) := by decide +kernel
theorem dL_six_276 : decode cL_six 276 = .ok (.ifCond .eq 153, 3) := by decide +kernel
theorem dL_six_279 : decode cL_six 279 = .ok (.aload_n 0, 1) := by decide +kernel
theorem dL_six_280 : decode cL_six 280 = .ok (.iconst 0, 1) := by decide +kernel
theorem dL_six_281 : decode cL_six 281 = .ok (.invokevirtual 31, 3) := by decide +kernel
theorem dL_six_284 : decode cL_six 284 = .ok (.iconst 1, 1) := by decide +kernel
theorem dL_six_285 : decode cL_six 285 = .ok (.if_icmp .ne 144, 3) := by decide +kernel
theorem dL_six_288 : decode cL_six 288 = .ok (.aload_n 0, 1) := by decide +kernel
theorem dL_six_289 : decode cL_six 289 = .ok (.iconst 1, 1) := by decide +kernel
theorem dL_six_290 : decode cL_six 290 = .ok (.bipush 63, 2) := by decide +kernel
theorem dL_six_292 : decode cL_six 292 = .ok (.invokevirtual 43, 3) := by decide +kernel
theorem dL_six_295 : decode cL_six 295 = .ok (.bipush 7, 2) := by decide +kernel
theorem dL_six_297 : decode cL_six 297 = .ok (.if_icmp .ne 132, 3) := by decide +kernel
theorem dL_six_300 : decode cL_six 300 = .ok (.aload_n 0, 1) := by decide +kernel
theorem dL_six_301 : decode cL_six 301 = .ok (.iconst 1, 1) := by decide +kernel
theorem dL_six_302 : decode cL_six 302 = .ok (.iconst 5, 1) := by decide +kernel
theorem dL_six_303 : decode cL_six 303 = .ok (.sipush 840, 3) := by decide +kernel
theorem dL_six_306 : decode cL_six 306 = .ok (.invokestatic 123, 3) := by decide +kernel
theorem dL_six_309 : decode cL_six 309 = .ok (.ifCond .eq 120, 3) := by decide +kernel
theorem dL_six_312 : decode cL_six 312 = .ok (.aload_n 0, 1) := by decide +kernel
theorem dL_six_313 : decode cL_six 313 = .ok (.iconst 0, 1) := by decide +kernel
theorem dL_six_314 : decode cL_six 314 = .ok (.iconst 3, 1) := by decide +kernel
theorem dL_six_315 : decode cL_six 315 = .ok (.iconst 0, 1) := by decide +kernel
theorem dL_six_316 : decode cL_six 316 = .ok (.invokestatic 123, 3) := by decide +kernel
theorem dL_six_319 : decode cL_six 319 = .ok (.ifCond .eq 110, 3) := by decide +kernel
theorem dL_six_322 : decode cL_six 322 = .ok (.aload_n 0, 1) := by decide +kernel
theorem dL_six_323 : decode cL_six 323 = .ok (.iconst 0, 1) := by decide +kernel
theorem dL_six_324 : decode cL_six 324 = .ok (.iconst 0, 1) := by decide +kernel
theorem dL_six_325 : decode cL_six 325 = .ok (.invokevirtual 34, 3) := by decide +kernel
theorem dL_six_328 : decode cL_six 328 = .ok (.iconst 2, 1) := by decide +kernel
theorem dL_six_329 : decode cL_six 329 = .ok (.if_icmp .ne 100, 3) := by decide +kernel
theorem dL_six_332 : decode cL_six 332 = .ok (.aload_n 0, 1) := by decide +kernel
theorem dL_six_333 : decode cL_six 333 = .ok (.iconst 2, 1) := by decide +kernel
theorem dL_six_334 : decode cL_six 334 = .ok (.iconst 2, 1) := by decide +kernel
theorem dL_six_335 : decode cL_six 335 = .ok (.invokevirtual 34, 3) := by decide +kernel
theorem dL_six_338 : decode cL_six 338 = .ok (.iconst 3, 1) := by decide +kernel
theorem dL_six_339 : decode cL_six 339 = .ok (.if_icmp .ne 90, 3) := by decide +kernel
theorem dL_six_342 : decode cL_six 342 = .ok (.aload_n 0, 1) := by decide +kernel
theorem dL_six_343 : decode cL_six 343 = .ok (.iconst 3, 1) := by decide +kernel
theorem dL_six_344 : decode cL_six 344 = .ok (.iconst 3, 1) := by decide +kernel
theorem dL_six_345 : decode cL_six 345 = .ok (.invokevirtual 34, 3) := by decide +kernel
theorem dL_six_348 : decode cL_six 348 = .ok (.iconst 4, 1) := by decide +kernel
theorem dL_six_349 : decode cL_six 349 = .ok (.if_icmp .ne 80, 3) := by decide +kernel
theorem dL_six_352 : decode cL_six 352 = .ok (.aload_n 0, 1) := by decide +kernel
theorem dL_six_353 : decode cL_six 353 = .ok (.iconst 4, 1) := by decide +kernel
theorem dL_six_354 : decode cL_six 354 = .ok (.iconst 4, 1) := by decide +kernel
theorem dL_six_355 : decode cL_six 355 = .ok (.invokevirtual 34, 3) := by decide +kernel
theorem dL_six_358 : decode cL_six 358 = .ok (.iconst 5, 1) := by decide +kernel
theorem dL_six_359 : decode cL_six 359 = .ok (.if_icmp .ne 70, 3) := by decide +kernel
theorem dL_six_362 : decode cL_six 362 = .ok (.aload_n 0, 1) := by decide +kernel
theorem dL_six_363 : decode cL_six 363 = .ok (.iconst 5, 1) := by decide +kernel
theorem dL_six_364 : decode cL_six 364 = .ok (.iconst 5, 1) := by decide +kernel
theorem dL_six_365 : decode cL_six 365 = .ok (.invokevirtual 34, 3) := by decide +kernel
theorem dL_six_368 : decode cL_six 368 = .ok (.bipush 6, 2) := by decide +kernel
theorem dL_six_370 : decode cL_six 370 = .ok (.if_icmp .ne 59, 3) := by decide +kernel
theorem dL_six_373 : decode cL_six 373 = .ok (.aload_n 0, 1) := by decide +kernel
theorem dL_six_374 : decode cL_six 374 = .ok (.bipush 6, 2) := by decide +kernel
theorem dL_six_376 : decode cL_six 376 = .ok (.bipush 7, 2) := by decide +kernel
theorem dL_six_378 : decode cL_six 378 = .ok (.invokevirtual 43, 3) := by decide +kernel
theorem dL_six_381 : decode cL_six 381 = .ok (.sipush 5760, 3) := by decide +kernel
theorem dL_six_384 : decode cL_six 384 = .ok (.if_icmp .ne 45, 3) := by decide +kernel
theorem dL_six_387 : decode cL_six 387 = .ok (.aload_n 0, 1) := by decide +kernel
theorem dL_six_388 : decode cL_six 388 = .ok (.bipush 6, 2) := by decide +kernel
theorem dL_six_390 : decode cL_six 390 = .ok (.iconst 1, 1) := by decide +kernel
theorem dL_six_391 : decode cL_six 391 = .ok (.invokevirtual 37, 3) := by decide +kernel
theorem dL_six_394 : decode cL_six 394 = .ok (.bipush 7, 2) := by decide +kernel
theorem dL_six_396 : decode cL_six 396 = .ok (.if_icmp .ne 33, 3) := by decide +kernel
theorem dL_six_399 : decode cL_six 399 = .ok (.aload_n 0, 1) := by decide +kernel
theorem dL_six_400 : decode cL_six 400 = .ok (.bipush 7, 2) := by decide +kernel
theorem dL_six_402 : decode cL_six 402 = .ok (.bipush 62, 2) := by decide +kernel
theorem dL_six_404 : decode cL_six 404 = .ok (.invokevirtual 43, 3) := by decide +kernel
theorem dL_six_407 : decode cL_six 407 = .ok (.sipush (-3200), 3) := by decide +kernel
theorem dL_six_410 : decode cL_six 410 = .ok (.if_icmp .ne 19, 3) := by decide +kernel
theorem dL_six_413 : decode cL_six 413 = .ok (.aload_n 0, 1) := by decide +kernel
theorem dL_six_414 : decode cL_six 414 = .ok (.bipush 7, 2) := by decide +kernel
theorem dL_six_416 : decode cL_six 416 = .ok (.sipush (-3200), 3) := by decide +kernel
theorem dL_six_419 : decode cL_six 419 = .ok (.bipush 62, 2) := by decide +kernel
theorem dL_six_421 : decode cL_six 421 = .ok (.bipush 63, 2) := by decide +kernel
theorem dL_six_423 : decode cL_six 423 = .ok (.invokestatic 109, 3) := by decide +kernel
theorem dL_six_426 : decode cL_six 426 = .ok (.ifCond .ne 5, 3) := by decide +kernel
theorem dL_six_429 : decode cL_six 429 = .ok (.iconst 0, 1) := by decide +kernel
theorem dL_six_430 : decode cL_six 430 = .ok (.ireturn, 1) := by decide +kernel
theorem dL_six_431 : decode cL_six 431 = .ok (.aload_n 0, 1) := by decide +kernel
theorem dL_six_432 : decode cL_six 432 = .ok (.invokevirtual 91, 3) := by decide +kernel
theorem dL_six_435 : decode cL_six 435 = .ok (.iconst 1, 1) := by decide +kernel
theorem dL_six_436 : decode cL_six 436 = .ok (.if_icmp .ne 68, 3) := by decide +kernel
theorem dL_six_439 : decode cL_six 439 = .ok (.aload_n 0, 1) := by decide +kernel
theorem dL_six_440 : decode cL_six 440 = .ok (.iconst 0, 1) := by decide +kernel
theorem dL_six_441 : decode cL_six 441 = .ok (.iconst 0, 1) := by decide +kernel
theorem dL_six_442 : decode cL_six 442 = .ok (.bipush 6, 2) := by decide +kernel
theorem dL_six_444 : decode cL_six 444 = .ok (.invokevirtual 24, 3) := by decide +kernel
theorem dL_six_447 : decode cL_six 447 = .ok (.iconst 1, 1) := by decide +kernel
theorem dL_six_448 : decode cL_six 448 = .ok (.if_icmp .ne 56, 3) := by decide +kernel
theorem dL_six_451 : decode cL_six 451 = .ok (.aload_n 0, 1) := by decide +kernel
theorem dL_six_452 : decode cL_six 452 = .ok (.iconst 1, 1) := by decide +kernel
theorem dL_six_453 : decode cL_six 453 = .ok (.iconst 0, 1) := by decide +kernel
theorem dL_six_454 : decode cL_six 454 = .ok (.iconst 4, 1) := by decide +kernel
theorem dL_six_455 : decode cL_six 455 = .ok (.invokevirtual 24, 3) := by decide +kernel
theorem dL_six_458 : decode cL_six 458 = .ok (.iconst 1, 1) := by decide +kernel
theorem dL_six_459 : decode cL_six 459 = .ok (.if_icmp .ne 45, 3) := by decide +kernel
theorem dL_six_462 : decode cL_six 462 = .ok (.aload_n 0, 1) := by decide +kernel
theorem dL_six_463 : decode cL_six 463 = .ok (.invokevirtual 91, 3) := by decide +kernel
theorem dL_six_466 : decode cL_six 466 = .ok (.iconst 4, 1) := by decide +kernel
theorem dL_six_467 : decode cL_six 467 = .ok (.if_icmp .ne 37, 3) := by decide +kernel
theorem dL_six_470 : decode cL_six 470 = .ok (.aload_n 0, 1) := by decide +kernel
theorem dL_six_471 : decode cL_six 471 = .ok (.iconst 0, 1) := by decide +kernel
theorem dL_six_472 : decode cL_six 472 = .ok (.iconst 0, 1) := by decide +kernel
theorem dL_six_473 : decode cL_six 473 = .ok (.iconst 0, 1) := by decide +kernel
theorem dL_six_474 : decode cL_six 474 = .ok (.invokevirtual 24, 3) := by decide +kernel
theorem dL_six_477 : decode cL_six 477 = .ok (.bipush 6, 2) := by decide +kernel
theorem dL_six_479 : decode cL_six 479 = .ok (.if_icmp .ne 25, 3) := by decide +kernel
theorem dL_six_482 : decode cL_six 482 = .ok (.aload_n 0, 1) := by decide +kernel
theorem dL_six_483 : decode cL_six 483 = .ok (.invokevirtual 91, 3) := by decide +kernel
theorem dL_six_486 : decode cL_six 486 = .ok (.ifCond .ne 18, 3) := by decide +kernel
theorem dL_six_489 : decode cL_six 489 = .ok (.aload_n 0, 1) := by decide +kernel
theorem dL_six_490 : decode cL_six 490 = .ok (.bipush 6, 2) := by decide +kernel
theorem dL_six_492 : decode cL_six 492 = .ok (.bipush 8, 2) := by decide +kernel
theorem dL_six_494 : decode cL_six 494 = .ok (.invokestatic 105, 3) := by decide +kernel
theorem dL_six_497 : decode cL_six 497 = .ok (.ifCond .eq 7, 3) := by decide +kernel
theorem dL_six_500 : decode cL_six 500 = .ok (.iconst 1, 1) := by decide +kernel
theorem dL_six_501 : decode cL_six 501 = .ok (.goto 4, 3) := by decide +kernel
theorem dL_six_504 : decode cL_six 504 = .ok (.iconst 0, 1) := by decide +kernel
theorem dL_six_505 : decode cL_six 505 = .ok (.ireturn, 1) := by decide +kernel

set_option maxRecDepth 20000 in
theorem ggL_guild_X0_init : GoodIn wsL_guild wsX0_init := goodIn_r _ [7, 8, 9, 10, 11, 12, 13, 14, 15, 16, 17, 18, 19, 20, 21, 22, 23, 24, 25, 26, 27, 348, 349, 350, 351, 352, 353, 354, 355, 356, 357, 358, 359] (by decide +kernel) (by decide +kernel)
set_option maxRecDepth 20000 in
theorem gL_guild_X0_init : GoodIn wsL_guild (wsX0_init) := ggL_guild_X0_init
set_option maxRecDepth 20000 in
theorem ggL_guild_L_refuses : GoodIn wsL_guild wsL_refuses := goodIn_ca (goodIn_ca (goodIn_ca (goodIn_r _ [31, 32, 33, 34, 35, 36, 37, 3, 38, 11, 39, 40, 41, 42, 23, 43, 44, 45, 46, 22, 24, 25, 26, 27, 47, 48, 49, 50, 51, 52, 53, 54, 17, 55, 56, 57, 58, 59, 60, 61, 62, 63, 64, 65, 66, 67, 68, 18, 69, 70, 71, 72, 73, 74, 75, 76, 77, 78, 79, 80, 81, 82, 83, 84, 85, 86, 87, 88, 89, 90, 91, 92, 30, 93, 94, 95, 96, 4, 97, 98, 99, 100, 12, 13, 15, 16, 19, 101, 102, 103, 104, 105, 106, 107, 108, 109, 110, 111, 112, 113, 114, 115, 116, 117, 118, 119, 120, 121, 122, 123, 124, 125, 126, 127, 128, 129, 130, 131, 132, 133, 134, 135, 136, 137, 138, 139, 140, 141, 142, 143, 144, 145, 146, 147, 148, 149, 150, 151, 152, 153, 154, 155, 156, 157, 158, 159, 160, 161, 162, 163, 164, 165, 166, 167, 168, 169, 170, 171, 172, 173, 174, 175, 176, 177, 178, 179, 180, 181, 182, 183, 184, 185, 186, 187, 188, 189, 190, 191, 192, 193, 194, 195, 196, 197, 198, 20, 199, 200, 201, 202, 203, 204, 205, 206, 207, 208, 209, 210, 211, 212, 213, 214, 215, 216, 217, 218, 219, 220, 221, 222, 223, 224, 225, 226, 227, 228, 229, 230, 231, 232, 233, 234, 235, 236, 237, 238, 239, 240, 241, 242, 243, 244, 245, 246, 247, 248, 249, 250, 251, 252, 253, 254, 255, 256, 257, 258, 259, 260, 261, 262, 263, 264, 265, 266, 267, 268, 269, 270, 271, 272, 273, 274, 275, 276, 277, 278, 279, 280, 281, 282, 21, 283, 284, 285, 286, 287, 288, 289, 290, 291, 292, 293, 294, 295, 296, 297, 298, 299, 300, 301, 302, 303, 304, 305, 306, 307, 308, 309, 310, 311, 312, 313, 314, 315, 316, 317, 318, 319, 320, 321, 322, 323, 324, 325, 326, 327, 328, 329, 330, 331, 332, 348, 349, 350, 351, 352, 353, 354, 355, 356, 357, 358, 359] rfl (by decide +kernel)) (goodIn_sub (fun _ h => List.mem_cons_of_mem _ (List.mem_append_left _ (List.mem_append_left _ (List.mem_append_right _ h)))) (by decide +kernel))) (goodIn_sub (fun _ h => List.mem_cons_of_mem _ (List.mem_append_left _ (List.mem_append_right _ h))) (by decide +kernel))) (goodIn_sub (fun _ h => List.mem_cons_of_mem _ (List.mem_append_right _ h)) (by decide +kernel))
set_option maxRecDepth 20000 in
theorem gL_guild_L_refuses : GoodIn wsL_guild (va_wsS RL 105 yL_refuses wsL_refuses) := goodIn_app (goodIn_of _ (by decide +kernel)) ggL_guild_L_refuses
set_option maxRecDepth 20000 in
theorem ggL_guild_X0_common : GoodIn wsL_guild wsX0_common := goodIn_r _ [38, 11, 39, 40, 41, 3, 42, 23, 43, 44, 45, 46, 22, 24, 25, 26, 27, 47, 48, 49, 50, 51, 52, 53, 54, 17, 55, 56, 57, 58, 59, 60, 61, 62, 63, 64, 65, 66, 67, 68, 18, 69, 70, 71, 72, 73, 74, 75, 76, 77, 78, 79, 80, 81, 82, 83, 84, 85, 86, 87, 88, 89, 90, 348, 349, 350, 351, 352, 353, 354, 355, 356, 357, 358, 359] (by decide +kernel) (by decide +kernel)
set_option maxRecDepth 20000 in
theorem gL_guild_X0_common : GoodIn wsL_guild (wsV RL 91 RX0 yX0_common wsX0_common) := goodIn_app (goodIn_of _ (by decide +kernel)) ggL_guild_X0_common
set_option maxRecDepth 20000 in
theorem ggL_guild_X0_cover : GoodIn wsL_guild wsX0_cover := goodIn_ca (goodIn_r _ [112, 15, 113, 114, 115, 3, 116, 11, 101, 102, 103, 117, 118, 119, 120, 121, 55, 56, 57, 122, 123, 124, 125, 126, 127, 69, 70, 71, 58, 59, 60, 348, 349, 350, 351, 352, 353, 354, 355, 356, 357, 358, 359] (by decide +kernel) (by decide +kernel)) (goodIn_sub (fun _ h => List.mem_cons_of_mem _ (List.mem_append_left _ (List.mem_append_right _ h))) (by decide +kernel))
set_option maxRecDepth 20000 in
theorem gL_guild_X0_cover : GoodIn wsL_guild (wsV RL 13 RX0 yX0_cover wsX0_cover) := goodIn_app (goodIn_of _ (by decide +kernel)) ggL_guild_X0_cover
set_option maxRecDepth 20000 in
theorem ggL_guild_X0_make : GoodIn wsL_guild wsX0_make := goodIn_ca (goodIn_ca (goodIn_r _ [157, 101, 102, 3, 103, 104, 105, 106, 107, 108, 158, 159, 160, 161, 12, 162, 163, 164, 165, 166, 167, 168, 169, 170, 11, 171, 172, 173, 174, 175, 176, 177, 178, 15, 58, 59, 60, 55, 56, 57, 80, 81, 82, 83, 84, 85, 86, 179, 180, 181, 182, 132, 133, 134, 135, 16, 183, 184, 185, 186, 187, 188, 189, 190, 61, 62, 63, 64, 51, 52, 53, 54, 17, 65, 66, 67, 68, 18, 191, 192, 193, 194, 19, 195, 196, 197, 198, 20, 69, 70, 71, 199, 200, 201, 202, 348, 349, 350, 351, 352, 353, 354, 355, 356, 357, 358, 359] (by decide +kernel) (by decide +kernel)) (goodIn_sub (fun _ h => List.mem_cons_of_mem _ (List.mem_append_left _ (List.mem_append_left _ (List.mem_append_right _ h)))) (by decide +kernel))) (goodIn_sub (fun _ h => List.mem_cons_of_mem _ (List.mem_append_right _ h)) (by decide +kernel))
set_option maxRecDepth 20000 in
theorem gL_guild_X0_make : GoodIn wsL_guild (wsV RL 31 RX0 yX0_make wsX0_make) := goodIn_app (goodIn_of _ (by decide +kernel)) ggL_guild_X0_make
set_option maxRecDepth 20000 in
theorem ggL_guild_X0_value : GoodIn wsL_guild wsX0_value := goodIn_ca (goodIn_ca (goodIn_r _ [230, 207, 208, 209, 3, 210, 12, 117, 118, 119, 120, 121, 219, 220, 221, 222, 167, 168, 169, 170, 11, 104, 105, 106, 107, 108, 211, 212, 213, 214, 20, 55, 56, 57, 348, 349, 350, 351, 352, 353, 354, 355, 356, 357, 358, 359] (by decide +kernel) (by decide +kernel)) (goodIn_sub (fun _ h => List.mem_cons_of_mem _ (List.mem_append_left _ (List.mem_append_right _ h))) (by decide +kernel))) (goodIn_sub (fun _ h => List.mem_cons_of_mem _ (List.mem_append_left _ (List.mem_append_left _ (List.mem_append_right _ h)))) (by decide +kernel))
set_option maxRecDepth 20000 in
theorem gL_guild_X0_value : GoodIn wsL_guild (wsV RL 43 RX0 yX0_value wsX0_value) := goodIn_app (goodIn_of _ (by decide +kernel)) ggL_guild_X0_value
set_option maxRecDepth 20000 in
theorem ggL_guild_X0_isLawful : GoodIn wsL_guild wsX0_isLawful := goodIn_ca (goodIn_r _ [234, 207, 208, 209, 3, 210, 12, 117, 118, 119, 120, 121, 235, 236, 237, 238, 167, 168, 169, 170, 11, 239, 240, 241, 242, 58, 59, 60, 243, 244, 245, 246, 122, 123, 124, 211, 212, 213, 214, 20, 55, 56, 57, 348, 349, 350, 351, 352, 353, 354, 355, 356, 357, 358, 359] (by decide +kernel) (by decide +kernel)) (goodIn_sub (fun _ h => List.mem_cons_of_mem _ (List.mem_append_left _ (List.mem_append_right _ h))) (by decide +kernel))
set_option maxRecDepth 20000 in
theorem gL_guild_X0_isLawful : GoodIn wsL_guild (wsV RL 46 RX0 yX0_isLawful wsX0_isLawful) := goodIn_app (goodIn_of _ (by decide +kernel)) ggL_guild_X0_isLawful
set_option maxRecDepth 20000 in
theorem ggL_guild_X0_rises : GoodIn wsL_guild wsX0_rises := goodIn_ca (goodIn_r _ [250, 11, 207, 208, 209, 3, 210, 12, 117, 118, 119, 120, 121, 167, 168, 169, 170, 243, 244, 245, 246, 122, 123, 124, 211, 212, 213, 214, 20, 55, 56, 57, 348, 349, 350, 351, 352, 353, 354, 355, 356, 357, 358, 359] (by decide +kernel) (by decide +kernel)) (goodIn_sub (fun _ h => List.mem_cons_of_mem _ (List.mem_append_left _ (List.mem_append_right _ h))) (by decide +kernel))
set_option maxRecDepth 20000 in
theorem gL_guild_X0_rises : GoodIn wsL_guild (wsV RL 50 RX0 yX0_rises wsX0_rises) := goodIn_app (goodIn_of _ (by decide +kernel)) ggL_guild_X0_rises
set_option maxRecDepth 20000 in
theorem ggL_guild_L_least : GoodIn wsL_guild wsL_least := goodIn_ca (goodIn_ca (goodIn_r _ [335, 251, 252, 253, 3, 254, 207, 208, 209, 210, 12, 117, 118, 119, 120, 121, 235, 236, 237, 238, 167, 168, 169, 170, 11, 239, 240, 241, 242, 58, 59, 60, 243, 244, 245, 246, 122, 123, 124, 211, 212, 213, 214, 20, 55, 56, 57, 162, 163, 164, 165, 166, 255, 256, 257, 258, 259, 260, 261, 262, 263, 264, 265, 266, 125, 126, 127, 267, 268, 269, 270, 271, 272, 273, 274, 275, 276, 277, 278, 187, 188, 189, 190, 348, 349, 350, 351, 352, 353, 354, 355, 356, 357, 358, 359] rfl (by decide +kernel)) (goodIn_sub (fun _ h => List.mem_cons_of_mem _ (List.mem_append_left _ (List.mem_append_right _ h))) (by decide +kernel))) (goodIn_sub (fun _ h => List.mem_cons_of_mem _ (List.mem_append_right _ h)) (by decide +kernel))
set_option maxRecDepth 20000 in
theorem gL_guild_L_least : GoodIn wsL_guild (va_wsS RL 109 yL_least wsL_least) := goodIn_app (goodIn_of _ (by decide +kernel)) ggL_guild_L_least
set_option maxRecDepth 20000 in
theorem ggL_guild_X0_edge : GoodIn wsL_guild wsX0_edge := goodIn_ca (goodIn_ca (goodIn_r _ [131, 16, 113, 114, 115, 3, 116, 11, 117, 118, 119, 120, 121, 101, 102, 103, 104, 105, 106, 107, 108, 132, 133, 134, 135, 55, 56, 57, 69, 70, 71, 348, 349, 350, 351, 352, 353, 354, 355, 356, 357, 358, 359] (by decide +kernel) (by decide +kernel)) (goodIn_sub (fun _ h => List.mem_cons_of_mem _ (List.mem_append_left _ (List.mem_append_right _ h))) (by decide +kernel))) (goodIn_sub (fun _ h => List.mem_cons_of_mem _ (List.mem_append_left _ (List.mem_append_left _ (List.mem_append_right _ h)))) (by decide +kernel))
set_option maxRecDepth 20000 in
theorem gL_guild_X0_edge : GoodIn wsL_guild (wsV RL 17 RX0 yX0_edge wsX0_edge) := goodIn_app (goodIn_of _ (by decide +kernel)) ggL_guild_X0_edge
set_option maxRecDepth 20000 in
theorem ggL_guild_X0_weigh : GoodIn wsL_guild wsX0_weigh := goodIn_ca (goodIn_ca (goodIn_r _ [153, 19, 113, 114, 115, 3, 116, 11, 117, 118, 119, 120, 121, 101, 102, 103, 104, 105, 106, 107, 108, 55, 56, 57, 69, 70, 71, 348, 349, 350, 351, 352, 353, 354, 355, 356, 357, 358, 359] (by decide +kernel) (by decide +kernel)) (goodIn_sub (fun _ h => List.mem_cons_of_mem _ (List.mem_append_left _ (List.mem_append_right _ h))) (by decide +kernel))) (goodIn_sub (fun _ h => List.mem_cons_of_mem _ (List.mem_append_left _ (List.mem_append_left _ (List.mem_append_right _ h)))) (by decide +kernel))
set_option maxRecDepth 20000 in
theorem gL_guild_X0_weigh : GoodIn wsL_guild (wsV RL 27 RX0 yX0_weigh wsX0_weigh) := goodIn_app (goodIn_of _ (by decide +kernel)) ggL_guild_X0_weigh
set_option maxRecDepth 20000 in
theorem ggL_guild_X0_sum : GoodIn wsL_guild wsX0_sum := goodIn_ca (goodIn_ca (goodIn_r _ [206, 207, 208, 209, 3, 210, 12, 117, 118, 119, 120, 121, 158, 159, 160, 161, 162, 163, 164, 165, 166, 167, 168, 169, 170, 11, 211, 212, 213, 214, 20, 55, 56, 57, 195, 196, 197, 198, 69, 70, 71, 199, 200, 201, 202, 348, 349, 350, 351, 352, 353, 354, 355, 356, 357, 358, 359] (by decide +kernel) (by decide +kernel)) (goodIn_sub (fun _ h => List.mem_cons_of_mem _ (List.mem_append_left _ (List.mem_append_right _ h))) (by decide +kernel))) (goodIn_sub (fun _ h => List.mem_cons_of_mem _ (List.mem_append_right _ h)) (by decide +kernel))
set_option maxRecDepth 20000 in
theorem gL_guild_X0_sum : GoodIn wsL_guild (wsV RL 34 RX0 yX0_sum wsX0_sum) := goodIn_app (goodIn_of _ (by decide +kernel)) ggL_guild_X0_sum
set_option maxRecDepth 20000 in
theorem ggL_guild_X0_contract : GoodIn wsL_guild wsX0_contract := goodIn_ca (goodIn_ca (goodIn_ca (goodIn_r _ [218, 207, 208, 209, 3, 210, 12, 117, 118, 119, 120, 121, 219, 220, 221, 222, 167, 168, 169, 170, 11, 104, 105, 106, 107, 108, 158, 159, 160, 161, 162, 163, 164, 165, 166, 211, 212, 213, 214, 20, 55, 56, 57, 195, 196, 197, 198, 69, 70, 71, 199, 200, 201, 202, 348, 349, 350, 351, 352, 353, 354, 355, 356, 357, 358, 359] (by decide +kernel) (by decide +kernel)) (goodIn_sub (fun _ h => List.mem_cons_of_mem _ (List.mem_append_left _ (List.mem_append_right _ h))) (by decide +kernel))) (goodIn_sub (fun _ h => List.mem_cons_of_mem _ (List.mem_append_left _ (List.mem_append_left _ (List.mem_append_right _ h)))) (by decide +kernel))) (goodIn_sub (fun _ h => List.mem_cons_of_mem _ (List.mem_append_right _ h)) (by decide +kernel))
set_option maxRecDepth 20000 in
theorem gL_guild_X0_contract : GoodIn wsL_guild (wsV RL 37 RX0 yX0_contract wsX0_contract) := goodIn_app (goodIn_of _ (by decide +kernel)) ggL_guild_X0_contract
set_option maxRecDepth 20000 in
theorem ggL_guild_X0_cap : GoodIn wsL_guild wsX0_cap := goodIn_ca (goodIn_ca (goodIn_ca (goodIn_r _ [226, 187, 188, 189, 190, 207, 208, 209, 3, 210, 12, 117, 118, 119, 120, 121, 101, 102, 103, 104, 105, 106, 107, 108, 158, 159, 160, 161, 162, 163, 164, 165, 166, 167, 168, 169, 170, 11, 211, 212, 213, 214, 20, 55, 56, 57, 195, 196, 197, 198, 69, 70, 71, 199, 200, 201, 202, 348, 349, 350, 351, 352, 353, 354, 355, 356, 357, 358, 359] (by decide +kernel) (by decide +kernel)) (goodIn_sub (fun _ h => List.mem_cons_of_mem _ (List.mem_append_left _ (List.mem_append_right _ h))) (by decide +kernel))) (goodIn_sub (fun _ h => List.mem_cons_of_mem _ (List.mem_append_left _ (List.mem_append_left _ (List.mem_append_right _ h)))) (by decide +kernel))) (goodIn_sub (fun _ h => List.mem_cons_of_mem _ (List.mem_append_right _ h)) (by decide +kernel))
set_option maxRecDepth 20000 in
theorem gL_guild_X0_cap : GoodIn wsL_guild (wsV RL 40 RX0 yX0_cap wsX0_cap) := goodIn_app (goodIn_of _ (by decide +kernel)) ggL_guild_X0_cap
set_option maxRecDepth 20000 in
theorem ggL_guild_L_act : GoodIn wsL_guild wsL_act := goodIn_ca (goodIn_ca (goodIn_ca (goodIn_r _ [93, 94, 95, 96, 34, 33, 4, 97, 98, 99, 3, 100, 11, 12, 13, 15, 16, 17, 18, 19, 101, 102, 103, 104, 105, 106, 107, 108, 24, 25, 26, 27, 109, 110, 111, 112, 113, 114, 115, 116, 117, 118, 119, 120, 121, 55, 56, 57, 122, 123, 124, 125, 126, 127, 69, 70, 71, 58, 59, 60, 128, 129, 130, 131, 132, 133, 134, 135, 136, 137, 138, 139, 140, 141, 142, 143, 144, 145, 51, 52, 53, 54, 146, 147, 148, 149, 65, 66, 67, 68, 150, 151, 152, 153, 154, 155, 156, 157, 158, 159, 160, 161, 162, 163, 164, 165, 166, 167, 168, 169, 170, 171, 172, 173, 174, 175, 176, 177, 178, 80, 81, 82, 83, 84, 85, 86, 179, 180, 181, 182, 183, 184, 185, 186, 187, 188, 189, 190, 61, 62, 63, 64, 191, 192, 193, 194, 195, 196, 197, 198, 20, 199, 200, 201, 202, 203, 204, 205, 206, 207, 208, 209, 210, 211, 212, 213, 214, 215, 216, 217, 218, 219, 220, 221, 222, 223, 224, 225, 226, 227, 228, 229, 230, 231, 232, 233, 234, 235, 236, 237, 238, 239, 240, 241, 242, 243, 244, 245, 246, 247, 248, 249, 250, 251, 252, 253, 254, 255, 256, 257, 258, 259, 260, 261, 262, 263, 264, 265, 266, 267, 268, 269, 270, 271, 272, 273, 274, 275, 276, 277, 278, 279, 280, 281, 282, 21, 283, 284, 285, 286, 287, 288, 289, 290, 291, 292, 293, 294, 295, 296, 297, 298, 299, 300, 301, 302, 303, 304, 305, 306, 307, 308, 309, 310, 311, 312, 313, 314, 315, 316, 317, 318, 319, 320, 321, 322, 323, 324, 348, 349, 350, 351, 352, 353, 354, 355, 356, 357, 358, 359] rfl (by decide +kernel)) (goodIn_sub (fun _ h => List.mem_cons_of_mem _ (List.mem_append_left _ (List.mem_append_left _ (List.mem_append_right _ h)))) (by decide +kernel))) (goodIn_sub (fun _ h => List.mem_cons_of_mem _ (List.mem_append_left _ (List.mem_append_right _ h))) (by decide +kernel))) (goodIn_sub (fun _ h => List.mem_cons_of_mem _ (List.mem_append_right _ h)) (by decide +kernel))
set_option maxRecDepth 20000 in
theorem gL_guild_L_act : GoodIn wsL_guild (va_wsS RL 95 yL_act wsL_act) := goodIn_app (goodIn_of _ (by decide +kernel)) ggL_guild_L_act
set_option maxRecDepth 20000 in
theorem ggL_guild_X0_colour : GoodIn wsL_guild wsX0_colour := goodIn_ca (goodIn_r _ [139, 17, 140, 141, 3, 142, 113, 114, 115, 116, 11, 143, 144, 145, 117, 118, 119, 120, 121, 51, 52, 53, 54, 55, 56, 57, 69, 70, 71, 348, 349, 350, 351, 352, 353, 354, 355, 356, 357, 358, 359] (by decide +kernel) (by decide +kernel)) (goodIn_sub (fun _ h => List.mem_cons_of_mem _ (List.mem_append_left _ (List.mem_append_right _ h))) (by decide +kernel))
set_option maxRecDepth 20000 in
theorem gL_guild_X0_colour : GoodIn wsL_guild (wsV RL 21 RX0 yX0_colour wsX0_colour) := goodIn_app (goodIn_of _ (by decide +kernel)) ggL_guild_X0_colour
set_option maxRecDepth 20000 in
theorem ggL_guild_X0_room : GoodIn wsL_guild wsX0_room := goodIn_ca (goodIn_ca (goodIn_r _ [149, 18, 140, 141, 3, 142, 143, 144, 145, 117, 118, 119, 120, 121, 101, 102, 103, 104, 105, 106, 107, 108, 65, 66, 67, 68, 55, 56, 57, 69, 70, 71, 348, 349, 350, 351, 352, 353, 354, 355, 356, 357, 358, 359] (by decide +kernel) (by decide +kernel)) (goodIn_sub (fun _ h => List.mem_cons_of_mem _ (List.mem_append_left _ (List.mem_append_right _ h))) (by decide +kernel))) (goodIn_sub (fun _ h => List.mem_cons_of_mem _ (List.mem_append_left _ (List.mem_append_left _ (List.mem_append_right _ h)))) (by decide +kernel))
set_option maxRecDepth 20000 in
theorem gL_guild_X0_room : GoodIn wsL_guild (wsV RL 24 RX0 yX0_room wsX0_room) := goodIn_app (goodIn_of _ (by decide +kernel)) ggL_guild_X0_room
set_option maxRecDepth 20000 in
theorem ggL_guild_L_greed : GoodIn wsL_guild wsL_greed := goodIn_ca (goodIn_ca (goodIn_r _ [338, 295, 296, 297, 3, 298, 207, 208, 209, 210, 12, 117, 118, 119, 120, 121, 101, 102, 103, 104, 105, 106, 107, 108, 299, 300, 301, 302, 11, 243, 244, 245, 246, 122, 123, 124, 211, 212, 213, 214, 20, 55, 56, 57, 303, 304, 305, 306, 307, 308, 189, 309, 167, 168, 169, 170, 80, 81, 82, 83, 84, 85, 86, 35, 36, 37, 38, 39, 40, 41, 42, 23, 43, 44, 45, 46, 22, 24, 25, 26, 27, 47, 48, 49, 50, 51, 52, 53, 54, 17, 58, 59, 60, 61, 62, 63, 64, 65, 66, 67, 68, 18, 69, 70, 71, 72, 73, 74, 75, 76, 77, 78, 79, 87, 88, 89, 90, 136, 137, 138, 139, 140, 141, 142, 113, 114, 115, 116, 143, 144, 145, 325, 326, 327, 328, 329, 330, 331, 332, 146, 147, 148, 149, 339, 340, 30, 341, 310, 311, 312, 313, 314, 315, 316, 317, 318, 319, 320, 321, 322, 323, 324, 348, 349, 350, 351, 352, 353, 354, 355, 356, 357, 358, 359] rfl (by decide +kernel)) (goodIn_sub (fun _ h => List.mem_cons_of_mem _ (List.mem_append_left _ (List.mem_append_right _ h))) (by decide +kernel))) (goodIn_sub (fun _ h => List.mem_cons_of_mem _ (List.mem_append_left _ (List.mem_append_left _ (List.mem_append_right _ h)))) (by decide +kernel))
set_option maxRecDepth 20000 in
theorem gL_guild_L_greed : GoodIn wsL_guild (va_wsS RL 112 yL_greed wsL_greed) := goodIn_app (goodIn_of _ (by decide +kernel)) ggL_guild_L_greed
set_option maxRecDepth 20000 in
theorem ggL_guild_L_orders : GoodIn wsL_guild wsL_orders := goodIn_ca (goodIn_ca (goodIn_ca (goodIn_r _ [344, 4, 34, 91, 92, 30, 93, 94, 95, 96, 33, 97, 98, 99, 3, 100, 11, 12, 13, 15, 16, 17, 18, 19, 101, 102, 103, 104, 105, 106, 107, 108, 24, 25, 26, 27, 109, 110, 111, 112, 113, 114, 115, 116, 117, 118, 119, 120, 121, 55, 56, 57, 122, 123, 124, 125, 126, 127, 69, 70, 71, 58, 59, 60, 128, 129, 130, 131, 132, 133, 134, 135, 136, 137, 138, 139, 140, 141, 142, 143, 144, 145, 51, 52, 53, 54, 146, 147, 148, 149, 65, 66, 67, 68, 150, 151, 152, 153, 154, 155, 156, 157, 158, 159, 160, 161, 162, 163, 164, 165, 166, 167, 168, 169, 170, 171, 172, 173, 174, 175, 176, 177, 178, 80, 81, 82, 83, 84, 85, 86, 179, 180, 181, 182, 183, 184, 185, 186, 187, 188, 189, 190, 61, 62, 63, 64, 191, 192, 193, 194, 195, 196, 197, 198, 20, 199, 200, 201, 202, 203, 204, 205, 206, 207, 208, 209, 210, 211, 212, 213, 214, 215, 216, 217, 218, 219, 220, 221, 222, 223, 224, 225, 226, 227, 228, 229, 230, 231, 232, 233, 234, 235, 236, 237, 238, 239, 240, 241, 242, 243, 244, 245, 246, 247, 248, 249, 250, 251, 252, 253, 254, 255, 256, 257, 258, 259, 260, 261, 262, 263, 264, 265, 266, 267, 268, 269, 270, 271, 272, 273, 274, 275, 276, 277, 278, 279, 280, 281, 282, 21, 283, 284, 285, 286, 287, 288, 289, 290, 291, 292, 293, 294, 295, 296, 297, 298, 299, 300, 301, 302, 303, 304, 305, 306, 307, 308, 309, 310, 311, 312, 313, 314, 315, 316, 317, 318, 319, 320, 321, 322, 323, 324, 28, 29, 31, 32, 35, 36, 37, 38, 39, 40, 41, 42, 23, 43, 44, 45, 46, 22, 47, 48, 49, 50, 72, 73, 74, 75, 76, 77, 78, 79, 87, 88, 89, 90, 325, 326, 327, 328, 329, 330, 331, 332, 348, 349, 350, 351, 352, 353, 354, 355, 356, 357, 358, 359] rfl (by decide +kernel)) (goodIn_sub (fun _ h => List.mem_cons_of_mem _ (List.mem_append_left _ (List.mem_append_left _ (List.mem_append_right _ h)))) (by decide +kernel))) (goodIn_sub (fun _ h => List.mem_cons_of_mem _ (List.mem_append_left _ (List.mem_append_right _ h))) (by decide +kernel))) (goodIn_sub (fun _ h => List.mem_cons_of_mem _ (List.mem_append_right _ h)) (by decide +kernel))
set_option maxRecDepth 20000 in
theorem gL_guild_L_orders : GoodIn wsL_guild (va_wsS RL 116 yL_orders wsL_orders) := goodIn_app (goodIn_of _ (by decide +kernel)) ggL_guild_L_orders
set_option maxRecDepth 20000 in
theorem ggL_guild_L_six : GoodIn wsL_guild wsL_six := goodIn_ca (goodIn_ca (goodIn_ca (goodIn_r _ [347, 1, 2, 3, 5, 6, 7, 8, 9, 10, 11, 12, 13, 14, 15, 16, 17, 18, 19, 20, 21, 22, 23, 24, 25, 26, 27, 97, 98, 99, 100, 101, 102, 103, 104, 105, 106, 107, 108, 150, 151, 152, 153, 113, 114, 115, 116, 117, 118, 119, 120, 121, 55, 56, 57, 69, 70, 71, 154, 155, 156, 157, 158, 159, 160, 161, 162, 163, 164, 165, 166, 167, 168, 169, 170, 171, 172, 173, 174, 175, 176, 177, 178, 58, 59, 60, 80, 81, 82, 83, 84, 85, 86, 179, 180, 181, 182, 132, 133, 134, 135, 183, 184, 185, 186, 187, 188, 189, 190, 61, 62, 63, 64, 51, 52, 53, 54, 65, 66, 67, 68, 191, 192, 193, 194, 195, 196, 197, 198, 199, 200, 201, 202, 231, 232, 233, 234, 207, 208, 209, 210, 235, 236, 237, 238, 239, 240, 241, 242, 243, 244, 245, 246, 122, 123, 124, 211, 212, 213, 214, 333, 334, 30, 335, 251, 252, 253, 254, 255, 256, 257, 258, 259, 260, 261, 262, 263, 264, 265, 266, 125, 126, 127, 267, 268, 269, 270, 271, 272, 273, 274, 275, 276, 277, 278, 339, 340, 341, 310, 311, 312, 313, 314, 315, 316, 317, 318, 319, 320, 321, 322, 323, 324, 295, 296, 297, 298, 299, 300, 301, 302, 279, 280, 281, 282, 283, 284, 285, 286, 287, 288, 289, 290, 291, 292, 293, 294, 28, 29, 31, 32, 33, 34, 35, 36, 37, 38, 39, 40, 41, 42, 43, 44, 45, 46, 47, 48, 49, 50, 72, 73, 74, 75, 76, 77, 78, 79, 87, 88, 89, 90, 91, 92, 93, 94, 95, 96, 4, 109, 110, 111, 112, 128, 129, 130, 131, 136, 137, 138, 139, 140, 141, 142, 143, 144, 145, 146, 147, 148, 149, 203, 204, 205, 206, 215, 216, 217, 218, 219, 220, 221, 222, 223, 224, 225, 226, 227, 228, 229, 230, 247, 248, 249, 250, 303, 304, 305, 306, 307, 308, 309, 325, 326, 327, 328, 329, 330, 331, 332, 348, 349, 350, 351, 352, 353, 354, 355, 356, 357, 358, 359] rfl (by decide +kernel)) (goodIn_sub (fun _ h => List.mem_cons_of_mem _ (List.mem_append_left _ (List.mem_append_left _ (List.mem_append_right _ h)))) (by decide +kernel))) (goodIn_sub (fun _ h => List.mem_cons_of_mem _ (List.mem_append_left _ (List.mem_append_right _ h))) (by decide +kernel))) (goodIn_sub (fun _ h => List.mem_cons_of_mem _ (List.mem_append_right _ h)) (by decide +kernel))
set_option maxRecDepth 20000 in
theorem gL_guild_L_six : GoodIn wsL_guild (va_wsS RL 119 yL_six wsL_six) := goodIn_app (goodIn_of _ (by decide +kernel)) ggL_guild_L_six
theorem dL_guild_0 : decode cL_guild 0 = .ok (.new 8, 3) := by decide +kernel
theorem dL_guild_3 : decode cL_guild 3 = .ok (.dup, 1) := by decide +kernel
theorem dL_guild_4 : decode cL_guild 4 = .ok (.invokespecial 104, 3) := by decide +kernel
theorem dL_guild_7 : decode cL_guild 7 = .ok (.astore_n 0, 1) := by decide +kernel
theorem dL_guild_8 : decode cL_guild 8 = .ok (.aload_n 0, 1) := by decide +kernel
theorem dL_guild_9 : decode cL_guild 9 = .ok (.iconst 4, 1) := by decide +kernel
theorem dL_guild_10 : decode cL_guild 10 = .ok (.iconst 0, 1) := by decide +kernel
theorem dL_guild_11 : decode cL_guild 11 = .ok (.invokestatic 105, 3) := by decide +kernel
theorem dL_guild_14 : decode cL_guild 14 = .ok (.ifCond .eq 201, 3) := by decide +kernel
theorem dL_guild_17 : decode cL_guild 17 = .ok (.aload_n 0, 1) := by decide +kernel
theorem dL_guild_18 : decode cL_guild 18 = .ok (.invokevirtual 91, 3) := by decide +kernel
theorem dL_guild_21 : decode cL_guild 21 = .ok (.iconst 1, 1) := by decide +kernel
theorem dL_guild_22 : decode cL_guild 22 = .ok (.if_icmp .ne 193, 3) := by decide +kernel
theorem dL_guild_25 : decode cL_guild 25 = .ok (.aload_n 0, 1) := by decide +kernel
theorem dL_guild_26 : decode cL_guild 26 = .ok (.iconst 0, 1) := by decide +kernel
theorem dL_guild_27 : decode cL_guild 27 = .ok (.iconst 0, 1) := by decide +kernel
theorem dL_guild_28 : decode cL_guild 28 = .ok (.iconst 1, 1) := by decide +kernel
theorem dL_guild_29 : decode cL_guild 29 = .ok (.invokevirtual 13, 3) := by decide +kernel
theorem dL_guild_32 : decode cL_guild 32 = .ok (.ifCond .ne 183, 3) := by decide +kernel
theorem dL_guild_35 : decode cL_guild 35 = .ok (.aload_n 0, 1) := by decide +kernel
theorem dL_guild_36 : decode cL_guild 36 = .ok (.iconst 0, 1) := by decide +kernel
theorem dL_guild_37 : decode cL_guild 37 = .ok (.iconst 1, 1) := by decide +kernel
theorem dL_guild_38 : decode cL_guild 38 = .ok (.iconst 1, 1) := by decide +kernel
theorem dL_guild_39 : decode cL_guild 39 = .ok (.invokevirtual 13, 3) := by decide +kernel
theorem dL_guild_42 : decode cL_guild 42 = .ok (.ifCond .ne 173, 3) := by decide +kernel
theorem dL_guild_45 : decode cL_guild 45 = .ok (.aload_n 0, 1) := by decide +kernel
theorem dL_guild_46 : decode cL_guild 46 = .ok (.iconst 1, 1) := by decide +kernel
theorem dL_guild_47 : decode cL_guild 47 = .ok (.iconst 1, 1) := by decide +kernel
theorem dL_guild_48 : decode cL_guild 48 = .ok (.iconst 1, 1) := by decide +kernel
theorem dL_guild_49 : decode cL_guild 49 = .ok (.invokevirtual 13, 3) := by decide +kernel
theorem dL_guild_52 : decode cL_guild 52 = .ok (.ifCond .ne 163, 3) := by decide +kernel
theorem dL_guild_55 : decode cL_guild 55 = .ok (.aload_n 0, 1) := by decide +kernel
theorem dL_guild_56 : decode cL_guild 56 = .ok (.iconst 1, 1) := by decide +kernel
theorem dL_guild_57 : decode cL_guild 57 = .ok (.iconst 2, 1) := by decide +kernel
theorem dL_guild_58 : decode cL_guild 58 = .ok (.iconst 1, 1) := by decide +kernel
theorem dL_guild_59 : decode cL_guild 59 = .ok (.invokevirtual 13, 3) := by decide +kernel
theorem dL_guild_62 : decode cL_guild 62 = .ok (.ifCond .ne 153, 3) := by decide +kernel
theorem dL_guild_65 : decode cL_guild 65 = .ok (.aload_n 0, 1) := by decide +kernel
theorem dL_guild_66 : decode cL_guild 66 = .ok (.iconst 2, 1) := by decide +kernel
theorem dL_guild_67 : decode cL_guild 67 = .ok (.iconst 2, 1) := by decide +kernel
theorem dL_guild_68 : decode cL_guild 68 = .ok (.iconst 1, 1) := by decide +kernel
theorem dL_guild_69 : decode cL_guild 69 = .ok (.invokevirtual 13, 3) := by decide +kernel
theorem dL_guild_72 : decode cL_guild 72 = .ok (.ifCond .ne 143, 3) := by decide +kernel
theorem dL_guild_75 : decode cL_guild 75 = .ok (.aload_n 0, 1) := by decide +kernel
theorem dL_guild_76 : decode cL_guild 76 = .ok (.iconst 3, 1) := by decide +kernel
theorem dL_guild_77 : decode cL_guild 77 = .ok (.bipush 9, 2) := by decide +kernel
theorem dL_guild_79 : decode cL_guild 79 = .ok (.iconst 1, 1) := by decide +kernel
theorem dL_guild_80 : decode cL_guild 80 = .ok (.invokevirtual 13, 3) := by decide +kernel
theorem dL_guild_83 : decode cL_guild 83 = .ok (.ifCond .ne 132, 3) := by decide +kernel
theorem dL_guild_86 : decode cL_guild 86 = .ok (.aload_n 0, 1) := by decide +kernel
theorem dL_guild_87 : decode cL_guild 87 = .ok (.iconst 3, 1) := by decide +kernel
theorem dL_guild_88 : decode cL_guild 88 = .ok (.bipush 8, 2) := by decide +kernel
theorem dL_guild_90 : decode cL_guild 90 = .ok (.iconst 1, 1) := by decide +kernel
theorem dL_guild_91 : decode cL_guild 91 = .ok (.invokevirtual 13, 3) := by decide +kernel
theorem dL_guild_94 : decode cL_guild 94 = .ok (.ifCond .ne 121, 3) := by decide +kernel
theorem dL_guild_97 : decode cL_guild 97 = .ok (.aload_n 0, 1) := by decide +kernel
theorem dL_guild_98 : decode cL_guild 98 = .ok (.iconst 3, 1) := by decide +kernel
theorem dL_guild_99 : decode cL_guild 99 = .ok (.bipush 8, 2) := by decide +kernel
theorem dL_guild_101 : decode cL_guild 101 = .ok (.iconst 0, 1) := by decide +kernel
theorem dL_guild_102 : decode cL_guild 102 = .ok (.invokevirtual 13, 3) := by decide +kernel
theorem dL_guild_105 : decode cL_guild 105 = .ok (.ifCond .eq 110, 3) := by decide +kernel
theorem dL_guild_108 : decode cL_guild 108 = .ok (.aload_n 0, 1) := by decide +kernel
theorem dL_guild_109 : decode cL_guild 109 = .ok (.iconst 3, 1) := by decide +kernel
theorem dL_guild_110 : decode cL_guild 110 = .ok (.bipush 9, 2) := by decide +kernel
theorem dL_guild_112 : decode cL_guild 112 = .ok (.iconst 1, 1) := by decide +kernel
theorem dL_guild_113 : decode cL_guild 113 = .ok (.invokevirtual 13, 3) := by decide +kernel
theorem dL_guild_116 : decode cL_guild 116 = .ok (.ifCond .eq 99, 3) := by decide +kernel
theorem dL_guild_119 : decode cL_guild 119 = .ok (.aload_n 0, 1) := by decide +kernel
theorem dL_guild_120 : decode cL_guild 120 = .ok (.iconst 0, 1) := by decide +kernel
theorem dL_guild_121 : decode cL_guild 121 = .ok (.invokevirtual 31, 3) := by decide +kernel
theorem dL_guild_124 : decode cL_guild 124 = .ok (.ifCond .ne 91, 3) := by decide +kernel
theorem dL_guild_127 : decode cL_guild 127 = .ok (.aload_n 0, 1) := by decide +kernel
theorem dL_guild_128 : decode cL_guild 128 = .ok (.iconst 0, 1) := by decide +kernel
theorem dL_guild_129 : decode cL_guild 129 = .ok (.iconst 0, 1) := by decide +kernel
theorem dL_guild_130 : decode cL_guild 130 = .ok (.invokevirtual 43, 3) := by decide +kernel
theorem dL_guild_133 : decode cL_guild 133 = .ok (.ifCond .ne 82, 3) := by decide +kernel
theorem dL_guild_136 : decode cL_guild 136 = .ok (.aload_n 0, 1) := by decide +kernel
theorem dL_guild_137 : decode cL_guild 137 = .ok (.iconst 0, 1) := by decide +kernel
theorem dL_guild_138 : decode cL_guild 138 = .ok (.iconst 3, 1) := by decide +kernel
theorem dL_guild_139 : decode cL_guild 139 = .ok (.invokevirtual 43, 3) := by decide +kernel
theorem dL_guild_142 : decode cL_guild 142 = .ok (.iconst 3, 1) := by decide +kernel
theorem dL_guild_143 : decode cL_guild 143 = .ok (.if_icmp .ne 72, 3) := by decide +kernel
theorem dL_guild_146 : decode cL_guild 146 = .ok (.aload_n 0, 1) := by decide +kernel
theorem dL_guild_147 : decode cL_guild 147 = .ok (.iconst 0, 1) := by decide +kernel
theorem dL_guild_148 : decode cL_guild 148 = .ok (.bipush 6, 2) := by decide +kernel
theorem dL_guild_150 : decode cL_guild 150 = .ok (.invokevirtual 43, 3) := by decide +kernel
theorem dL_guild_153 : decode cL_guild 153 = .ok (.iconst 2, 1) := by decide +kernel
theorem dL_guild_154 : decode cL_guild 154 = .ok (.if_icmp .ne 61, 3) := by decide +kernel
theorem dL_guild_157 : decode cL_guild 157 = .ok (.aload_n 0, 1) := by decide +kernel
theorem dL_guild_158 : decode cL_guild 158 = .ok (.iconst 0, 1) := by decide +kernel
theorem dL_guild_159 : decode cL_guild 159 = .ok (.bipush 15, 2) := by decide +kernel
theorem dL_guild_161 : decode cL_guild 161 = .ok (.invokevirtual 43, 3) := by decide +kernel
theorem dL_guild_164 : decode cL_guild 164 = .ok (.iconst 4, 1) := by decide +kernel
theorem dL_guild_165 : decode cL_guild 165 = .ok (.if_icmp .ne 50, 3) := by decide +kernel
theorem dL_guild_168 : decode cL_guild 168 = .ok (.aload_n 0, 1) := by decide +kernel
theorem dL_guild_169 : decode cL_guild 169 = .ok (.iconst 0, 1) := by decide +kernel
theorem dL_guild_170 : decode cL_guild 170 = .ok (.invokevirtual 46, 3) := by decide +kernel
theorem dL_guild_173 : decode cL_guild 173 = .ok (.ifCond .eq 42, 3) := by decide +kernel
theorem dL_guild_176 : decode cL_guild 176 = .ok (.aload_n 0, 1) := by decide +kernel
theorem dL_guild_177 : decode cL_guild 177 = .ok (.iconst 0, 1) := by decide +kernel
theorem dL_guild_178 : decode cL_guild 178 = .ok (.invokevirtual 50, 3) := by decide +kernel
theorem dL_guild_181 : decode cL_guild 181 = .ok (.ifCond .eq 34, 3) := by decide +kernel
theorem dL_guild_184 : decode cL_guild 184 = .ok (.aload_n 0, 1) := by decide +kernel
theorem dL_guild_185 : decode cL_guild 185 = .ok (.iconst 0, 1) := by decide +kernel
theorem dL_guild_186 : decode cL_guild 186 = .ok (.iconst 0, 1) := by decide +kernel
theorem dL_guild_187 : decode cL_guild 187 = .ok (.iconst 0, 1) := by decide +kernel
theorem dL_guild_188 : decode cL_guild 188 = .ok (.iconst 0, 1) := by decide +kernel
theorem dL_guild_189 : decode cL_guild 189 = .ok (.invokestatic 109, 3) := by decide +kernel
theorem dL_guild_192 : decode cL_guild 192 = .ok (.ifCond .eq 23, 3) := by decide +kernel
theorem dL_guild_195 : decode cL_guild 195 = .ok (.aload_n 0, 1) := by decide +kernel
theorem dL_guild_196 : decode cL_guild 196 = .ok (.iconst 0, 1) := by decide +kernel
theorem dL_guild_197 : decode cL_guild 197 = .ok (.iconst 0, 1) := by decide +kernel
theorem dL_guild_198 : decode cL_guild 198 = .ok (.iconst 0, 1) := by decide +kernel
theorem dL_guild_199 : decode cL_guild 199 = .ok (.invokevirtual 13, 3) := by decide +kernel
theorem dL_guild_202 : decode cL_guild 202 = .ok (.ifCond .eq 13, 3) := by decide +kernel
theorem dL_guild_205 : decode cL_guild 205 = .ok (.aload_n 0, 1) := by decide +kernel
theorem dL_guild_206 : decode cL_guild 206 = .ok (.iconst 0, 1) := by decide +kernel
theorem dL_guild_207 : decode cL_guild 207 = .ok (.iconst 1, 1) := by decide +kernel
theorem dL_guild_208 : decode cL_guild 208 = .ok (.invokevirtual 43, 3) := by decide +kernel
theorem dL_guild_211 : decode cL_guild 211 = .ok (.iconst 2, 1) := by decide +kernel
theorem dL_guild_212 : decode cL_guild 212 = .ok (.if_icmp .eq 5, 3) := by decide +kernel
theorem dL_guild_215 : decode cL_guild 215 = .ok (.iconst 0, 1) := by decide +kernel
theorem dL_guild_216 : decode cL_guild 216 = .ok (.ireturn, 1) := by decide +kernel
theorem dL_guild_217 : decode cL_guild 217 = .ok (.aload_n 0, 1) := by decide +kernel
theorem dL_guild_218 : decode cL_guild 218 = .ok (.iconst 0, 1) := by decide +kernel
theorem dL_guild_219 : decode cL_guild 219 = .ok (.iconst 1, 1) := by decide +kernel
theorem dL_guild_220 : decode cL_guild 220 = .ok (.iconst 4, 1) := by decide +kernel
theorem dL_guild_221 : decode cL_guild 221 = .ok (.invokevirtual 17, 3) := by decide +kernel
theorem dL_guild_224 : decode cL_guild 224 = .ok (.ifCond .ne 226, 3) := by decide +kernel
theorem dL_guild_227 : decode cL_guild 227 = .ok (.aload_n 0, 1) := by decide +kernel
theorem dL_guild_228 : decode cL_guild 228 = .ok (.iconst 1, 1) := by decide +kernel
theorem dL_guild_229 : decode cL_guild 229 = .ok (.iconst 0, 1) := by decide +kernel
theorem dL_guild_230 : decode cL_guild 230 = .ok (.iconst 5, 1) := by decide +kernel
theorem dL_guild_231 : decode cL_guild 231 = .ok (.invokevirtual 17, 3) := by decide +kernel
theorem dL_guild_234 : decode cL_guild 234 = .ok (.iconst 4, 1) := by decide +kernel
theorem dL_guild_235 : decode cL_guild 235 = .ok (.if_icmp .ne 215, 3) := by decide +kernel
theorem dL_guild_238 : decode cL_guild 238 = .ok (.aload_n 0, 1) := by decide +kernel
theorem dL_guild_239 : decode cL_guild 239 = .ok (.iconst 1, 1) := by decide +kernel
theorem dL_guild_240 : decode cL_guild 240 = .ok (.iconst 2, 1) := by decide +kernel
theorem dL_guild_241 : decode cL_guild 241 = .ok (.iconst 3, 1) := by decide +kernel
theorem dL_guild_242 : decode cL_guild 242 = .ok (.invokevirtual 17, 3) := by decide +kernel
theorem dL_guild_245 : decode cL_guild 245 = .ok (.ifCond .ne 205, 3) := by decide +kernel
theorem dL_guild_248 : decode cL_guild 248 = .ok (.aload_n 0, 1) := by decide +kernel
theorem dL_guild_249 : decode cL_guild 249 = .ok (.iconst 0, 1) := by decide +kernel
theorem dL_guild_250 : decode cL_guild 250 = .ok (.iconst 3, 1) := by decide +kernel
theorem dL_guild_251 : decode cL_guild 251 = .ok (.iconst 2, 1) := by decide +kernel
theorem dL_guild_252 : decode cL_guild 252 = .ok (.invokevirtual 17, 3) := by decide +kernel
theorem dL_guild_255 : decode cL_guild 255 = .ok (.ifCond .ne 195, 3) := by decide +kernel
theorem dL_guild_258 : decode cL_guild 258 = .ok (.aload_n 0, 1) := by decide +kernel
theorem dL_guild_259 : decode cL_guild 259 = .ok (.iconst 1, 1) := by decide +kernel
theorem dL_guild_260 : decode cL_guild 260 = .ok (.invokevirtual 31, 3) := by decide +kernel
theorem dL_guild_263 : decode cL_guild 263 = .ok (.iconst 1, 1) := by decide +kernel
theorem dL_guild_264 : decode cL_guild 264 = .ok (.if_icmp .ne 186, 3) := by decide +kernel
theorem dL_guild_267 : decode cL_guild 267 = .ok (.aload_n 0, 1) := by decide +kernel
theorem dL_guild_268 : decode cL_guild 268 = .ok (.iconst 1, 1) := by decide +kernel
theorem dL_guild_269 : decode cL_guild 269 = .ok (.iconst 1, 1) := by decide +kernel
theorem dL_guild_270 : decode cL_guild 270 = .ok (.invokevirtual 43, 3) := by decide +kernel
theorem dL_guild_273 : decode cL_guild 273 = .ok (.bipush 7, 2) := by decide +kernel
theorem dL_guild_275 : decode cL_guild 275 = .ok (.if_icmp .ne 175, 3) := by decide +kernel
theorem dL_guild_278 : decode cL_guild 278 = .ok (.aload_n 0, 1) := by decide +kernel
theorem dL_guild_279 : decode cL_guild 279 = .ok (.iconst 1, 1) := by decide +kernel
theorem dL_guild_280 : decode cL_guild 280 = .ok (.iconst 2, 1) := by decide +kernel
theorem dL_guild_281 : decode cL_guild 281 = .ok (.invokevirtual 43, 3) := by decide +kernel
theorem dL_guild_284 : decode cL_guild 284 = .ok (.bipush 8, 2) := by decide +kernel
theorem dL_guild_286 : decode cL_guild 286 = .ok (.if_icmp .ne 164, 3) := by decide +kernel
theorem dL_guild_289 : decode cL_guild 289 = .ok (.aload_n 0, 1) := by decide +kernel
theorem dL_guild_290 : decode cL_guild 290 = .ok (.iconst 1, 1) := by decide +kernel
theorem dL_guild_291 : decode cL_guild 291 = .ok (.iconst 3, 1) := by decide +kernel
theorem dL_guild_292 : decode cL_guild 292 = .ok (.invokevirtual 43, 3) := by decide +kernel
theorem dL_guild_295 : decode cL_guild 295 = .ok (.iconst 5, 1) := by decide +kernel
theorem dL_guild_296 : decode cL_guild 296 = .ok (.if_icmp .ne 154, 3) := by decide +kernel
theorem dL_guild_299 : decode cL_guild 299 = .ok (.aload_n 0, 1) := by decide +kernel
theorem dL_guild_300 : decode cL_guild 300 = .ok (.iconst 1, 1) := by decide +kernel
theorem dL_guild_301 : decode cL_guild 301 = .ok (.bipush 10, 2) := by decide +kernel
theorem dL_guild_303 : decode cL_guild 303 = .ok (.invokevirtual 43, 3) := by decide +kernel
theorem dL_guild_306 : decode cL_guild 306 = .ok (.bipush 10, 2) := by decide +kernel
theorem dL_guild_308 : decode cL_guild 308 = .ok (.if_icmp .ne 142, 3) := by decide +kernel
theorem dL_guild_311 : decode cL_guild 311 = .ok (.aload_n 0, 1) := by decide +kernel
theorem dL_guild_312 : decode cL_guild 312 = .ok (.iconst 1, 1) := by decide +kernel
theorem dL_guild_313 : decode cL_guild 313 = .ok (.bipush 15, 2) := by decide +kernel
theorem dL_guild_315 : decode cL_guild 315 = .ok (.invokevirtual 43, 3) := by decide +kernel
theorem dL_guild_318 : decode cL_guild 318 = .ok (.ifCond .ne 132, 3) := by decide +kernel
theorem dL_guild_321 : decode cL_guild 321 = .ok (.aload_n 0, 1) := by decide +kernel
theorem dL_guild_322 : decode cL_guild 322 = .ok (.iconst 1, 1) := by decide +kernel
theorem dL_guild_323 : decode cL_guild 323 = .ok (.invokevirtual 46, 3) := by decide +kernel
theorem dL_guild_326 : decode cL_guild 326 = .ok (.ifCond .eq 124, 3) := by decide +kernel
theorem dL_guild_329 : decode cL_guild 329 = .ok (.aload_n 0, 1) := by decide +kernel
theorem dL_guild_330 : decode cL_guild 330 = .ok (.iconst 1, 1) := by decide +kernel
theorem dL_guild_331 : decode cL_guild 331 = .ok (.invokevirtual 50, 3) := by decide +kernel
theorem dL_guild_334 : decode cL_guild 334 = .ok (.ifCond .ne 116, 3) := by decide +kernel
theorem dL_guild_337 : decode cL_guild 337 = .ok (.aload_n 0, 1) := by decide +kernel
theorem dL_guild_338 : decode cL_guild 338 = .ok (.iconst 1, 1) := by decide +kernel
theorem dL_guild_339 : decode cL_guild 339 = .ok (.iconst 0, 1) := by decide +kernel
theorem dL_guild_340 : decode cL_guild 340 = .ok (.iconst 0, 1) := by decide +kernel
theorem dL_guild_341 : decode cL_guild 341 = .ok (.bipush 15, 2) := by decide +kernel
theorem dL_guild_343 : decode cL_guild 343 = .ok (.invokestatic 109, 3) := by decide +kernel
theorem dL_guild_346 : decode cL_guild 346 = .ok (.ifCond .eq 104, 3) := by decide +kernel
theorem dL_guild_349 : decode cL_guild 349 = .ok (.aload_n 0, 1) := by decide +kernel
theorem dL_guild_350 : decode cL_guild 350 = .ok (.iconst 0, 1) := by decide +kernel
theorem dL_guild_351 : decode cL_guild 351 = .ok (.bipush (-4), 2) := by decide +kernel
theorem dL_guild_353 : decode cL_guild 353 = .ok (.invokevirtual 27, 3) := by decide +kernel
theorem dL_guild_356 : decode cL_guild 356 = .ok (.ifCond .ne 94, 3) := by decide +kernel
theorem dL_guild_359 : decode cL_guild 359 = .ok (.aload_n 0, 1) := by decide +kernel
theorem dL_guild_360 : decode cL_guild 360 = .ok (.iconst 1, 1) := by decide +kernel
theorem dL_guild_361 : decode cL_guild 361 = .ok (.iconst 3, 1) := by decide +kernel
theorem dL_guild_362 : decode cL_guild 362 = .ok (.invokevirtual 27, 3) := by decide +kernel
theorem dL_guild_365 : decode cL_guild 365 = .ok (.ifCond .ne 85, 3) := by decide +kernel
theorem dL_guild_368 : decode cL_guild 368 = .ok (.aload_n 0, 1) := by decide +kernel
theorem dL_guild_369 : decode cL_guild 369 = .ok (.iconst 2, 1) := by decide +kernel
theorem dL_guild_370 : decode cL_guild 370 = .ok (.bipush 9, 2) := by decide +kernel
theorem dL_guild_372 : decode cL_guild 372 = .ok (.invokevirtual 27, 3) := by decide +kernel
theorem dL_guild_375 : decode cL_guild 375 = .ok (.ifCond .ne 75, 3) := by decide +kernel
theorem dL_guild_378 : decode cL_guild 378 = .ok (.aload_n 0, 1) := by decide +kernel
theorem dL_guild_379 : decode cL_guild 379 = .ok (.iconst 2, 1) := by decide +kernel
theorem dL_guild_380 : decode cL_guild 380 = .ok (.iconst (-1), 1) := by decide +kernel
theorem dL_guild_381 : decode cL_guild 381 = .ok (.invokevirtual 27, 3) := by decide +kernel
theorem dL_guild_384 : decode cL_guild 384 = .ok (.bipush 9, 2) := by decide +kernel
theorem dL_guild_386 : decode cL_guild 386 = .ok (.if_icmp .ne 64, 3) := by decide +kernel
theorem dL_guild_389 : decode cL_guild 389 = .ok (.aload_n 0, 1) := by decide +kernel
theorem dL_guild_390 : decode cL_guild 390 = .ok (.iconst 4, 1) := by decide +kernel
theorem dL_guild_391 : decode cL_guild 391 = .ok (.invokevirtual 31, 3) := by decide +kernel
theorem dL_guild_394 : decode cL_guild 394 = .ok (.iconst 2, 1) := by decide +kernel
theorem dL_guild_395 : decode cL_guild 395 = .ok (.if_icmp .ne 55, 3) := by decide +kernel
theorem dL_guild_398 : decode cL_guild 398 = .ok (.aload_n 0, 1) := by decide +kernel
theorem dL_guild_399 : decode cL_guild 399 = .ok (.iconst 2, 1) := by decide +kernel
theorem dL_guild_400 : decode cL_guild 400 = .ok (.bipush 15, 2) := by decide +kernel
theorem dL_guild_402 : decode cL_guild 402 = .ok (.invokevirtual 43, 3) := by decide +kernel
theorem dL_guild_405 : decode cL_guild 405 = .ok (.bipush (-2), 2) := by decide +kernel
theorem dL_guild_407 : decode cL_guild 407 = .ok (.if_icmp .ne 43, 3) := by decide +kernel
theorem dL_guild_410 : decode cL_guild 410 = .ok (.aload_n 0, 1) := by decide +kernel
theorem dL_guild_411 : decode cL_guild 411 = .ok (.iconst 2, 1) := by decide +kernel
theorem dL_guild_412 : decode cL_guild 412 = .ok (.bipush 10, 2) := by decide +kernel
theorem dL_guild_414 : decode cL_guild 414 = .ok (.invokevirtual 43, 3) := by decide +kernel
theorem dL_guild_417 : decode cL_guild 417 = .ok (.iconst 3, 1) := by decide +kernel
theorem dL_guild_418 : decode cL_guild 418 = .ok (.if_icmp .ne 32, 3) := by decide +kernel
theorem dL_guild_421 : decode cL_guild 421 = .ok (.aload_n 0, 1) := by decide +kernel
theorem dL_guild_422 : decode cL_guild 422 = .ok (.iconst 2, 1) := by decide +kernel
theorem dL_guild_423 : decode cL_guild 423 = .ok (.invokevirtual 46, 3) := by decide +kernel
theorem dL_guild_426 : decode cL_guild 426 = .ok (.ifCond .eq 24, 3) := by decide +kernel
theorem dL_guild_429 : decode cL_guild 429 = .ok (.aload_n 0, 1) := by decide +kernel
theorem dL_guild_430 : decode cL_guild 430 = .ok (.iconst 2, 1) := by decide +kernel
theorem dL_guild_431 : decode cL_guild 431 = .ok (.invokevirtual 50, 3) := by decide +kernel
theorem dL_guild_434 : decode cL_guild 434 = .ok (.ifCond .ne 16, 3) := by decide +kernel
theorem dL_guild_437 : decode cL_guild 437 = .ok (.aload_n 0, 1) := by decide +kernel
theorem dL_guild_438 : decode cL_guild 438 = .ok (.iconst 2, 1) := by decide +kernel
theorem dL_guild_439 : decode cL_guild 439 = .ok (.bipush (-5), 2) := by decide +kernel
theorem dL_guild_441 : decode cL_guild 441 = .ok (.iconst 5, 1) := by decide +kernel
theorem dL_guild_442 : decode cL_guild 442 = .ok (.bipush 13, 2) := by decide +kernel
theorem dL_guild_444 : decode cL_guild 444 = .ok (.invokestatic 109, 3) := by decide +kernel
theorem dL_guild_447 : decode cL_guild 447 = .ok (.ifCond .ne 5, 3) := by decide +kernel
theorem dL_guild_450 : decode cL_guild 450 = .ok (.iconst 0, 1) := by decide +kernel
theorem dL_guild_451 : decode cL_guild 451 = .ok (.ireturn, 1) := by decide +kernel
theorem dL_guild_452 : decode cL_guild 452 = .ok (.aload_n 0, 1) := by decide +kernel
theorem dL_guild_453 : decode cL_guild 453 = .ok (.iconst 1, 1) := by decide +kernel
theorem dL_guild_454 : decode cL_guild 454 = .ok (.iconst 2, 1) := by decide +kernel
theorem dL_guild_455 : decode cL_guild 455 = .ok (.invokevirtual 34, 3) := by decide +kernel
theorem dL_guild_458 : decode cL_guild 458 = .ok (.iconst 3, 1) := by decide +kernel
theorem dL_guild_459 : decode cL_guild 459 = .ok (.if_icmp .ne 477, 3) := by decide +kernel
theorem dL_guild_462 : decode cL_guild 462 = .ok (.aload_n 0, 1) := by decide +kernel
theorem dL_guild_463 : decode cL_guild 463 = .ok (.iconst 3, 1) := by decide +kernel
theorem dL_guild_464 : decode cL_guild 464 = .ok (.iconst 1, 1) := by decide +kernel
theorem dL_guild_465 : decode cL_guild 465 = .ok (.invokevirtual 43, 3) := by decide +kernel
theorem dL_guild_468 : decode cL_guild 468 = .ok (.iconst 3, 1) := by decide +kernel
theorem dL_guild_469 : decode cL_guild 469 = .ok (.if_icmp .ne 467, 3) := by decide +kernel
theorem dL_guild_472 : decode cL_guild 472 = .ok (.aload_n 0, 1) := by decide +kernel
theorem dL_guild_473 : decode cL_guild 473 = .ok (.iconst 3, 1) := by decide +kernel
theorem dL_guild_474 : decode cL_guild 474 = .ok (.bipush 7, 2) := by decide +kernel
theorem dL_guild_476 : decode cL_guild 476 = .ok (.invokevirtual 43, 3) := by decide +kernel
theorem dL_guild_479 : decode cL_guild 479 = .ok (.ifCond .ne 457, 3) := by decide +kernel
theorem dL_guild_482 : decode cL_guild 482 = .ok (.aload_n 0, 1) := by decide +kernel
theorem dL_guild_483 : decode cL_guild 483 = .ok (.iconst 3, 1) := by decide +kernel
theorem dL_guild_484 : decode cL_guild 484 = .ok (.bipush 9, 2) := by decide +kernel
theorem dL_guild_486 : decode cL_guild 486 = .ok (.invokevirtual 43, 3) := by decide +kernel
theorem dL_guild_489 : decode cL_guild 489 = .ok (.iconst 1, 1) := by decide +kernel
theorem dL_guild_490 : decode cL_guild 490 = .ok (.if_icmp .ne 446, 3) := by decide +kernel
theorem dL_guild_493 : decode cL_guild 493 = .ok (.aload_n 0, 1) := by decide +kernel
theorem dL_guild_494 : decode cL_guild 494 = .ok (.iconst 3, 1) := by decide +kernel
theorem dL_guild_495 : decode cL_guild 495 = .ok (.bipush 15, 2) := by decide +kernel
theorem dL_guild_497 : decode cL_guild 497 = .ok (.invokevirtual 43, 3) := by decide +kernel
theorem dL_guild_500 : decode cL_guild 500 = .ok (.bipush (-2), 2) := by decide +kernel
theorem dL_guild_502 : decode cL_guild 502 = .ok (.if_icmp .ne 434, 3) := by decide +kernel
theorem dL_guild_505 : decode cL_guild 505 = .ok (.aload_n 0, 1) := by decide +kernel
theorem dL_guild_506 : decode cL_guild 506 = .ok (.iconst 3, 1) := by decide +kernel
theorem dL_guild_507 : decode cL_guild 507 = .ok (.invokevirtual 46, 3) := by decide +kernel
theorem dL_guild_510 : decode cL_guild 510 = .ok (.ifCond .eq 426, 3) := by decide +kernel
theorem dL_guild_513 : decode cL_guild 513 = .ok (.aload_n 0, 1) := by decide +kernel
theorem dL_guild_514 : decode cL_guild 514 = .ok (.iconst 3, 1) := by decide +kernel
theorem dL_guild_515 : decode cL_guild 515 = .ok (.bipush (-2), 2) := by decide +kernel
theorem dL_guild_517 : decode cL_guild 517 = .ok (.bipush 15, 2) := by decide +kernel
theorem dL_guild_519 : decode cL_guild 519 = .ok (.bipush 15, 2) := by decide +kernel
theorem dL_guild_521 : decode cL_guild 521 = .ok (.invokestatic 109, 3) := by decide +kernel
theorem dL_guild_524 : decode cL_guild 524 = .ok (.ifCond .eq 412, 3) := by decide +kernel
theorem dL_guild_527 : decode cL_guild 527 = .ok (.aload_n 0, 1) := by decide +kernel
theorem dL_guild_528 : decode cL_guild 528 = .ok (.iconst 1, 1) := by decide +kernel
theorem dL_guild_529 : decode cL_guild 529 = .ok (.iconst 1, 1) := by decide +kernel
theorem dL_guild_530 : decode cL_guild 530 = .ok (.invokevirtual 37, 3) := by decide +kernel
theorem dL_guild_533 : decode cL_guild 533 = .ok (.iconst 4, 1) := by decide +kernel
theorem dL_guild_534 : decode cL_guild 534 = .ok (.if_icmp .ne 402, 3) := by decide +kernel
theorem dL_guild_537 : decode cL_guild 537 = .ok (.aload_n 0, 1) := by decide +kernel
theorem dL_guild_538 : decode cL_guild 538 = .ok (.iconst 4, 1) := by decide +kernel
theorem dL_guild_539 : decode cL_guild 539 = .ok (.iconst 0, 1) := by decide +kernel
theorem dL_guild_540 : decode cL_guild 540 = .ok (.invokevirtual 43, 3) := by decide +kernel
theorem dL_guild_543 : decode cL_guild 543 = .ok (.ifCond .ne 393, 3) := by decide +kernel
theorem dL_guild_546 : decode cL_guild 546 = .ok (.aload_n 0, 1) := by decide +kernel
theorem dL_guild_547 : decode cL_guild 547 = .ok (.iconst 4, 1) := by decide +kernel
theorem dL_guild_548 : decode cL_guild 548 = .ok (.iconst 1, 1) := by decide +kernel
theorem dL_guild_549 : decode cL_guild 549 = .ok (.invokevirtual 43, 3) := by decide +kernel
theorem dL_guild_552 : decode cL_guild 552 = .ok (.ifCond .ne 384, 3) := by decide +kernel
theorem dL_guild_555 : decode cL_guild 555 = .ok (.aload_n 0, 1) := by decide +kernel
theorem dL_guild_556 : decode cL_guild 556 = .ok (.iconst 4, 1) := by decide +kernel
theorem dL_guild_557 : decode cL_guild 557 = .ok (.iconst 2, 1) := by decide +kernel
theorem dL_guild_558 : decode cL_guild 558 = .ok (.invokevirtual 43, 3) := by decide +kernel
theorem dL_guild_561 : decode cL_guild 561 = .ok (.bipush (-2), 2) := by decide +kernel
theorem dL_guild_563 : decode cL_guild 563 = .ok (.if_icmp .ne 373, 3) := by decide +kernel
theorem dL_guild_566 : decode cL_guild 566 = .ok (.aload_n 0, 1) := by decide +kernel
theorem dL_guild_567 : decode cL_guild 567 = .ok (.iconst 4, 1) := by decide +kernel
theorem dL_guild_568 : decode cL_guild 568 = .ok (.iconst 3, 1) := by decide +kernel
theorem dL_guild_569 : decode cL_guild 569 = .ok (.invokevirtual 43, 3) := by decide +kernel
theorem dL_guild_572 : decode cL_guild 572 = .ok (.bipush (-2), 2) := by decide +kernel
theorem dL_guild_574 : decode cL_guild 574 = .ok (.if_icmp .ne 362, 3) := by decide +kernel
theorem dL_guild_577 : decode cL_guild 577 = .ok (.aload_n 0, 1) := by decide +kernel
theorem dL_guild_578 : decode cL_guild 578 = .ok (.iconst 4, 1) := by decide +kernel
theorem dL_guild_579 : decode cL_guild 579 = .ok (.bipush 14, 2) := by decide +kernel
theorem dL_guild_581 : decode cL_guild 581 = .ok (.invokevirtual 43, 3) := by decide +kernel
theorem dL_guild_584 : decode cL_guild 584 = .ok (.bipush (-7), 2) := by decide +kernel
theorem dL_guild_586 : decode cL_guild 586 = .ok (.if_icmp .ne 350, 3) := by decide +kernel
theorem dL_guild_589 : decode cL_guild 589 = .ok (.aload_n 0, 1) := by decide +kernel
theorem dL_guild_590 : decode cL_guild 590 = .ok (.iconst 4, 1) := by decide +kernel
theorem dL_guild_591 : decode cL_guild 591 = .ok (.invokevirtual 46, 3) := by decide +kernel
theorem dL_guild_594 : decode cL_guild 594 = .ok (.ifCond .eq 342, 3) := by decide +kernel
theorem dL_guild_597 : decode cL_guild 597 = .ok (.aload_n 0, 1) := by decide +kernel
theorem dL_guild_598 : decode cL_guild 598 = .ok (.iconst 4, 1) := by decide +kernel
theorem dL_guild_599 : decode cL_guild 599 = .ok (.bipush (-7), 2) := by decide +kernel
theorem dL_guild_601 : decode cL_guild 601 = .ok (.bipush 14, 2) := by decide +kernel
theorem dL_guild_603 : decode cL_guild 603 = .ok (.bipush 15, 2) := by decide +kernel
theorem dL_guild_605 : decode cL_guild 605 = .ok (.invokestatic 109, 3) := by decide +kernel
theorem dL_guild_608 : decode cL_guild 608 = .ok (.ifCond .eq 328, 3) := by decide +kernel
theorem dL_guild_611 : decode cL_guild 611 = .ok (.aload_n 0, 1) := by decide +kernel
theorem dL_guild_612 : decode cL_guild 612 = .ok (.iconst 0, 1) := by decide +kernel
theorem dL_guild_613 : decode cL_guild 613 = .ok (.iconst 2, 1) := by decide +kernel
theorem dL_guild_614 : decode cL_guild 614 = .ok (.invokevirtual 40, 3) := by decide +kernel
theorem dL_guild_617 : decode cL_guild 617 = .ok (.iconst 5, 1) := by decide +kernel
theorem dL_guild_618 : decode cL_guild 618 = .ok (.if_icmp .ne 318, 3) := by decide +kernel
theorem dL_guild_621 : decode cL_guild 621 = .ok (.aload_n 0, 1) := by decide +kernel
theorem dL_guild_622 : decode cL_guild 622 = .ok (.iconst 5, 1) := by decide +kernel
theorem dL_guild_623 : decode cL_guild 623 = .ok (.bipush 15, 2) := by decide +kernel
theorem dL_guild_625 : decode cL_guild 625 = .ok (.invokevirtual 43, 3) := by decide +kernel
theorem dL_guild_628 : decode cL_guild 628 = .ok (.iconst 2, 1) := by decide +kernel
theorem dL_guild_629 : decode cL_guild 629 = .ok (.if_icmp .ne 307, 3) := by decide +kernel
theorem dL_guild_632 : decode cL_guild 632 = .ok (.aload_n 0, 1) := by decide +kernel
theorem dL_guild_633 : decode cL_guild 633 = .ok (.iconst 5, 1) := by decide +kernel
theorem dL_guild_634 : decode cL_guild 634 = .ok (.iconst 4, 1) := by decide +kernel
theorem dL_guild_635 : decode cL_guild 635 = .ok (.invokevirtual 43, 3) := by decide +kernel
theorem dL_guild_638 : decode cL_guild 638 = .ok (.iconst 1, 1) := by decide +kernel
theorem dL_guild_639 : decode cL_guild 639 = .ok (.if_icmp .ne 297, 3) := by decide +kernel
theorem dL_guild_642 : decode cL_guild 642 = .ok (.aload_n 0, 1) := by decide +kernel
theorem dL_guild_643 : decode cL_guild 643 = .ok (.iconst 5, 1) := by decide +kernel
theorem dL_guild_644 : decode cL_guild 644 = .ok (.invokevirtual 46, 3) := by decide +kernel
theorem dL_guild_647 : decode cL_guild 647 = .ok (.ifCond .eq 289, 3) := by decide +kernel
theorem dL_guild_650 : decode cL_guild 650 = .ok (.aload_n 0, 1) := by decide +kernel
theorem dL_guild_651 : decode cL_guild 651 = .ok (.iconst 5, 1) := by decide +kernel
theorem dL_guild_652 : decode cL_guild 652 = .ok (.invokevirtual 50, 3) := by decide +kernel
theorem dL_guild_655 : decode cL_guild 655 = .ok (.ifCond .eq 281, 3) := by decide +kernel
theorem dL_guild_658 : decode cL_guild 658 = .ok (.aload_n 0, 1) := by decide +kernel
theorem dL_guild_659 : decode cL_guild 659 = .ok (.iconst 2, 1) := by decide +kernel
theorem dL_guild_660 : decode cL_guild 660 = .ok (.iconst 0, 1) := by decide +kernel
theorem dL_guild_661 : decode cL_guild 661 = .ok (.invokevirtual 40, 3) := by decide +kernel
theorem dL_guild_664 : decode cL_guild 664 = .ok (.bipush 6, 2) := by decide +kernel
theorem dL_guild_666 : decode cL_guild 666 = .ok (.if_icmp .ne 270, 3) := by decide +kernel
theorem dL_guild_669 : decode cL_guild 669 = .ok (.aload_n 0, 1) := by decide +kernel
theorem dL_guild_670 : decode cL_guild 670 = .ok (.bipush 6, 2) := by decide +kernel
theorem dL_guild_672 : decode cL_guild 672 = .ok (.iconst 2, 1) := by decide +kernel
theorem dL_guild_673 : decode cL_guild 673 = .ok (.invokevirtual 43, 3) := by decide +kernel
theorem dL_guild_676 : decode cL_guild 676 = .ok (.ifCond .ne 260, 3) := by decide +kernel
theorem dL_guild_679 : decode cL_guild 679 = .ok (.aload_n 0, 1) := by decide +kernel
theorem dL_guild_680 : decode cL_guild 680 = .ok (.bipush 6, 2) := by decide +kernel
theorem dL_guild_682 : decode cL_guild 682 = .ok (.iconst 3, 1) := by decide +kernel
theorem dL_guild_683 : decode cL_guild 683 = .ok (.invokevirtual 43, 3) := by decide +kernel
theorem dL_guild_686 : decode cL_guild 686 = .ok (.iconst (-1), 1) := by decide +kernel
theorem dL_guild_687 : decode cL_guild 687 = .ok (.if_icmp .ne 249, 3) := by decide +kernel
theorem dL_guild_690 : decode cL_guild 690 = .ok (.aload_n 0, 1) := by decide +kernel
theorem dL_guild_691 : decode cL_guild 691 = .ok (.bipush 6, 2) := by decide +kernel
theorem dL_guild_693 : decode cL_guild 693 = .ok (.iconst 1, 1) := by decide +kernel
theorem dL_guild_694 : decode cL_guild 694 = .ok (.invokevirtual 43, 3) := by decide +kernel
theorem dL_guild_697 : decode cL_guild 697 = .ok (.bipush (-4), 2) := by decide +kernel
theorem dL_guild_699 : decode cL_guild 699 = .ok (.if_icmp .ne 237, 3) := by decide +kernel
theorem dL_guild_702 : decode cL_guild 702 = .ok (.aload_n 0, 1) := by decide +kernel
theorem dL_guild_703 : decode cL_guild 703 = .ok (.bipush 6, 2) := by decide +kernel
theorem dL_guild_705 : decode cL_guild 705 = .ok (.invokevirtual 46, 3) := by decide +kernel
theorem dL_guild_708 : decode cL_guild 708 = .ok (.ifCond .ne 228, 3) := by decide +kernel
theorem dL_guild_711 : decode cL_guild 711 = .ok (.aload_n 0, 1) := by decide +kernel
theorem dL_guild_712 : decode cL_guild 712 = .ok (.bipush 13, 2) := by decide +kernel
theorem dL_guild_714 : decode cL_guild 714 = .ok (.bipush 6, 2) := by decide +kernel
theorem dL_guild_716 : decode cL_guild 716 = .ok (.iconst 0, 1) := by decide +kernel
theorem dL_guild_717 : decode cL_guild 717 = .ok (.iconst 0, 1) := by decide +kernel
theorem dL_guild_718 : decode cL_guild 718 = .ok (.invokestatic 95, 3) := by decide +kernel
theorem dL_guild_721 : decode cL_guild 721 = .ok (.ldc 89, 2) := by decide +kernel
theorem dL_guild_723 : decode cL_guild 723 = .ok (.if_icmp .ne 213, 3) := by decide +kernel
theorem dL_guild_726 : decode cL_guild 726 = .ok (.aload_n 0, 1) := by decide +kernel
theorem dL_guild_727 : decode cL_guild 727 = .ok (.bipush 14, 2) := by decide +kernel
theorem dL_guild_729 : decode cL_guild 729 = .ok (.bipush 6, 2) := by decide +kernel
theorem dL_guild_731 : decode cL_guild 731 = .ok (.iconst 1, 1) := by decide +kernel
theorem dL_guild_732 : decode cL_guild 732 = .ok (.iconst 0, 1) := by decide +kernel
theorem dL_guild_733 : decode cL_guild 733 = .ok (.invokestatic 95, 3) := by decide +kernel
theorem dL_guild_736 : decode cL_guild 736 = .ok (.ldc 89, 2) := by decide +kernel
theorem dL_guild_738 : decode cL_guild 738 = .ok (.if_icmp .ne 198, 3) := by decide +kernel
theorem dL_guild_741 : decode cL_guild 741 = .ok (.aload_n 0, 1) := by decide +kernel
theorem dL_guild_742 : decode cL_guild 742 = .ok (.bipush 15, 2) := by decide +kernel
theorem dL_guild_744 : decode cL_guild 744 = .ok (.bipush 6, 2) := by decide +kernel
theorem dL_guild_746 : decode cL_guild 746 = .ok (.iconst 0, 1) := by decide +kernel
theorem dL_guild_747 : decode cL_guild 747 = .ok (.iconst 0, 1) := by decide +kernel
theorem dL_guild_748 : decode cL_guild 748 = .ok (.invokestatic 95, 3) := by decide +kernel
theorem dL_guild_751 : decode cL_guild 751 = .ok (.ldc 89, 2) := by decide +kernel
theorem dL_guild_753 : decode cL_guild 753 = .ok (.if_icmp .ne 183, 3) := by decide +kernel
theorem dL_guild_756 : decode cL_guild 756 = .ok (.aload_n 0, 1) := by decide +kernel
theorem dL_guild_757 : decode cL_guild 757 = .ok (.iconst 0, 1) := by decide +kernel
theorem dL_guild_758 : decode cL_guild 758 = .ok (.iconst 0, 1) := by decide +kernel
theorem dL_guild_759 : decode cL_guild 759 = .ok (.iconst 1, 1) := by decide +kernel
theorem dL_guild_760 : decode cL_guild 760 = .ok (.invokevirtual 21, 3) := by decide +kernel
theorem dL_guild_763 : decode cL_guild 763 = .ok (.ifCond .ne 173, 3) := by decide +kernel
theorem dL_guild_766 : decode cL_guild 766 = .ok (.aload_n 0, 1) := by decide +kernel
theorem dL_guild_767 : decode cL_guild 767 = .ok (.iconst 0, 1) := by decide +kernel
theorem dL_guild_768 : decode cL_guild 768 = .ok (.iconst 1, 1) := by decide +kernel
theorem dL_guild_769 : decode cL_guild 769 = .ok (.iconst 1, 1) := by decide +kernel
theorem dL_guild_770 : decode cL_guild 770 = .ok (.invokevirtual 21, 3) := by decide +kernel
theorem dL_guild_773 : decode cL_guild 773 = .ok (.ifCond .ne 163, 3) := by decide +kernel
theorem dL_guild_776 : decode cL_guild 776 = .ok (.aload_n 0, 1) := by decide +kernel
theorem dL_guild_777 : decode cL_guild 777 = .ok (.iconst 0, 1) := by decide +kernel
theorem dL_guild_778 : decode cL_guild 778 = .ok (.iconst 2, 1) := by decide +kernel
theorem dL_guild_779 : decode cL_guild 779 = .ok (.iconst 2, 1) := by decide +kernel
theorem dL_guild_780 : decode cL_guild 780 = .ok (.invokevirtual 21, 3) := by decide +kernel
theorem dL_guild_783 : decode cL_guild 783 = .ok (.ifCond .ne 153, 3) := by decide +kernel
theorem dL_guild_786 : decode cL_guild 786 = .ok (.aload_n 0, 1) := by decide +kernel
theorem dL_guild_787 : decode cL_guild 787 = .ok (.iconst 0, 1) := by decide +kernel
theorem dL_guild_788 : decode cL_guild 788 = .ok (.iconst 3, 1) := by decide +kernel
theorem dL_guild_789 : decode cL_guild 789 = .ok (.iconst 2, 1) := by decide +kernel
theorem dL_guild_790 : decode cL_guild 790 = .ok (.invokevirtual 21, 3) := by decide +kernel
theorem dL_guild_793 : decode cL_guild 793 = .ok (.ifCond .ne 143, 3) := by decide +kernel
theorem dL_guild_796 : decode cL_guild 796 = .ok (.aload_n 0, 1) := by decide +kernel
theorem dL_guild_797 : decode cL_guild 797 = .ok (.iconst 0, 1) := by decide +kernel
theorem dL_guild_798 : decode cL_guild 798 = .ok (.iconst 1, 1) := by decide +kernel
theorem dL_guild_799 : decode cL_guild 799 = .ok (.iconst 2, 1) := by decide +kernel
theorem dL_guild_800 : decode cL_guild 800 = .ok (.invokevirtual 24, 3) := by decide +kernel
theorem dL_guild_803 : decode cL_guild 803 = .ok (.iconst 1, 1) := by decide +kernel
theorem dL_guild_804 : decode cL_guild 804 = .ok (.if_icmp .ne 132, 3) := by decide +kernel
theorem dL_guild_807 : decode cL_guild 807 = .ok (.aload_n 0, 1) := by decide +kernel
theorem dL_guild_808 : decode cL_guild 808 = .ok (.iconst 2, 1) := by decide +kernel
theorem dL_guild_809 : decode cL_guild 809 = .ok (.invokevirtual 31, 3) := by decide +kernel
theorem dL_guild_812 : decode cL_guild 812 = .ok (.bipush 7, 2) := by decide +kernel
theorem dL_guild_814 : decode cL_guild 814 = .ok (.if_icmp .ne 122, 3) := by decide +kernel
theorem dL_guild_817 : decode cL_guild 817 = .ok (.aload_n 0, 1) := by decide +kernel
theorem dL_guild_818 : decode cL_guild 818 = .ok (.bipush 7, 2) := by decide +kernel
theorem dL_guild_820 : decode cL_guild 820 = .ok (.bipush 15, 2) := by decide +kernel
theorem dL_guild_822 : decode cL_guild 822 = .ok (.invokevirtual 43, 3) := by decide +kernel
theorem dL_guild_825 : decode cL_guild 825 = .ok (.iconst 3, 1) := by decide +kernel
theorem dL_guild_826 : decode cL_guild 826 = .ok (.if_icmp .ne 110, 3) := by decide +kernel
theorem dL_guild_829 : decode cL_guild 829 = .ok (.aload_n 0, 1) := by decide +kernel
theorem dL_guild_830 : decode cL_guild 830 = .ok (.bipush 7, 2) := by decide +kernel
theorem dL_guild_832 : decode cL_guild 832 = .ok (.bipush 12, 2) := by decide +kernel
theorem dL_guild_834 : decode cL_guild 834 = .ok (.invokevirtual 43, 3) := by decide +kernel
theorem dL_guild_837 : decode cL_guild 837 = .ok (.iconst 1, 1) := by decide +kernel
theorem dL_guild_838 : decode cL_guild 838 = .ok (.if_icmp .ne 98, 3) := by decide +kernel
theorem dL_guild_841 : decode cL_guild 841 = .ok (.aload_n 0, 1) := by decide +kernel
theorem dL_guild_842 : decode cL_guild 842 = .ok (.bipush 7, 2) := by decide +kernel
theorem dL_guild_844 : decode cL_guild 844 = .ok (.iconst 3, 1) := by decide +kernel
theorem dL_guild_845 : decode cL_guild 845 = .ok (.invokevirtual 43, 3) := by decide +kernel
theorem dL_guild_848 : decode cL_guild 848 = .ok (.iconst 2, 1) := by decide +kernel
theorem dL_guild_849 : decode cL_guild 849 = .ok (.if_icmp .ne 87, 3) := by decide +kernel
theorem dL_guild_852 : decode cL_guild 852 = .ok (.aload_n 0, 1) := by decide +kernel
theorem dL_guild_853 : decode cL_guild 853 = .ok (.bipush 7, 2) := by decide +kernel
theorem dL_guild_855 : decode cL_guild 855 = .ok (.invokevirtual 46, 3) := by decide +kernel
theorem dL_guild_858 : decode cL_guild 858 = .ok (.ifCond .eq 78, 3) := by decide +kernel
theorem dL_guild_861 : decode cL_guild 861 = .ok (.aload_n 0, 1) := by decide +kernel
theorem dL_guild_862 : decode cL_guild 862 = .ok (.bipush 7, 2) := by decide +kernel
theorem dL_guild_864 : decode cL_guild 864 = .ok (.invokevirtual 50, 3) := by decide +kernel
theorem dL_guild_867 : decode cL_guild 867 = .ok (.ifCond .eq 69, 3) := by decide +kernel
theorem dL_guild_870 : decode cL_guild 870 = .ok (.aload_n 0, 1) := by decide +kernel
theorem dL_guild_871 : decode cL_guild 871 = .ok (.bipush 6, 2) := by decide +kernel
theorem dL_guild_873 : decode cL_guild 873 = .ok (.iconst 3, 1) := by decide +kernel
theorem dL_guild_874 : decode cL_guild 874 = .ok (.iconst 0, 1) := by decide +kernel
theorem dL_guild_875 : decode cL_guild 875 = .ok (.iconst 0, 1) := by decide +kernel
theorem dL_guild_876 : decode cL_guild 876 = .ok (.invokestatic 95, 3) := by decide +kernel
theorem dL_guild_879 : decode cL_guild 879 = .ok (.ldc 89, 2) := by decide +kernel
theorem dL_guild_881 : decode cL_guild 881 = .ok (.if_icmp .ne 55, 3) := by decide +kernel
theorem dL_guild_884 : decode cL_guild 884 = .ok (.aload_n 0, 1) := by decide +kernel
theorem dL_guild_885 : decode cL_guild 885 = .ok (.bipush 7, 2) := by decide +kernel
theorem dL_guild_887 : decode cL_guild 887 = .ok (.iconst 0, 1) := by decide +kernel
theorem dL_guild_888 : decode cL_guild 888 = .ok (.iconst 0, 1) := by decide +kernel
theorem dL_guild_889 : decode cL_guild 889 = .ok (.iconst 0, 1) := by decide +kernel
theorem dL_guild_890 : decode cL_guild 890 = .ok (.invokestatic 95, 3) := by decide +kernel
theorem dL_guild_893 : decode cL_guild 893 = .ok (.ldc 89, 2) := by decide +kernel
theorem dL_guild_895 : decode cL_guild 895 = .ok (.if_icmp .ne 41, 3) := by decide +kernel
theorem dL_guild_898 : decode cL_guild 898 = .ok (.aload_n 0, 1) := by decide +kernel
theorem dL_guild_899 : decode cL_guild 899 = .ok (.bipush 8, 2) := by decide +kernel
theorem dL_guild_901 : decode cL_guild 901 = .ok (.iconst 0, 1) := by decide +kernel
theorem dL_guild_902 : decode cL_guild 902 = .ok (.iconst 0, 1) := by decide +kernel
theorem dL_guild_903 : decode cL_guild 903 = .ok (.iconst 0, 1) := by decide +kernel
theorem dL_guild_904 : decode cL_guild 904 = .ok (.invokestatic 95, 3) := by decide +kernel
theorem dL_guild_907 : decode cL_guild 907 = .ok (.ldc 89, 2) := by decide +kernel
theorem dL_guild_909 : decode cL_guild 909 = .ok (.if_icmp .ne 27, 3) := by decide +kernel
theorem dL_guild_912 : decode cL_guild 912 = .ok (.aload_n 0, 1) := by decide +kernel
theorem dL_guild_913 : decode cL_guild 913 = .ok (.bipush 9, 2) := by decide +kernel
theorem dL_guild_915 : decode cL_guild 915 = .ok (.iconst 0, 1) := by decide +kernel
theorem dL_guild_916 : decode cL_guild 916 = .ok (.iconst 0, 1) := by decide +kernel
theorem dL_guild_917 : decode cL_guild 917 = .ok (.iconst 0, 1) := by decide +kernel
theorem dL_guild_918 : decode cL_guild 918 = .ok (.invokestatic 95, 3) := by decide +kernel
theorem dL_guild_921 : decode cL_guild 921 = .ok (.ldc 89, 2) := by decide +kernel
theorem dL_guild_923 : decode cL_guild 923 = .ok (.if_icmp .ne 13, 3) := by decide +kernel
theorem dL_guild_926 : decode cL_guild 926 = .ok (.aload_n 0, 1) := by decide +kernel
theorem dL_guild_927 : decode cL_guild 927 = .ok (.iconst 4, 1) := by decide +kernel
theorem dL_guild_928 : decode cL_guild 928 = .ok (.bipush 8, 2) := by decide +kernel
theorem dL_guild_930 : decode cL_guild 930 = .ok (.invokestatic 105, 3) := by decide +kernel
theorem dL_guild_933 : decode cL_guild 933 = .ok (.ifCond .ne 5, 3) := by decide +kernel
theorem dL_guild_936 : decode cL_guild 936 = .ok (.iconst 0, 1) := by decide +kernel
theorem dL_guild_937 : decode cL_guild 937 = .ok (.ireturn, 1) := by decide +kernel
theorem dL_guild_938 : decode cL_guild 938 = .ok (.aload_n 0, 1) := by decide +kernel
theorem dL_guild_939 : decode cL_guild 939 = .ok (.invokestatic 112, 3) := by decide +kernel
theorem dL_guild_942 : decode cL_guild 942 = .ok (.ifCond .eq 20, 3) := by decide +kernel
theorem dL_guild_945 : decode cL_guild 945 = .ok (.aload_n 0, 1) := by decide +kernel
theorem dL_guild_946 : decode cL_guild 946 = .ok (.invokestatic 116, 3) := by decide +kernel
theorem dL_guild_949 : decode cL_guild 949 = .ok (.ifCond .eq 13, 3) := by decide +kernel
theorem dL_guild_952 : decode cL_guild 952 = .ok (.invokestatic 119, 3) := by decide +kernel
theorem dL_guild_955 : decode cL_guild 955 = .ok (.ifCond .eq 7, 3) := by decide +kernel
theorem dL_guild_958 : decode cL_guild 958 = .ok (.iconst 1, 1) := by decide +kernel
theorem dL_guild_959 : decode cL_guild 959 = .ok (.goto 4, 3) := by decide +kernel
theorem dL_guild_962 : decode cL_guild 962 = .ok (.iconst 0, 1) := by decide +kernel
theorem dL_guild_963 : decode cL_guild 963 = .ok (.ireturn, 1) := by decide +kernel

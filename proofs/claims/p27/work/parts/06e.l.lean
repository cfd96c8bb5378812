set_option maxRecDepth 20000 in
theorem ggL_law_L_guild : GoodIn wsL_law wsL_guild := goodIn_ca (goodIn_ca (goodIn_ca (goodIn_r _ [8, 0, 1, 2, 4, 9, 10, 11, 12, 13, 14, 15, 16, 17, 18, 19, 20, 21, 22, 23, 24, 25, 26, 27, 28, 29, 30, 31, 32, 33, 7, 34, 35, 3, 36, 37, 38, 39, 40, 41, 42, 43, 44, 45, 46, 47, 48, 49, 50, 51, 52, 53, 54, 55, 56, 57, 58, 59, 60, 61, 62, 63, 64, 65, 66, 67, 68, 69, 70, 71, 72, 73, 74, 75, 76, 77, 78, 79, 80, 81, 82, 83, 84, 85, 86, 87, 88, 89, 90, 91, 92, 93, 94, 95, 96, 97, 98, 99, 100, 101, 102, 103, 104, 105, 106, 107, 108, 109, 110, 111, 112, 113, 114, 115, 116, 117, 118, 119, 120, 121, 122, 123, 124, 125, 126, 127, 128, 129, 130, 131, 132, 133, 134, 135, 136, 137, 138, 139, 140, 141, 142, 143, 144, 145, 146, 147, 148, 149, 150, 151, 152, 153, 154, 155, 156, 157, 158, 159, 160, 161, 162, 163, 164, 165, 166, 167, 168, 169, 170, 171, 172, 173, 174, 175, 176, 177, 178, 179, 180, 181, 182, 183, 184, 185, 186, 187, 188, 189, 190, 191, 192, 193, 194, 195, 196, 197, 198, 199, 200, 201, 202, 203, 204, 205, 206, 207, 208, 209, 210, 211, 212, 213, 214, 215, 216, 217, 218, 219, 220, 221, 222, 223, 224, 225, 226, 227, 228, 229, 230, 231, 232, 233, 234, 235, 236, 237, 238, 239, 240, 241, 242, 243, 244, 245, 246, 247, 248, 249, 250, 251, 252, 253, 254, 255, 256, 257, 258, 259, 260, 261, 262, 263, 264, 265, 266, 267, 268, 269, 270, 271, 272, 273, 274, 275, 276, 277, 278, 279, 280, 281, 282, 283, 284, 285, 286, 287, 288, 289, 290, 291, 292, 293, 294, 295, 296, 297, 298, 299, 300, 301, 302, 303, 304, 305, 306, 307, 308, 309, 310, 311, 312, 313, 314, 315, 316, 317, 318, 319, 320, 321, 322, 323, 324, 325, 326, 327, 328, 329, 330, 331, 332, 333, 334, 335, 336, 337, 338, 339, 340, 341, 342, 343, 344, 345, 346, 347, 348, 349, 350, 351, 352, 353, 354, 355, 356, 357, 358, 359, 360, 361] rfl (by decide +kernel)) (goodIn_sub (fun _ h => List.mem_append_left _ (List.mem_append_left _ (List.mem_append_right _ h))) (by decide +kernel))) (goodIn_sub (fun _ h => List.mem_append_left _ (List.mem_append_right _ h)) (by decide +kernel))) (goodIn_sub (fun _ h => List.mem_append_right _ h) (by decide +kernel))
set_option maxRecDepth 20000 in
theorem gL_law_L_guild : GoodIn wsL_law (va_wsS RL 126 yL_guild wsL_guild) := goodIn_app (goodIn_of _ (by decide +kernel)) ggL_law_L_guild
set_option maxRecDepth 20000 in
theorem ggL_law_X0_init : GoodIn wsL_law wsX0_init := goodIn_r _ [11, 12, 13, 14, 15, 16, 17, 18, 19, 20, 21, 22, 23, 24, 25, 26, 27, 28, 29, 30, 31, 350, 351, 352, 353, 354, 355, 356, 357, 358, 359, 360, 361] (by decide +kernel) (by decide +kernel)
set_option maxRecDepth 20000 in
theorem gL_law_X0_init : GoodIn wsL_law (wsX0_init) := ggL_law_X0_init
set_option maxRecDepth 20000 in
theorem ggL_law_X0_elements : GoodIn wsL_law wsX0_elements := goodIn_ca (goodIn_r _ [102, 15, 16, 17, 19, 20, 21, 22, 23, 103, 104, 2, 105, 106, 107, 108, 109, 110, 28, 29, 30, 31, 350, 351, 352, 353, 354, 355, 356, 357, 358, 359, 360, 361] (by decide +kernel) (by decide +kernel)) (goodIn_sub (fun _ h => List.mem_append_left _ (List.mem_append_left _ (List.mem_append_right _ h))) (by decide +kernel))
set_option maxRecDepth 20000 in
theorem gL_law_X0_elements : GoodIn wsL_law (wsV RL 7 RX0 yX0_elements wsX0_elements) := goodIn_app (goodIn_of _ (by decide +kernel)) ggL_law_X0_elements
set_option maxRecDepth 20000 in
theorem ggL_law_X0_cover : GoodIn wsL_law wsX0_cover := goodIn_ca (goodIn_r _ [114, 19, 115, 116, 117, 2, 118, 15, 103, 104, 105, 119, 120, 121, 122, 123, 57, 58, 59, 124, 125, 126, 127, 128, 129, 71, 72, 73, 60, 61, 62, 350, 351, 352, 353, 354, 355, 356, 357, 358, 359, 360, 361] (by decide +kernel) (by decide +kernel)) (goodIn_sub (fun _ h => List.mem_append_left _ (List.mem_append_right _ h)) (by decide +kernel))
set_option maxRecDepth 20000 in
theorem gL_law_X0_cover : GoodIn wsL_law (wsV RL 13 RX0 yX0_cover wsX0_cover) := goodIn_app (goodIn_of _ (by decide +kernel)) ggL_law_X0_cover
set_option maxRecDepth 20000 in
theorem ggL_law_L_act : GoodIn wsL_law wsL_act := goodIn_ca (goodIn_ca (goodIn_ca (goodIn_r _ [95, 96, 97, 98, 36, 3, 4, 99, 100, 101, 2, 102, 15, 16, 17, 19, 20, 21, 22, 23, 103, 104, 105, 106, 107, 108, 109, 110, 28, 29, 30, 31, 111, 112, 113, 114, 115, 116, 117, 118, 119, 120, 121, 122, 123, 57, 58, 59, 124, 125, 126, 127, 128, 129, 71, 72, 73, 60, 61, 62, 130, 131, 132, 133, 134, 135, 136, 137, 138, 139, 140, 141, 142, 143, 144, 145, 146, 147, 53, 54, 55, 56, 148, 149, 150, 151, 67, 68, 69, 70, 152, 153, 154, 155, 156, 157, 158, 159, 160, 161, 162, 163, 164, 165, 166, 167, 168, 169, 170, 171, 172, 173, 174, 175, 176, 177, 178, 179, 180, 82, 83, 84, 85, 86, 87, 88, 181, 182, 183, 184, 185, 186, 187, 188, 189, 190, 191, 192, 63, 64, 65, 66, 193, 194, 195, 196, 197, 198, 199, 200, 24, 201, 202, 203, 204, 205, 206, 207, 208, 209, 210, 211, 212, 213, 214, 215, 216, 217, 218, 219, 220, 221, 222, 223, 224, 225, 226, 227, 228, 229, 230, 231, 232, 233, 234, 235, 236, 237, 238, 239, 240, 241, 242, 243, 244, 245, 246, 247, 248, 249, 250, 251, 252, 253, 254, 255, 256, 257, 258, 259, 260, 261, 262, 263, 264, 265, 266, 267, 268, 269, 270, 271, 272, 273, 274, 275, 276, 277, 278, 279, 280, 281, 282, 283, 284, 25, 285, 286, 287, 288, 289, 290, 291, 292, 293, 294, 295, 296, 297, 298, 299, 300, 301, 302, 303, 304, 305, 306, 307, 308, 309, 310, 311, 312, 313, 314, 315, 316, 317, 318, 319, 320, 321, 322, 323, 324, 325, 326, 350, 351, 352, 353, 354, 355, 356, 357, 358, 359, 360, 361] rfl (by decide +kernel)) (goodIn_sub (fun _ h => List.mem_append_left _ (List.mem_append_left _ (List.mem_append_right _ h))) (by decide +kernel))) (goodIn_sub (fun _ h => List.mem_append_left _ (List.mem_append_right _ h)) (by decide +kernel))) (goodIn_sub (fun _ h => List.mem_append_right _ h) (by decide +kernel))
set_option maxRecDepth 20000 in
theorem gL_law_L_act : GoodIn wsL_law (va_wsS RL 95 yL_act wsL_act) := goodIn_app (goodIn_of _ (by decide +kernel)) ggL_law_L_act
set_option maxRecDepth 20000 in
theorem ggL_law_X0_colour : GoodIn wsL_law wsX0_colour := goodIn_ca (goodIn_r _ [141, 21, 142, 143, 2, 144, 115, 116, 117, 118, 15, 145, 146, 147, 119, 120, 121, 122, 123, 53, 54, 55, 56, 57, 58, 59, 71, 72, 73, 350, 351, 352, 353, 354, 355, 356, 357, 358, 359, 360, 361] (by decide +kernel) (by decide +kernel)) (goodIn_sub (fun _ h => List.mem_append_left _ (List.mem_append_right _ h)) (by decide +kernel))
set_option maxRecDepth 20000 in
theorem gL_law_X0_colour : GoodIn wsL_law (wsV RL 21 RX0 yX0_colour wsX0_colour) := goodIn_app (goodIn_of _ (by decide +kernel)) ggL_law_X0_colour
set_option maxRecDepth 20000 in
theorem ggL_law_X0_room : GoodIn wsL_law wsX0_room := goodIn_ca (goodIn_ca (goodIn_r _ [151, 22, 142, 143, 2, 144, 145, 146, 147, 119, 120, 121, 122, 123, 103, 104, 105, 106, 107, 108, 109, 110, 67, 68, 69, 70, 57, 58, 59, 71, 72, 73, 350, 351, 352, 353, 354, 355, 356, 357, 358, 359, 360, 361] (by decide +kernel) (by decide +kernel)) (goodIn_sub (fun _ h => List.mem_append_left _ (List.mem_append_right _ h)) (by decide +kernel))) (goodIn_sub (fun _ h => List.mem_append_left _ (List.mem_append_left _ (List.mem_append_right _ h))) (by decide +kernel))
set_option maxRecDepth 20000 in
theorem gL_law_X0_room : GoodIn wsL_law (wsV RL 24 RX0 yX0_room wsX0_room) := goodIn_app (goodIn_of _ (by decide +kernel)) ggL_law_X0_room
set_option maxRecDepth 20000 in
theorem ggL_law_X0_weigh : GoodIn wsL_law wsX0_weigh := goodIn_ca (goodIn_ca (goodIn_r _ [155, 23, 115, 116, 117, 2, 118, 15, 119, 120, 121, 122, 123, 103, 104, 105, 106, 107, 108, 109, 110, 57, 58, 59, 71, 72, 73, 350, 351, 352, 353, 354, 355, 356, 357, 358, 359, 360, 361] (by decide +kernel) (by decide +kernel)) (goodIn_sub (fun _ h => List.mem_append_left _ (List.mem_append_right _ h)) (by decide +kernel))) (goodIn_sub (fun _ h => List.mem_append_left _ (List.mem_append_left _ (List.mem_append_right _ h))) (by decide +kernel))
set_option maxRecDepth 20000 in
theorem gL_law_X0_weigh : GoodIn wsL_law (wsV RL 27 RX0 yX0_weigh wsX0_weigh) := goodIn_app (goodIn_of _ (by decide +kernel)) ggL_law_X0_weigh
set_option maxRecDepth 20000 in
theorem ggL_law_X0_value : GoodIn wsL_law wsX0_value := goodIn_ca (goodIn_ca (goodIn_r _ [232, 209, 210, 211, 2, 212, 16, 119, 120, 121, 122, 123, 221, 222, 223, 224, 169, 170, 171, 172, 15, 106, 107, 108, 109, 110, 213, 214, 215, 216, 24, 57, 58, 59, 350, 351, 352, 353, 354, 355, 356, 357, 358, 359, 360, 361] (by decide +kernel) (by decide +kernel)) (goodIn_sub (fun _ h => List.mem_append_left _ (List.mem_append_right _ h)) (by decide +kernel))) (goodIn_sub (fun _ h => List.mem_append_left _ (List.mem_append_left _ (List.mem_append_right _ h))) (by decide +kernel))
set_option maxRecDepth 20000 in
theorem gL_law_X0_value : GoodIn wsL_law (wsV RL 43 RX0 yX0_value wsX0_value) := goodIn_app (goodIn_of _ (by decide +kernel)) ggL_law_X0_value
set_option maxRecDepth 20000 in
theorem ggL_law_X0_isLawful : GoodIn wsL_law wsX0_isLawful := goodIn_ca (goodIn_r _ [236, 209, 210, 211, 2, 212, 16, 119, 120, 121, 122, 123, 237, 238, 239, 240, 169, 170, 171, 172, 15, 241, 242, 243, 244, 60, 61, 62, 245, 246, 247, 248, 124, 125, 126, 213, 214, 215, 216, 24, 57, 58, 59, 350, 351, 352, 353, 354, 355, 356, 357, 358, 359, 360, 361] (by decide +kernel) (by decide +kernel)) (goodIn_sub (fun _ h => List.mem_append_left _ (List.mem_append_right _ h)) (by decide +kernel))
set_option maxRecDepth 20000 in
theorem gL_law_X0_isLawful : GoodIn wsL_law (wsV RL 46 RX0 yX0_isLawful wsX0_isLawful) := goodIn_app (goodIn_of _ (by decide +kernel)) ggL_law_X0_isLawful
set_option maxRecDepth 20000 in
theorem ggL_law_X0_rises : GoodIn wsL_law wsX0_rises := goodIn_ca (goodIn_r _ [252, 15, 209, 210, 211, 2, 212, 16, 119, 120, 121, 122, 123, 169, 170, 171, 172, 245, 246, 247, 248, 124, 125, 126, 213, 214, 215, 216, 24, 57, 58, 59, 350, 351, 352, 353, 354, 355, 356, 357, 358, 359, 360, 361] (by decide +kernel) (by decide +kernel)) (goodIn_sub (fun _ h => List.mem_append_left _ (List.mem_append_right _ h)) (by decide +kernel))
set_option maxRecDepth 20000 in
theorem gL_law_X0_rises : GoodIn wsL_law (wsV RL 50 RX0 yX0_rises wsX0_rises) := goodIn_app (goodIn_of _ (by decide +kernel)) ggL_law_X0_rises
set_option maxRecDepth 20000 in
theorem ggL_law_X0_least : GoodIn wsL_law wsX0_least := goodIn_ca (goodIn_ca (goodIn_r _ [256, 209, 210, 211, 2, 212, 16, 119, 120, 121, 122, 123, 237, 238, 239, 240, 169, 170, 171, 172, 15, 241, 242, 243, 244, 60, 61, 62, 245, 246, 247, 248, 124, 125, 126, 213, 214, 215, 216, 24, 57, 58, 59, 164, 165, 166, 167, 168, 257, 258, 259, 260, 261, 262, 263, 264, 265, 266, 267, 268, 127, 128, 129, 269, 270, 271, 272, 350, 351, 352, 353, 354, 355, 356, 357, 358, 359, 360, 361] (by decide +kernel) (by decide +kernel)) (goodIn_sub (fun _ h => List.mem_append_left _ (List.mem_append_right _ h)) (by decide +kernel))) (goodIn_sub (fun _ h => List.mem_append_right _ h) (by decide +kernel))
set_option maxRecDepth 20000 in
theorem gL_law_X0_least : GoodIn wsL_law (wsV RL 53 RX0 yX0_least wsX0_least) := goodIn_app (goodIn_of _ (by decide +kernel)) ggL_law_X0_least
set_option maxRecDepth 20000 in
theorem ggL_law_X0_greedy : GoodIn wsL_law wsX0_greedy := goodIn_ca (goodIn_ca (goodIn_r _ [300, 209, 210, 211, 2, 212, 16, 119, 120, 121, 122, 123, 103, 104, 105, 106, 107, 108, 109, 110, 301, 302, 303, 304, 15, 245, 246, 247, 248, 124, 125, 126, 213, 214, 215, 216, 24, 57, 58, 59, 350, 351, 352, 353, 354, 355, 356, 357, 358, 359, 360, 361] (by decide +kernel) (by decide +kernel)) (goodIn_sub (fun _ h => List.mem_append_left _ (List.mem_append_right _ h)) (by decide +kernel))) (goodIn_sub (fun _ h => List.mem_append_left _ (List.mem_append_left _ (List.mem_append_right _ h))) (by decide +kernel))
set_option maxRecDepth 20000 in
theorem gL_law_X0_greedy : GoodIn wsL_law (wsV RL 69 RX0 yX0_greedy wsX0_greedy) := goodIn_app (goodIn_of _ (by decide +kernel)) ggL_law_X0_greedy
set_option maxRecDepth 20000 in
theorem ggL_law_X0_best : GoodIn wsL_law wsX0_best := goodIn_ca (goodIn_ca (goodIn_r _ [308, 309, 310, 191, 311, 209, 210, 211, 2, 212, 16, 119, 120, 121, 122, 123, 103, 104, 105, 106, 107, 108, 109, 110, 169, 170, 171, 172, 15, 82, 83, 84, 85, 86, 87, 88, 213, 214, 215, 216, 24, 57, 58, 59, 350, 351, 352, 353, 354, 355, 356, 357, 358, 359, 360, 361] (by decide +kernel) (by decide +kernel)) (goodIn_sub (fun _ h => List.mem_append_left _ (List.mem_append_right _ h)) (by decide +kernel))) (goodIn_sub (fun _ h => List.mem_append_left _ (List.mem_append_left _ (List.mem_append_right _ h))) (by decide +kernel))
set_option maxRecDepth 20000 in
theorem gL_law_X0_best : GoodIn wsL_law (wsV RL 72 RX0 yX0_best wsX0_best) := goodIn_app (goodIn_of _ (by decide +kernel)) ggL_law_X0_best
set_option maxRecDepth 20000 in
theorem ggL_law_X0_leastSet : GoodIn wsL_law wsX0_leastSet := goodIn_ca (goodIn_ca (goodIn_r _ [276, 209, 210, 211, 2, 212, 16, 119, 120, 121, 122, 123, 237, 238, 239, 240, 169, 170, 171, 172, 15, 241, 242, 243, 244, 60, 61, 62, 245, 246, 247, 248, 124, 125, 126, 213, 214, 215, 216, 24, 57, 58, 59, 164, 165, 166, 167, 168, 257, 258, 259, 260, 261, 262, 263, 264, 265, 266, 267, 268, 127, 128, 129, 269, 270, 271, 272, 350, 351, 352, 353, 354, 355, 356, 357, 358, 359, 360, 361] (by decide +kernel) (by decide +kernel)) (goodIn_sub (fun _ h => List.mem_append_left _ (List.mem_append_right _ h)) (by decide +kernel))) (goodIn_sub (fun _ h => List.mem_append_right _ h) (by decide +kernel))
set_option maxRecDepth 20000 in
theorem gL_law_X0_leastSet : GoodIn wsL_law (wsV RL 56 RX0 yX0_leastSet wsX0_leastSet) := goodIn_app (goodIn_of _ (by decide +kernel)) ggL_law_X0_leastSet
set_option maxRecDepth 20000 in
theorem ggL_law_X0_leastSetAnew : GoodIn wsL_law wsX0_leastSetAnew := goodIn_ca (goodIn_ca (goodIn_r _ [280, 189, 190, 191, 192, 209, 210, 211, 2, 212, 16, 119, 120, 121, 122, 123, 237, 238, 239, 240, 169, 170, 171, 172, 15, 241, 242, 243, 244, 60, 61, 62, 245, 246, 247, 248, 124, 125, 126, 213, 214, 215, 216, 24, 57, 58, 59, 164, 165, 166, 167, 168, 350, 351, 352, 353, 354, 355, 356, 357, 358, 359, 360, 361] (by decide +kernel) (by decide +kernel)) (goodIn_sub (fun _ h => List.mem_append_left _ (List.mem_append_right _ h)) (by decide +kernel))) (goodIn_sub (fun _ h => List.mem_append_right _ h) (by decide +kernel))
set_option maxRecDepth 20000 in
theorem gL_law_X0_leastSetAnew : GoodIn wsL_law (wsV RL 60 RX0 yX0_leastSetAnew wsX0_leastSetAnew) := goodIn_app (goodIn_of _ (by decide +kernel)) ggL_law_X0_leastSetAnew
set_option maxRecDepth 20000 in
theorem ggL_law_X0_common : GoodIn wsL_law wsX0_common := goodIn_r _ [40, 15, 41, 42, 43, 2, 44, 27, 45, 46, 47, 48, 26, 28, 29, 30, 31, 49, 50, 51, 52, 53, 54, 55, 56, 21, 57, 58, 59, 60, 61, 62, 63, 64, 65, 66, 67, 68, 69, 70, 22, 71, 72, 73, 74, 75, 76, 77, 78, 79, 80, 81, 82, 83, 84, 85, 86, 87, 88, 89, 90, 91, 92, 350, 351, 352, 353, 354, 355, 356, 357, 358, 359, 360, 361] (by decide +kernel) (by decide +kernel)
set_option maxRecDepth 20000 in
theorem gL_law_X0_common : GoodIn wsL_law (wsV RL 91 RX0 yX0_common wsX0_common) := goodIn_app (goodIn_of _ (by decide +kernel)) ggL_law_X0_common
set_option maxRecDepth 20000 in
theorem ggL_law_X0_commonAnew : GoodIn wsL_law wsX0_commonAnew := goodIn_r _ [330, 309, 310, 191, 311, 169, 170, 171, 2, 172, 15, 331, 332, 333, 334, 63, 64, 65, 66, 60, 61, 62, 53, 54, 55, 56, 21, 57, 58, 59, 67, 68, 69, 70, 22, 82, 83, 84, 85, 86, 87, 88, 350, 351, 352, 353, 354, 355, 356, 357, 358, 359, 360, 361] (by decide +kernel) (by decide +kernel)
set_option maxRecDepth 20000 in
theorem gL_law_X0_commonAnew : GoodIn wsL_law (wsV RL 101 RX0 yX0_commonAnew wsX0_commonAnew) := goodIn_app (goodIn_of _ (by decide +kernel)) ggL_law_X0_commonAnew
set_option maxRecDepth 20000 in
theorem ggL_law_L_refuses : GoodIn wsL_law wsL_refuses := goodIn_ca (goodIn_ca (goodIn_ca (goodIn_r _ [34, 35, 3, 36, 37, 38, 39, 2, 40, 15, 41, 42, 43, 44, 27, 45, 46, 47, 48, 26, 28, 29, 30, 31, 49, 50, 51, 52, 53, 54, 55, 56, 21, 57, 58, 59, 60, 61, 62, 63, 64, 65, 66, 67, 68, 69, 70, 22, 71, 72, 73, 74, 75, 76, 77, 78, 79, 80, 81, 82, 83, 84, 85, 86, 87, 88, 89, 90, 91, 92, 93, 94, 7, 95, 96, 97, 98, 4, 99, 100, 101, 102, 16, 17, 19, 20, 23, 103, 104, 105, 106, 107, 108, 109, 110, 111, 112, 113, 114, 115, 116, 117, 118, 119, 120, 121, 122, 123, 124, 125, 126, 127, 128, 129, 130, 131, 132, 133, 134, 135, 136, 137, 138, 139, 140, 141, 142, 143, 144, 145, 146, 147, 148, 149, 150, 151, 152, 153, 154, 155, 156, 157, 158, 159, 160, 161, 162, 163, 164, 165, 166, 167, 168, 169, 170, 171, 172, 173, 174, 175, 176, 177, 178, 179, 180, 181, 182, 183, 184, 185, 186, 187, 188, 189, 190, 191, 192, 193, 194, 195, 196, 197, 198, 199, 200, 24, 201, 202, 203, 204, 205, 206, 207, 208, 209, 210, 211, 212, 213, 214, 215, 216, 217, 218, 219, 220, 221, 222, 223, 224, 225, 226, 227, 228, 229, 230, 231, 232, 233, 234, 235, 236, 237, 238, 239, 240, 241, 242, 243, 244, 245, 246, 247, 248, 249, 250, 251, 252, 253, 254, 255, 256, 257, 258, 259, 260, 261, 262, 263, 264, 265, 266, 267, 268, 269, 270, 271, 272, 273, 274, 275, 276, 277, 278, 279, 280, 281, 282, 283, 284, 25, 285, 286, 287, 288, 289, 290, 291, 292, 293, 294, 295, 296, 297, 298, 299, 300, 301, 302, 303, 304, 305, 306, 307, 308, 309, 310, 311, 312, 313, 314, 315, 316, 317, 318, 319, 320, 321, 322, 323, 324, 325, 326, 327, 328, 329, 330, 331, 332, 333, 334, 350, 351, 352, 353, 354, 355, 356, 357, 358, 359, 360, 361] rfl (by decide +kernel)) (goodIn_sub (fun _ h => List.mem_append_left _ (List.mem_append_left _ (List.mem_append_right _ h))) (by decide +kernel))) (goodIn_sub (fun _ h => List.mem_append_left _ (List.mem_append_right _ h)) (by decide +kernel))) (goodIn_sub (fun _ h => List.mem_append_right _ h) (by decide +kernel))
set_option maxRecDepth 20000 in
theorem gL_law_L_refuses : GoodIn wsL_law (va_wsS RL 105 yL_refuses wsL_refuses) := goodIn_app (goodIn_of _ (by decide +kernel)) ggL_law_L_refuses
theorem dL_law_0 : decode cL_law 0 = .ok (.invokestatic 126, 3) := by decide +kernel
theorem dL_law_3 : decode cL_law 3 = .ok (.ifCond .ne 5, 3) := by decide +kernel
theorem dL_law_6 : decode cL_law 6 = .ok (.iconst 0, 1) := by decide +kernel
theorem dL_law_7 : decode cL_law 7 = .ok (.ireturn, 1) := by decide +kernel
theorem dL_law_8 : decode cL_law 8 = .ok (.new 8, 3) := by decide +kernel
theorem dL_law_11 : decode cL_law 11 = .ok (.dup, 1) := by decide +kernel
theorem dL_law_12 : decode cL_law 12 = .ok (.invokespecial 104, 3) := by decide +kernel
theorem dL_law_15 : decode cL_law 15 = .ok (.astore_n 1, 1) := by decide +kernel
theorem dL_law_16 : decode cL_law 16 = .ok (.iconst 4, 1) := by decide +kernel
theorem dL_law_17 : decode cL_law 17 = .ok (.istore_n 2, 1) := by decide +kernel
theorem dL_law_18 : decode cL_law 18 = .ok (.iconst 0, 1) := by decide +kernel
theorem dL_law_19 : decode cL_law 19 = .ok (.istore_n 3, 1) := by decide +kernel
theorem dL_law_20 : decode cL_law 20 = .ok (.iconst 0, 1) := by decide +kernel
theorem dL_law_21 : decode cL_law 21 = .ok (.istore 4, 2) := by decide +kernel
theorem dL_law_23 : decode cL_law 23 = .ok (.iload 4, 2) := by decide +kernel
theorem dL_law_25 : decode cL_law 25 = .ok (.bipush 80, 2) := by decide +kernel
theorem dL_law_27 : decode cL_law 27 = .ok (.if_icmp .ge 921, 3) := by decide +kernel
theorem dL_law_30 : decode cL_law 30 = .ok (.aload_n 0, 1) := by decide +kernel
theorem dL_law_31 : decode cL_law 31 = .ok (.arraylength, 1) := by decide +kernel
theorem dL_law_32 : decode cL_law 32 = .ok (.ifCond .ne 11, 3) := by decide +kernel
theorem dL_law_35 : decode cL_law 35 = .ok (.bipush 103, 2) := by decide +kernel
theorem dL_law_37 : decode cL_law 37 = .ok (.iload 4, 2) := by decide +kernel
theorem dL_law_39 : decode cL_law 39 = .ok (.imul, 1) := by decide +kernel
theorem dL_law_40 : decode cL_law 40 = .ok (.goto 13, 3) := by decide +kernel
theorem dL_law_43 : decode cL_law 43 = .ok (.aload_n 0, 1) := by decide +kernel
theorem dL_law_44 : decode cL_law 44 = .ok (.iload 4, 2) := by decide +kernel
theorem dL_law_46 : decode cL_law 46 = .ok (.aload_n 0, 1) := by decide +kernel
theorem dL_law_47 : decode cL_law 47 = .ok (.arraylength, 1) := by decide +kernel
theorem dL_law_48 : decode cL_law 48 = .ok (.irem, 1) := by decide +kernel
theorem dL_law_49 : decode cL_law 49 = .ok (.iaload, 1) := by decide +kernel
theorem dL_law_50 : decode cL_law 50 = .ok (.bipush 8, 2) := by decide +kernel
theorem dL_law_52 : decode cL_law 52 = .ok (.iushr, 1) := by decide +kernel
theorem dL_law_53 : decode cL_law 53 = .ok (.istore 5, 2) := by decide +kernel
theorem dL_law_55 : decode cL_law 55 = .ok (.iload 5, 2) := by decide +kernel
theorem dL_law_57 : decode cL_law 57 = .ok (.bipush 17, 2) := by decide +kernel
theorem dL_law_59 : decode cL_law 59 = .ok (.irem, 1) := by decide +kernel
theorem dL_law_60 : decode cL_law 60 = .ok (.istore 6, 2) := by decide +kernel
theorem dL_law_62 : decode cL_law 62 = .ok (.iload 5, 2) := by decide +kernel
theorem dL_law_64 : decode cL_law 64 = .ok (.bipush 17, 2) := by decide +kernel
theorem dL_law_66 : decode cL_law 66 = .ok (.idiv, 1) := by decide +kernel
theorem dL_law_67 : decode cL_law 67 = .ok (.istore 7, 2) := by decide +kernel
theorem dL_law_69 : decode cL_law 69 = .ok (.iload 7, 2) := by decide +kernel
theorem dL_law_71 : decode cL_law 71 = .ok (.bipush 30, 2) := by decide +kernel
theorem dL_law_73 : decode cL_law 73 = .ok (.idiv, 1) := by decide +kernel
theorem dL_law_74 : decode cL_law 74 = .ok (.istore 8, 2) := by decide +kernel
theorem dL_law_76 : decode cL_law 76 = .ok (.iload 6, 2) := by decide +kernel
theorem dL_law_78 : decode cL_law 78 = .ok (.ifCond .ne 44, 3) := by decide +kernel
theorem dL_law_81 : decode cL_law 81 = .ok (.iload 7, 2) := by decide +kernel
theorem dL_law_83 : decode cL_law 83 = .ok (.iconst 5, 1) := by decide +kernel
theorem dL_law_84 : decode cL_law 84 = .ok (.irem, 1) := by decide +kernel
theorem dL_law_85 : decode cL_law 85 = .ok (.ifCond .ne 37, 3) := by decide +kernel
theorem dL_law_88 : decode cL_law 88 = .ok (.aload_n 1, 1) := by decide +kernel
theorem dL_law_89 : decode cL_law 89 = .ok (.iconst 1, 1) := by decide +kernel
theorem dL_law_90 : decode cL_law 90 = .ok (.iload 7, 2) := by decide +kernel
theorem dL_law_92 : decode cL_law 92 = .ok (.iconst 5, 1) := by decide +kernel
theorem dL_law_93 : decode cL_law 93 = .ok (.idiv, 1) := by decide +kernel
theorem dL_law_94 : decode cL_law 94 = .ok (.bipush 6, 2) := by decide +kernel
theorem dL_law_96 : decode cL_law 96 = .ok (.irem, 1) := by decide +kernel
theorem dL_law_97 : decode cL_law 97 = .ok (.iadd, 1) := by decide +kernel
theorem dL_law_98 : decode cL_law 98 = .ok (.invokevirtual 7, 3) := by decide +kernel
theorem dL_law_101 : decode cL_law 101 = .ok (.iload_n 2, 1) := by decide +kernel
theorem dL_law_102 : decode cL_law 102 = .ok (.if_icmp .eq 5, 3) := by decide +kernel
theorem dL_law_105 : decode cL_law 105 = .ok (.iconst 0, 1) := by decide +kernel
theorem dL_law_106 : decode cL_law 106 = .ok (.ireturn, 1) := by decide +kernel
theorem dL_law_107 : decode cL_law 107 = .ok (.iconst 1, 1) := by decide +kernel
theorem dL_law_108 : decode cL_law 108 = .ok (.iload 7, 2) := by decide +kernel
theorem dL_law_110 : decode cL_law 110 = .ok (.iconst 5, 1) := by decide +kernel
theorem dL_law_111 : decode cL_law 111 = .ok (.idiv, 1) := by decide +kernel
theorem dL_law_112 : decode cL_law 112 = .ok (.bipush 6, 2) := by decide +kernel
theorem dL_law_114 : decode cL_law 114 = .ok (.irem, 1) := by decide +kernel
theorem dL_law_115 : decode cL_law 115 = .ok (.iadd, 1) := by decide +kernel
theorem dL_law_116 : decode cL_law 116 = .ok (.istore_n 2, 1) := by decide +kernel
theorem dL_law_117 : decode cL_law 117 = .ok (.iconst 0, 1) := by decide +kernel
theorem dL_law_118 : decode cL_law 118 = .ok (.istore_n 3, 1) := by decide +kernel
theorem dL_law_119 : decode cL_law 119 = .ok (.goto 793, 3) := by decide +kernel
theorem dL_law_122 : decode cL_law 122 = .ok (.iload 6, 2) := by decide +kernel
theorem dL_law_124 : decode cL_law 124 = .ok (.iconst 3, 1) := by decide +kernel
theorem dL_law_125 : decode cL_law 125 = .ok (.if_icmp .ge 88, 3) := by decide +kernel
theorem dL_law_128 : decode cL_law 128 = .ok (.aload_n 1, 1) := by decide +kernel
theorem dL_law_129 : decode cL_law 129 = .ok (.iload 7, 2) := by decide +kernel
theorem dL_law_131 : decode cL_law 131 = .ok (.iload_n 2, 1) := by decide +kernel
theorem dL_law_132 : decode cL_law 132 = .ok (.irem, 1) := by decide +kernel
theorem dL_law_133 : decode cL_law 133 = .ok (.iload 8, 2) := by decide +kernel
theorem dL_law_135 : decode cL_law 135 = .ok (.bipush 10, 2) := by decide +kernel
theorem dL_law_137 : decode cL_law 137 = .ok (.irem, 1) := by decide +kernel
theorem dL_law_138 : decode cL_law 138 = .ok (.iload 7, 2) := by decide +kernel
theorem dL_law_140 : decode cL_law 140 = .ok (.iconst 3, 1) := by decide +kernel
theorem dL_law_141 : decode cL_law 141 = .ok (.irem, 1) := by decide +kernel
theorem dL_law_142 : decode cL_law 142 = .ok (.ifCond .le 7, 3) := by decide +kernel
theorem dL_law_145 : decode cL_law 145 = .ok (.iconst 1, 1) := by decide +kernel
theorem dL_law_146 : decode cL_law 146 = .ok (.goto 4, 3) := by decide +kernel
theorem dL_law_149 : decode cL_law 149 = .ok (.iconst 0, 1) := by decide +kernel
theorem dL_law_150 : decode cL_law 150 = .ok (.invokevirtual 13, 3) := by decide +kernel
theorem dL_law_153 : decode cL_law 153 = .ok (.istore 9, 2) := by decide +kernel
theorem dL_law_155 : decode cL_law 155 = .ok (.aload_n 1, 1) := by decide +kernel
theorem dL_law_156 : decode cL_law 156 = .ok (.iload 7, 2) := by decide +kernel
theorem dL_law_158 : decode cL_law 158 = .ok (.iload_n 2, 1) := by decide +kernel
theorem dL_law_159 : decode cL_law 159 = .ok (.irem, 1) := by decide +kernel
theorem dL_law_160 : decode cL_law 160 = .ok (.iload 8, 2) := by decide +kernel
theorem dL_law_162 : decode cL_law 162 = .ok (.bipush 10, 2) := by decide +kernel
theorem dL_law_164 : decode cL_law 164 = .ok (.irem, 1) := by decide +kernel
theorem dL_law_165 : decode cL_law 165 = .ok (.iload 7, 2) := by decide +kernel
theorem dL_law_167 : decode cL_law 167 = .ok (.iconst 3, 1) := by decide +kernel
theorem dL_law_168 : decode cL_law 168 = .ok (.irem, 1) := by decide +kernel
theorem dL_law_169 : decode cL_law 169 = .ok (.ifCond .le 7, 3) := by decide +kernel
theorem dL_law_172 : decode cL_law 172 = .ok (.iconst 1, 1) := by decide +kernel
theorem dL_law_173 : decode cL_law 173 = .ok (.goto 4, 3) := by decide +kernel
theorem dL_law_176 : decode cL_law 176 = .ok (.iconst 0, 1) := by decide +kernel
theorem dL_law_177 : decode cL_law 177 = .ok (.invokevirtual 13, 3) := by decide +kernel
theorem dL_law_180 : decode cL_law 180 = .ok (.iload 7, 2) := by decide +kernel
theorem dL_law_182 : decode cL_law 182 = .ok (.iconst 3, 1) := by decide +kernel
theorem dL_law_183 : decode cL_law 183 = .ok (.irem, 1) := by decide +kernel
theorem dL_law_184 : decode cL_law 184 = .ok (.ifCond .le 7, 3) := by decide +kernel
theorem dL_law_187 : decode cL_law 187 = .ok (.iconst 1, 1) := by decide +kernel
theorem dL_law_188 : decode cL_law 188 = .ok (.goto 4, 3) := by decide +kernel
theorem dL_law_191 : decode cL_law 191 = .ok (.iconst 0, 1) := by decide +kernel
theorem dL_law_192 : decode cL_law 192 = .ok (.if_icmp .ne 16, 3) := by decide +kernel
theorem dL_law_195 : decode cL_law 195 = .ok (.iload 9, 2) := by decide +kernel
theorem dL_law_197 : decode cL_law 197 = .ok (.ifCond .eq 13, 3) := by decide +kernel
theorem dL_law_200 : decode cL_law 200 = .ok (.iload 7, 2) := by decide +kernel
theorem dL_law_202 : decode cL_law 202 = .ok (.iload_n 2, 1) := by decide +kernel
theorem dL_law_203 : decode cL_law 203 = .ok (.irem, 1) := by decide +kernel
theorem dL_law_204 : decode cL_law 204 = .ok (.iload_n 2, 1) := by decide +kernel
theorem dL_law_205 : decode cL_law 205 = .ok (.if_icmp .lt 5, 3) := by decide +kernel
theorem dL_law_208 : decode cL_law 208 = .ok (.iconst 0, 1) := by decide +kernel
theorem dL_law_209 : decode cL_law 209 = .ok (.ireturn, 1) := by decide +kernel
theorem dL_law_210 : decode cL_law 210 = .ok (.goto 702, 3) := by decide +kernel
theorem dL_law_213 : decode cL_law 213 = .ok (.iload 6, 2) := by decide +kernel
theorem dL_law_215 : decode cL_law 215 = .ok (.iconst 5, 1) := by decide +kernel
theorem dL_law_216 : decode cL_law 216 = .ok (.if_icmp .ge 104, 3) := by decide +kernel
theorem dL_law_219 : decode cL_law 219 = .ok (.aload_n 1, 1) := by decide +kernel
theorem dL_law_220 : decode cL_law 220 = .ok (.iconst 2, 1) := by decide +kernel
theorem dL_law_221 : decode cL_law 221 = .ok (.iload 7, 2) := by decide +kernel
theorem dL_law_223 : decode cL_law 223 = .ok (.iload_n 2, 1) := by decide +kernel
theorem dL_law_224 : decode cL_law 224 = .ok (.irem, 1) := by decide +kernel
theorem dL_law_225 : decode cL_law 225 = .ok (.iload 8, 2) := by decide +kernel
theorem dL_law_227 : decode cL_law 227 = .ok (.iload_n 2, 1) := by decide +kernel
theorem dL_law_228 : decode cL_law 228 = .ok (.irem, 1) := by decide +kernel
theorem dL_law_229 : decode cL_law 229 = .ok (.iload 8, 2) := by decide +kernel
theorem dL_law_231 : decode cL_law 231 = .ok (.bipush 21, 2) := by decide +kernel
theorem dL_law_233 : decode cL_law 233 = .ok (.irem, 1) := by decide +kernel
theorem dL_law_234 : decode cL_law 234 = .ok (.invokestatic 95, 3) := by decide +kernel
theorem dL_law_237 : decode cL_law 237 = .ok (.istore 9, 2) := by decide +kernel
theorem dL_law_239 : decode cL_law 239 = .ok (.iload 9, 2) := by decide +kernel
theorem dL_law_241 : decode cL_law 241 = .ok (.ldc 86, 2) := by decide +kernel
theorem dL_law_243 : decode cL_law 243 = .ok (.if_icmp .eq 41, 3) := by decide +kernel
theorem dL_law_246 : decode cL_law 246 = .ok (.iload 9, 2) := by decide +kernel
theorem dL_law_248 : decode cL_law 248 = .ok (.ifCond .lt 67, 3) := by decide +kernel
theorem dL_law_251 : decode cL_law 251 = .ok (.iload 9, 2) := by decide +kernel
theorem dL_law_253 : decode cL_law 253 = .ok (.bipush 20, 2) := by decide +kernel
theorem dL_law_255 : decode cL_law 255 = .ok (.if_icmp .gt 60, 3) := by decide +kernel
theorem dL_law_258 : decode cL_law 258 = .ok (.aload_n 1, 1) := by decide +kernel
theorem dL_law_259 : decode cL_law 259 = .ok (.iconst 2, 1) := by decide +kernel
theorem dL_law_260 : decode cL_law 260 = .ok (.iload 8, 2) := by decide +kernel
theorem dL_law_262 : decode cL_law 262 = .ok (.iload_n 2, 1) := by decide +kernel
theorem dL_law_263 : decode cL_law 263 = .ok (.irem, 1) := by decide +kernel
theorem dL_law_264 : decode cL_law 264 = .ok (.iload 7, 2) := by decide +kernel
theorem dL_law_266 : decode cL_law 266 = .ok (.iload_n 2, 1) := by decide +kernel
theorem dL_law_267 : decode cL_law 267 = .ok (.irem, 1) := by decide +kernel
theorem dL_law_268 : decode cL_law 268 = .ok (.iload 8, 2) := by decide +kernel
theorem dL_law_270 : decode cL_law 270 = .ok (.bipush 21, 2) := by decide +kernel
theorem dL_law_272 : decode cL_law 272 = .ok (.irem, 1) := by decide +kernel
theorem dL_law_273 : decode cL_law 273 = .ok (.invokestatic 95, 3) := by decide +kernel
theorem dL_law_276 : decode cL_law 276 = .ok (.iload 8, 2) := by decide +kernel
theorem dL_law_278 : decode cL_law 278 = .ok (.bipush 21, 2) := by decide +kernel
theorem dL_law_280 : decode cL_law 280 = .ok (.irem, 1) := by decide +kernel
theorem dL_law_281 : decode cL_law 281 = .ok (.if_icmp .ne 34, 3) := by decide +kernel
theorem dL_law_284 : decode cL_law 284 = .ok (.iload 9, 2) := by decide +kernel
theorem dL_law_286 : decode cL_law 286 = .ok (.ldc 86, 2) := by decide +kernel
theorem dL_law_288 : decode cL_law 288 = .ok (.if_icmp .ne 7, 3) := by decide +kernel
theorem dL_law_291 : decode cL_law 291 = .ok (.iconst 1, 1) := by decide +kernel
theorem dL_law_292 : decode cL_law 292 = .ok (.goto 4, 3) := by decide +kernel
theorem dL_law_295 : decode cL_law 295 = .ok (.iconst 0, 1) := by decide +kernel
theorem dL_law_296 : decode cL_law 296 = .ok (.iload 7, 2) := by decide +kernel
theorem dL_law_298 : decode cL_law 298 = .ok (.iload_n 2, 1) := by decide +kernel
theorem dL_law_299 : decode cL_law 299 = .ok (.irem, 1) := by decide +kernel
theorem dL_law_300 : decode cL_law 300 = .ok (.iload 8, 2) := by decide +kernel
theorem dL_law_302 : decode cL_law 302 = .ok (.iload_n 2, 1) := by decide +kernel
theorem dL_law_303 : decode cL_law 303 = .ok (.irem, 1) := by decide +kernel
theorem dL_law_304 : decode cL_law 304 = .ok (.if_icmp .ne 7, 3) := by decide +kernel
theorem dL_law_307 : decode cL_law 307 = .ok (.iconst 1, 1) := by decide +kernel
theorem dL_law_308 : decode cL_law 308 = .ok (.goto 4, 3) := by decide +kernel
theorem dL_law_311 : decode cL_law 311 = .ok (.iconst 0, 1) := by decide +kernel
theorem dL_law_312 : decode cL_law 312 = .ok (.if_icmp .eq 5, 3) := by decide +kernel
theorem dL_law_315 : decode cL_law 315 = .ok (.iconst 0, 1) := by decide +kernel
theorem dL_law_316 : decode cL_law 316 = .ok (.ireturn, 1) := by decide +kernel
theorem dL_law_317 : decode cL_law 317 = .ok (.goto 595, 3) := by decide +kernel
theorem dL_law_320 : decode cL_law 320 = .ok (.iload 6, 2) := by decide +kernel
theorem dL_law_322 : decode cL_law 322 = .ok (.bipush 7, 2) := by decide +kernel
theorem dL_law_324 : decode cL_law 324 = .ok (.if_icmp .ge 82, 3) := by decide +kernel
theorem dL_law_327 : decode cL_law 327 = .ok (.aload_n 1, 1) := by decide +kernel
theorem dL_law_328 : decode cL_law 328 = .ok (.iload 7, 2) := by decide +kernel
theorem dL_law_330 : decode cL_law 330 = .ok (.iconst 2, 1) := by decide +kernel
theorem dL_law_331 : decode cL_law 331 = .ok (.irem, 1) := by decide +kernel
theorem dL_law_332 : decode cL_law 332 = .ok (.iload 8, 2) := by decide +kernel
theorem dL_law_334 : decode cL_law 334 = .ok (.iload_n 2, 1) := by decide +kernel
theorem dL_law_335 : decode cL_law 335 = .ok (.irem, 1) := by decide +kernel
theorem dL_law_336 : decode cL_law 336 = .ok (.iload 7, 2) := by decide +kernel
theorem dL_law_338 : decode cL_law 338 = .ok (.iconst 2, 1) := by decide +kernel
theorem dL_law_339 : decode cL_law 339 = .ok (.idiv, 1) := by decide +kernel
theorem dL_law_340 : decode cL_law 340 = .ok (.bipush 6, 2) := by decide +kernel
theorem dL_law_342 : decode cL_law 342 = .ok (.irem, 1) := by decide +kernel
theorem dL_law_343 : decode cL_law 343 = .ok (.invokevirtual 21, 3) := by decide +kernel
theorem dL_law_346 : decode cL_law 346 = .ok (.iconst 5, 1) := by decide +kernel
theorem dL_law_347 : decode cL_law 347 = .ok (.if_icmp .gt 57, 3) := by decide +kernel
theorem dL_law_350 : decode cL_law 350 = .ok (.aload_n 1, 1) := by decide +kernel
theorem dL_law_351 : decode cL_law 351 = .ok (.iload 7, 2) := by decide +kernel
theorem dL_law_353 : decode cL_law 353 = .ok (.iconst 2, 1) := by decide +kernel
theorem dL_law_354 : decode cL_law 354 = .ok (.irem, 1) := by decide +kernel
theorem dL_law_355 : decode cL_law 355 = .ok (.iload 8, 2) := by decide +kernel
theorem dL_law_357 : decode cL_law 357 = .ok (.iload_n 2, 1) := by decide +kernel
theorem dL_law_358 : decode cL_law 358 = .ok (.irem, 1) := by decide +kernel
theorem dL_law_359 : decode cL_law 359 = .ok (.iload 7, 2) := by decide +kernel
theorem dL_law_361 : decode cL_law 361 = .ok (.iconst 2, 1) := by decide +kernel
theorem dL_law_362 : decode cL_law 362 = .ok (.idiv, 1) := by decide +kernel
theorem dL_law_363 : decode cL_law 363 = .ok (.bipush 6, 2) := by decide +kernel
theorem dL_law_365 : decode cL_law 365 = .ok (.irem, 1) := by decide +kernel
theorem dL_law_366 : decode cL_law 366 = .ok (.invokevirtual 21, 3) := by decide +kernel
theorem dL_law_369 : decode cL_law 369 = .ok (.iload 7, 2) := by decide +kernel
theorem dL_law_371 : decode cL_law 371 = .ok (.iconst 2, 1) := by decide +kernel
theorem dL_law_372 : decode cL_law 372 = .ok (.idiv, 1) := by decide +kernel
theorem dL_law_373 : decode cL_law 373 = .ok (.bipush 6, 2) := by decide +kernel
theorem dL_law_375 : decode cL_law 375 = .ok (.irem, 1) := by decide +kernel
theorem dL_law_376 : decode cL_law 376 = .ok (.if_icmp .ne 28, 3) := by decide +kernel
theorem dL_law_379 : decode cL_law 379 = .ok (.aload_n 1, 1) := by decide +kernel
theorem dL_law_380 : decode cL_law 380 = .ok (.iload 7, 2) := by decide +kernel
theorem dL_law_382 : decode cL_law 382 = .ok (.iconst 2, 1) := by decide +kernel
theorem dL_law_383 : decode cL_law 383 = .ok (.irem, 1) := by decide +kernel
theorem dL_law_384 : decode cL_law 384 = .ok (.iload 8, 2) := by decide +kernel
theorem dL_law_386 : decode cL_law 386 = .ok (.bipush 6, 2) := by decide +kernel
theorem dL_law_388 : decode cL_law 388 = .ok (.irem, 1) := by decide +kernel
theorem dL_law_389 : decode cL_law 389 = .ok (.iload 7, 2) := by decide +kernel
theorem dL_law_391 : decode cL_law 391 = .ok (.iconst 2, 1) := by decide +kernel
theorem dL_law_392 : decode cL_law 392 = .ok (.idiv, 1) := by decide +kernel
theorem dL_law_393 : decode cL_law 393 = .ok (.bipush 7, 2) := by decide +kernel
theorem dL_law_395 : decode cL_law 395 = .ok (.irem, 1) := by decide +kernel
theorem dL_law_396 : decode cL_law 396 = .ok (.invokevirtual 24, 3) := by decide +kernel
theorem dL_law_399 : decode cL_law 399 = .ok (.bipush 6, 2) := by decide +kernel
theorem dL_law_401 : decode cL_law 401 = .ok (.if_icmp .le 511, 3) := by decide +kernel
theorem dL_law_404 : decode cL_law 404 = .ok (.iconst 0, 1) := by decide +kernel
theorem dL_law_405 : decode cL_law 405 = .ok (.ireturn, 1) := by decide +kernel
theorem dL_law_406 : decode cL_law 406 = .ok (.iload 6, 2) := by decide +kernel
theorem dL_law_408 : decode cL_law 408 = .ok (.bipush 7, 2) := by decide +kernel
theorem dL_law_410 : decode cL_law 410 = .ok (.if_icmp .ne 53, 3) := by decide +kernel
theorem dL_law_413 : decode cL_law 413 = .ok (.aload_n 1, 1) := by decide +kernel
theorem dL_law_414 : decode cL_law 414 = .ok (.iload 7, 2) := by decide +kernel
theorem dL_law_416 : decode cL_law 416 = .ok (.iload_n 2, 1) := by decide +kernel
theorem dL_law_417 : decode cL_law 417 = .ok (.irem, 1) := by decide +kernel
theorem dL_law_418 : decode cL_law 418 = .ok (.iload 8, 2) := by decide +kernel
theorem dL_law_420 : decode cL_law 420 = .ok (.bipush 41, 2) := by decide +kernel
theorem dL_law_422 : decode cL_law 422 = .ok (.irem, 1) := by decide +kernel
theorem dL_law_423 : decode cL_law 423 = .ok (.bipush 20, 2) := by decide +kernel
theorem dL_law_425 : decode cL_law 425 = .ok (.isub, 1) := by decide +kernel
theorem dL_law_426 : decode cL_law 426 = .ok (.invokevirtual 27, 3) := by decide +kernel
theorem dL_law_429 : decode cL_law 429 = .ok (.bipush 20, 2) := by decide +kernel
theorem dL_law_431 : decode cL_law 431 = .ok (.if_icmp .gt 30, 3) := by decide +kernel
theorem dL_law_434 : decode cL_law 434 = .ok (.aload_n 1, 1) := by decide +kernel
theorem dL_law_435 : decode cL_law 435 = .ok (.iload 7, 2) := by decide +kernel
theorem dL_law_437 : decode cL_law 437 = .ok (.iload_n 2, 1) := by decide +kernel
theorem dL_law_438 : decode cL_law 438 = .ok (.irem, 1) := by decide +kernel
theorem dL_law_439 : decode cL_law 439 = .ok (.iload 8, 2) := by decide +kernel
theorem dL_law_441 : decode cL_law 441 = .ok (.bipush 41, 2) := by decide +kernel
theorem dL_law_443 : decode cL_law 443 = .ok (.irem, 1) := by decide +kernel
theorem dL_law_444 : decode cL_law 444 = .ok (.bipush 20, 2) := by decide +kernel
theorem dL_law_446 : decode cL_law 446 = .ok (.isub, 1) := by decide +kernel
theorem dL_law_447 : decode cL_law 447 = .ok (.invokevirtual 27, 3) := by decide +kernel
theorem dL_law_450 : decode cL_law 450 = .ok (.iload 8, 2) := by decide +kernel
theorem dL_law_452 : decode cL_law 452 = .ok (.bipush 41, 2) := by decide +kernel
theorem dL_law_454 : decode cL_law 454 = .ok (.irem, 1) := by decide +kernel
theorem dL_law_455 : decode cL_law 455 = .ok (.bipush 20, 2) := by decide +kernel
theorem dL_law_457 : decode cL_law 457 = .ok (.isub, 1) := by decide +kernel
theorem dL_law_458 : decode cL_law 458 = .ok (.if_icmp .eq 454, 3) := by decide +kernel
theorem dL_law_461 : decode cL_law 461 = .ok (.iconst 0, 1) := by decide +kernel
theorem dL_law_462 : decode cL_law 462 = .ok (.ireturn, 1) := by decide +kernel
theorem dL_law_463 : decode cL_law 463 = .ok (.iload 6, 2) := by decide +kernel
theorem dL_law_465 : decode cL_law 465 = .ok (.bipush 11, 2) := by decide +kernel
theorem dL_law_467 : decode cL_law 467 = .ok (.if_icmp .lt 7, 3) := by decide +kernel
theorem dL_law_470 : decode cL_law 470 = .ok (.iload_n 3, 1) := by decide +kernel
theorem dL_law_471 : decode cL_law 471 = .ok (.ifCond .ne 90, 3) := by decide +kernel
theorem dL_law_474 : decode cL_law 474 = .ok (.aload_n 1, 1) := by decide +kernel
theorem dL_law_475 : decode cL_law 475 = .ok (.bipush 6, 2) := by decide +kernel
theorem dL_law_477 : decode cL_law 477 = .ok (.iload 7, 2) := by decide +kernel
theorem dL_law_479 : decode cL_law 479 = .ok (.iconst 5, 1) := by decide +kernel
theorem dL_law_480 : decode cL_law 480 = .ok (.irem, 1) := by decide +kernel
theorem dL_law_481 : decode cL_law 481 = .ok (.iconst 0, 1) := by decide +kernel
theorem dL_law_482 : decode cL_law 482 = .ok (.iconst 0, 1) := by decide +kernel
theorem dL_law_483 : decode cL_law 483 = .ok (.invokestatic 95, 3) := by decide +kernel
theorem dL_law_486 : decode cL_law 486 = .ok (.iload_n 3, 1) := by decide +kernel
theorem dL_law_487 : decode cL_law 487 = .ok (.bipush 8, 2) := by decide +kernel
theorem dL_law_489 : decode cL_law 489 = .ok (.if_icmp .ge 7, 3) := by decide +kernel
theorem dL_law_492 : decode cL_law 492 = .ok (.iload_n 3, 1) := by decide +kernel
theorem dL_law_493 : decode cL_law 493 = .ok (.goto 5, 3) := by decide +kernel
theorem dL_law_496 : decode cL_law 496 = .ok (.ldc 89, 2) := by decide +kernel
theorem dL_law_498 : decode cL_law 498 = .ok (.if_icmp .eq 5, 3) := by decide +kernel
theorem dL_law_501 : decode cL_law 501 = .ok (.iconst 0, 1) := by decide +kernel
theorem dL_law_502 : decode cL_law 502 = .ok (.ireturn, 1) := by decide +kernel
theorem dL_law_503 : decode cL_law 503 = .ok (.iload_n 3, 1) := by decide +kernel
theorem dL_law_504 : decode cL_law 504 = .ok (.bipush 8, 2) := by decide +kernel
theorem dL_law_506 : decode cL_law 506 = .ok (.if_icmp .ge 38, 3) := by decide +kernel
theorem dL_law_509 : decode cL_law 509 = .ok (.aload_n 1, 1) := by decide +kernel
theorem dL_law_510 : decode cL_law 510 = .ok (.iload_n 3, 1) := by decide +kernel
theorem dL_law_511 : decode cL_law 511 = .ok (.iconst 0, 1) := by decide +kernel
theorem dL_law_512 : decode cL_law 512 = .ok (.invokevirtual 43, 3) := by decide +kernel
theorem dL_law_515 : decode cL_law 515 = .ok (.ifCond .ne 27, 3) := by decide +kernel
theorem dL_law_518 : decode cL_law 518 = .ok (.aload_n 1, 1) := by decide +kernel
theorem dL_law_519 : decode cL_law 519 = .ok (.iload_n 3, 1) := by decide +kernel
theorem dL_law_520 : decode cL_law 520 = .ok (.invokevirtual 46, 3) := by decide +kernel
theorem dL_law_523 : decode cL_law 523 = .ok (.ifCond .eq 19, 3) := by decide +kernel
theorem dL_law_526 : decode cL_law 526 = .ok (.aload_n 1, 1) := by decide +kernel
theorem dL_law_527 : decode cL_law 527 = .ok (.iload_n 3, 1) := by decide +kernel
theorem dL_law_528 : decode cL_law 528 = .ok (.invokevirtual 50, 3) := by decide +kernel
theorem dL_law_531 : decode cL_law 531 = .ok (.ifCond .eq 13, 3) := by decide +kernel
theorem dL_law_534 : decode cL_law 534 = .ok (.aload_n 1, 1) := by decide +kernel
theorem dL_law_535 : decode cL_law 535 = .ok (.iload_n 3, 1) := by decide +kernel
theorem dL_law_536 : decode cL_law 536 = .ok (.invokevirtual 53, 3) := by decide +kernel
theorem dL_law_539 : decode cL_law 539 = .ok (.ifCond .eq 5, 3) := by decide +kernel
theorem dL_law_542 : decode cL_law 542 = .ok (.iconst 0, 1) := by decide +kernel
theorem dL_law_543 : decode cL_law 543 = .ok (.ireturn, 1) := by decide +kernel
theorem dL_law_544 : decode cL_law 544 = .ok (.iload_n 3, 1) := by decide +kernel
theorem dL_law_545 : decode cL_law 545 = .ok (.iload_n 3, 1) := by decide +kernel
theorem dL_law_546 : decode cL_law 546 = .ok (.bipush 8, 2) := by decide +kernel
theorem dL_law_548 : decode cL_law 548 = .ok (.if_icmp .ge 7, 3) := by decide +kernel
theorem dL_law_551 : decode cL_law 551 = .ok (.iconst 1, 1) := by decide +kernel
theorem dL_law_552 : decode cL_law 552 = .ok (.goto 4, 3) := by decide +kernel
theorem dL_law_555 : decode cL_law 555 = .ok (.iconst 0, 1) := by decide +kernel
theorem dL_law_556 : decode cL_law 556 = .ok (.iadd, 1) := by decide +kernel
theorem dL_law_557 : decode cL_law 557 = .ok (.istore_n 3, 1) := by decide +kernel
theorem dL_law_558 : decode cL_law 558 = .ok (.goto 354, 3) := by decide +kernel
theorem dL_law_561 : decode cL_law 561 = .ok (.iload 6, 2) := by decide +kernel
theorem dL_law_563 : decode cL_law 563 = .ok (.bipush 14, 2) := by decide +kernel
theorem dL_law_565 : decode cL_law 565 = .ok (.if_icmp .ge 126, 3) := by decide +kernel
theorem dL_law_568 : decode cL_law 568 = .ok (.iload 6, 2) := by decide +kernel
theorem dL_law_570 : decode cL_law 570 = .ok (.bipush 11, 2) := by decide +kernel
theorem dL_law_572 : decode cL_law 572 = .ok (.if_icmp .ne 21, 3) := by decide +kernel
theorem dL_law_575 : decode cL_law 575 = .ok (.aload_n 1, 1) := by decide +kernel
theorem dL_law_576 : decode cL_law 576 = .ok (.bipush 7, 2) := by decide +kernel
theorem dL_law_578 : decode cL_law 578 = .ok (.iload 7, 2) := by decide +kernel
theorem dL_law_580 : decode cL_law 580 = .ok (.iload_n 3, 1) := by decide +kernel
theorem dL_law_581 : decode cL_law 581 = .ok (.irem, 1) := by decide +kernel
theorem dL_law_582 : decode cL_law 582 = .ok (.iload 8, 2) := by decide +kernel
theorem dL_law_584 : decode cL_law 584 = .ok (.iload_n 3, 1) := by decide +kernel
theorem dL_law_585 : decode cL_law 585 = .ok (.irem, 1) := by decide +kernel
theorem dL_law_586 : decode cL_law 586 = .ok (.iconst 0, 1) := by decide +kernel
theorem dL_law_587 : decode cL_law 587 = .ok (.invokestatic 95, 3) := by decide +kernel
theorem dL_law_590 : decode cL_law 590 = .ok (.goto 46, 3) := by decide +kernel
theorem dL_law_593 : decode cL_law 593 = .ok (.iload 6, 2) := by decide +kernel
theorem dL_law_595 : decode cL_law 595 = .ok (.bipush 12, 2) := by decide +kernel
theorem dL_law_597 : decode cL_law 597 = .ok (.if_icmp .ne 23, 3) := by decide +kernel
theorem dL_law_600 : decode cL_law 600 = .ok (.aload_n 1, 1) := by decide +kernel
theorem dL_law_601 : decode cL_law 601 = .ok (.bipush 8, 2) := by decide +kernel
theorem dL_law_603 : decode cL_law 603 = .ok (.iload 7, 2) := by decide +kernel
theorem dL_law_605 : decode cL_law 605 = .ok (.iload_n 3, 1) := by decide +kernel
theorem dL_law_606 : decode cL_law 606 = .ok (.irem, 1) := by decide +kernel
theorem dL_law_607 : decode cL_law 607 = .ok (.iload 8, 2) := by decide +kernel
theorem dL_law_609 : decode cL_law 609 = .ok (.iconst 1, 1) := by decide +kernel
theorem dL_law_610 : decode cL_law 610 = .ok (.iload_n 2, 1) := by decide +kernel
theorem dL_law_611 : decode cL_law 611 = .ok (.ishl, 1) := by decide +kernel
theorem dL_law_612 : decode cL_law 612 = .ok (.irem, 1) := by decide +kernel
theorem dL_law_613 : decode cL_law 613 = .ok (.iconst 0, 1) := by decide +kernel
theorem dL_law_614 : decode cL_law 614 = .ok (.invokestatic 95, 3) := by decide +kernel
theorem dL_law_617 : decode cL_law 617 = .ok (.goto 19, 3) := by decide +kernel
theorem dL_law_620 : decode cL_law 620 = .ok (.aload_n 1, 1) := by decide +kernel
theorem dL_law_621 : decode cL_law 621 = .ok (.bipush 9, 2) := by decide +kernel
theorem dL_law_623 : decode cL_law 623 = .ok (.iload 7, 2) := by decide +kernel
theorem dL_law_625 : decode cL_law 625 = .ok (.iload_n 3, 1) := by decide +kernel
theorem dL_law_626 : decode cL_law 626 = .ok (.irem, 1) := by decide +kernel
theorem dL_law_627 : decode cL_law 627 = .ok (.iload 8, 2) := by decide +kernel
theorem dL_law_629 : decode cL_law 629 = .ok (.bipush 101, 2) := by decide +kernel
theorem dL_law_631 : decode cL_law 631 = .ok (.irem, 1) := by decide +kernel
theorem dL_law_632 : decode cL_law 632 = .ok (.iconst 0, 1) := by decide +kernel
theorem dL_law_633 : decode cL_law 633 = .ok (.invokestatic 95, 3) := by decide +kernel
theorem dL_law_636 : decode cL_law 636 = .ok (.istore 9, 2) := by decide +kernel
theorem dL_law_638 : decode cL_law 638 = .ok (.iload 9, 2) := by decide +kernel
theorem dL_law_640 : decode cL_law 640 = .ok (.iload_n 3, 1) := by decide +kernel
theorem dL_law_641 : decode cL_law 641 = .ok (.bipush 8, 2) := by decide +kernel
theorem dL_law_643 : decode cL_law 643 = .ok (.if_icmp .ge 7, 3) := by decide +kernel
theorem dL_law_646 : decode cL_law 646 = .ok (.iload_n 3, 1) := by decide +kernel
theorem dL_law_647 : decode cL_law 647 = .ok (.goto 5, 3) := by decide +kernel
theorem dL_law_650 : decode cL_law 650 = .ok (.ldc 89, 2) := by decide +kernel
theorem dL_law_652 : decode cL_law 652 = .ok (.if_icmp .eq 5, 3) := by decide +kernel
theorem dL_law_655 : decode cL_law 655 = .ok (.iconst 0, 1) := by decide +kernel
theorem dL_law_656 : decode cL_law 656 = .ok (.ireturn, 1) := by decide +kernel
theorem dL_law_657 : decode cL_law 657 = .ok (.iload_n 3, 1) := by decide +kernel
theorem dL_law_658 : decode cL_law 658 = .ok (.iload_n 3, 1) := by decide +kernel
theorem dL_law_659 : decode cL_law 659 = .ok (.bipush 8, 2) := by decide +kernel
theorem dL_law_661 : decode cL_law 661 = .ok (.if_icmp .ge 7, 3) := by decide +kernel
theorem dL_law_664 : decode cL_law 664 = .ok (.iconst 1, 1) := by decide +kernel
theorem dL_law_665 : decode cL_law 665 = .ok (.goto 4, 3) := by decide +kernel
theorem dL_law_668 : decode cL_law 668 = .ok (.iconst 0, 1) := by decide +kernel
theorem dL_law_669 : decode cL_law 669 = .ok (.iadd, 1) := by decide +kernel
theorem dL_law_670 : decode cL_law 670 = .ok (.istore_n 3, 1) := by decide +kernel
theorem dL_law_671 : decode cL_law 671 = .ok (.iload 9, 2) := by decide +kernel
theorem dL_law_673 : decode cL_law 673 = .ok (.ifCond .lt 15, 3) := by decide +kernel
theorem dL_law_676 : decode cL_law 676 = .ok (.aload_n 1, 1) := by decide +kernel
theorem dL_law_677 : decode cL_law 677 = .ok (.iload 9, 2) := by decide +kernel
theorem dL_law_679 : decode cL_law 679 = .ok (.iconst 0, 1) := by decide +kernel
theorem dL_law_680 : decode cL_law 680 = .ok (.invokevirtual 43, 3) := by decide +kernel
theorem dL_law_683 : decode cL_law 683 = .ok (.ifCond .eq 5, 3) := by decide +kernel
theorem dL_law_686 : decode cL_law 686 = .ok (.iconst 0, 1) := by decide +kernel
theorem dL_law_687 : decode cL_law 687 = .ok (.ireturn, 1) := by decide +kernel
theorem dL_law_688 : decode cL_law 688 = .ok (.goto 224, 3) := by decide +kernel
theorem dL_law_691 : decode cL_law 691 = .ok (.iload 6, 2) := by decide +kernel
theorem dL_law_693 : decode cL_law 693 = .ok (.bipush 14, 2) := by decide +kernel
theorem dL_law_695 : decode cL_law 695 = .ok (.if_icmp .ne 58, 3) := by decide +kernel
theorem dL_law_698 : decode cL_law 698 = .ok (.aload_n 1, 1) := by decide +kernel
theorem dL_law_699 : decode cL_law 699 = .ok (.bipush 16, 2) := by decide +kernel
theorem dL_law_701 : decode cL_law 701 = .ok (.iload 8, 2) := by decide +kernel
theorem dL_law_703 : decode cL_law 703 = .ok (.iload_n 2, 1) := by decide +kernel
theorem dL_law_704 : decode cL_law 704 = .ok (.irem, 1) := by decide +kernel
theorem dL_law_705 : decode cL_law 705 = .ok (.iconst 0, 1) := by decide +kernel
theorem dL_law_706 : decode cL_law 706 = .ok (.iconst 0, 1) := by decide +kernel
theorem dL_law_707 : decode cL_law 707 = .ok (.invokestatic 95, 3) := by decide +kernel
theorem dL_law_710 : decode cL_law 710 = .ok (.istore 9, 2) := by decide +kernel
theorem dL_law_712 : decode cL_law 712 = .ok (.iload 9, 2) := by decide +kernel
theorem dL_law_714 : decode cL_law 714 = .ok (.ldc 89, 2) := by decide +kernel
theorem dL_law_716 : decode cL_law 716 = .ok (.if_icmp .eq 34, 3) := by decide +kernel
theorem dL_law_719 : decode cL_law 719 = .ok (.iload 9, 2) := by decide +kernel
theorem dL_law_721 : decode cL_law 721 = .ok (.iconst 1, 1) := by decide +kernel
theorem dL_law_722 : decode cL_law 722 = .ok (.if_icmp .lt 26, 3) := by decide +kernel
theorem dL_law_725 : decode cL_law 725 = .ok (.iload 9, 2) := by decide +kernel
theorem dL_law_727 : decode cL_law 727 = .ok (.iload_n 2, 1) := by decide +kernel
theorem dL_law_728 : decode cL_law 728 = .ok (.if_icmp .gt 20, 3) := by decide +kernel
theorem dL_law_731 : decode cL_law 731 = .ok (.aload_n 1, 1) := by decide +kernel
theorem dL_law_732 : decode cL_law 732 = .ok (.bipush 17, 2) := by decide +kernel
theorem dL_law_734 : decode cL_law 734 = .ok (.iconst 0, 1) := by decide +kernel
theorem dL_law_735 : decode cL_law 735 = .ok (.iload 8, 2) := by decide +kernel
theorem dL_law_737 : decode cL_law 737 = .ok (.iload_n 2, 1) := by decide +kernel
theorem dL_law_738 : decode cL_law 738 = .ok (.irem, 1) := by decide +kernel
theorem dL_law_739 : decode cL_law 739 = .ok (.iconst 0, 1) := by decide +kernel
theorem dL_law_740 : decode cL_law 740 = .ok (.invokestatic 95, 3) := by decide +kernel
theorem dL_law_743 : decode cL_law 743 = .ok (.ldc 89, 2) := by decide +kernel
theorem dL_law_745 : decode cL_law 745 = .ok (.if_icmp .ne 5, 3) := by decide +kernel
theorem dL_law_748 : decode cL_law 748 = .ok (.iconst 0, 1) := by decide +kernel
theorem dL_law_749 : decode cL_law 749 = .ok (.ireturn, 1) := by decide +kernel
theorem dL_law_750 : decode cL_law 750 = .ok (.goto 162, 3) := by decide +kernel
theorem dL_law_753 : decode cL_law 753 = .ok (.iload 7, 2) := by decide +kernel
theorem dL_law_755 : decode cL_law 755 = .ok (.iload_n 3, 1) := by decide +kernel
theorem dL_law_756 : decode cL_law 756 = .ok (.irem, 1) := by decide +kernel
theorem dL_law_757 : decode cL_law 757 = .ok (.istore 9, 2) := by decide +kernel
theorem dL_law_759 : decode cL_law 759 = .ok (.iload 8, 2) := by decide +kernel
theorem dL_law_761 : decode cL_law 761 = .ok (.bipush 7, 2) := by decide +kernel
theorem dL_law_763 : decode cL_law 763 = .ok (.irem, 1) := by decide +kernel
theorem dL_law_764 : decode cL_law 764 = .ok (.istore 10, 2) := by decide +kernel
theorem dL_law_766 : decode cL_law 766 = .ok (.aload_n 1, 1) := by decide +kernel
theorem dL_law_767 : decode cL_law 767 = .ok (.iload 9, 2) := by decide +kernel
theorem dL_law_769 : decode cL_law 769 = .ok (.iload 10, 2) := by decide +kernel
theorem dL_law_771 : decode cL_law 771 = .ok (.invokevirtual 69, 3) := by decide +kernel
theorem dL_law_774 : decode cL_law 774 = .ok (.istore 11, 2) := by decide +kernel
theorem dL_law_776 : decode cL_law 776 = .ok (.iconst 0, 1) := by decide +kernel
theorem dL_law_777 : decode cL_law 777 = .ok (.istore 12, 2) := by decide +kernel
theorem dL_law_779 : decode cL_law 779 = .ok (.iconst 0, 1) := by decide +kernel
theorem dL_law_780 : decode cL_law 780 = .ok (.istore 13, 2) := by decide +kernel
theorem dL_law_782 : decode cL_law 782 = .ok (.iload 13, 2) := by decide +kernel
theorem dL_law_784 : decode cL_law 784 = .ok (.iload_n 2, 1) := by decide +kernel
theorem dL_law_785 : decode cL_law 785 = .ok (.if_icmp .ge 21, 3) := by decide +kernel
theorem dL_law_788 : decode cL_law 788 = .ok (.iload 12, 2) := by decide +kernel
theorem dL_law_790 : decode cL_law 790 = .ok (.iload 11, 2) := by decide +kernel
theorem dL_law_792 : decode cL_law 792 = .ok (.iload 13, 2) := by decide +kernel
theorem dL_law_794 : decode cL_law 794 = .ok (.ishr, 1) := by decide +kernel
theorem dL_law_795 : decode cL_law 795 = .ok (.iconst 1, 1) := by decide +kernel
theorem dL_law_796 : decode cL_law 796 = .ok (.iand, 1) := by decide +kernel
theorem dL_law_797 : decode cL_law 797 = .ok (.iadd, 1) := by decide +kernel
theorem dL_law_798 : decode cL_law 798 = .ok (.istore 12, 2) := by decide +kernel
theorem dL_law_800 : decode cL_law 800 = .ok (.iinc 13 1, 3) := by decide +kernel
theorem dL_law_803 : decode cL_law 803 = .ok (.goto (-21), 3) := by decide +kernel
theorem dL_law_806 : decode cL_law 806 = .ok (.iload 12, 2) := by decide +kernel
theorem dL_law_808 : decode cL_law 808 = .ok (.iload 10, 2) := by decide +kernel
theorem dL_law_810 : decode cL_law 810 = .ok (.if_icmp .gt 33, 3) := by decide +kernel
theorem dL_law_813 : decode cL_law 813 = .ok (.aload_n 1, 1) := by decide +kernel
theorem dL_law_814 : decode cL_law 814 = .ok (.iload 9, 2) := by decide +kernel
theorem dL_law_816 : decode cL_law 816 = .ok (.iload 11, 2) := by decide +kernel
theorem dL_law_818 : decode cL_law 818 = .ok (.invokevirtual 43, 3) := by decide +kernel
theorem dL_law_821 : decode cL_law 821 = .ok (.aload_n 1, 1) := by decide +kernel
theorem dL_law_822 : decode cL_law 822 = .ok (.iload 9, 2) := by decide +kernel
theorem dL_law_824 : decode cL_law 824 = .ok (.iload 10, 2) := by decide +kernel
theorem dL_law_826 : decode cL_law 826 = .ok (.invokevirtual 72, 3) := by decide +kernel
theorem dL_law_829 : decode cL_law 829 = .ok (.if_icmp .gt 14, 3) := by decide +kernel
theorem dL_law_832 : decode cL_law 832 = .ok (.aload_n 1, 1) := by decide +kernel
theorem dL_law_833 : decode cL_law 833 = .ok (.iload 9, 2) := by decide +kernel
theorem dL_law_835 : decode cL_law 835 = .ok (.iload 11, 2) := by decide +kernel
theorem dL_law_837 : decode cL_law 837 = .ok (.invokevirtual 43, 3) := by decide +kernel
theorem dL_law_840 : decode cL_law 840 = .ok (.ifCond .ge 5, 3) := by decide +kernel
theorem dL_law_843 : decode cL_law 843 = .ok (.iconst 0, 1) := by decide +kernel
theorem dL_law_844 : decode cL_law 844 = .ok (.ireturn, 1) := by decide +kernel
theorem dL_law_845 : decode cL_law 845 = .ok (.aload_n 1, 1) := by decide +kernel
theorem dL_law_846 : decode cL_law 846 = .ok (.iload 9, 2) := by decide +kernel
theorem dL_law_848 : decode cL_law 848 = .ok (.invokevirtual 46, 3) := by decide +kernel
theorem dL_law_851 : decode cL_law 851 = .ok (.ifCond .eq 61, 3) := by decide +kernel
theorem dL_law_854 : decode cL_law 854 = .ok (.aload_n 1, 1) := by decide +kernel
theorem dL_law_855 : decode cL_law 855 = .ok (.iload 9, 2) := by decide +kernel
theorem dL_law_857 : decode cL_law 857 = .ok (.iconst 0, 1) := by decide +kernel
theorem dL_law_858 : decode cL_law 858 = .ok (.invokevirtual 56, 3) := by decide +kernel
theorem dL_law_861 : decode cL_law 861 = .ok (.aload_n 1, 1) := by decide +kernel
theorem dL_law_862 : decode cL_law 862 = .ok (.iload 9, 2) := by decide +kernel
theorem dL_law_864 : decode cL_law 864 = .ok (.iconst 0, 1) := by decide +kernel
theorem dL_law_865 : decode cL_law 865 = .ok (.invokevirtual 60, 3) := by decide +kernel
theorem dL_law_868 : decode cL_law 868 = .ok (.if_icmp .ne 42, 3) := by decide +kernel
theorem dL_law_871 : decode cL_law 871 = .ok (.aload_n 1, 1) := by decide +kernel
theorem dL_law_872 : decode cL_law 872 = .ok (.iload 9, 2) := by decide +kernel
theorem dL_law_874 : decode cL_law 874 = .ok (.iconst 1, 1) := by decide +kernel
theorem dL_law_875 : decode cL_law 875 = .ok (.invokevirtual 56, 3) := by decide +kernel
theorem dL_law_878 : decode cL_law 878 = .ok (.aload_n 1, 1) := by decide +kernel
theorem dL_law_879 : decode cL_law 879 = .ok (.iload 9, 2) := by decide +kernel
theorem dL_law_881 : decode cL_law 881 = .ok (.iconst 1, 1) := by decide +kernel
theorem dL_law_882 : decode cL_law 882 = .ok (.invokevirtual 60, 3) := by decide +kernel
theorem dL_law_885 : decode cL_law 885 = .ok (.if_icmp .ne 25, 3) := by decide +kernel
theorem dL_law_888 : decode cL_law 888 = .ok (.aload_n 1, 1) := by decide +kernel
theorem dL_law_889 : decode cL_law 889 = .ok (.iload 9, 2) := by decide +kernel
theorem dL_law_891 : decode cL_law 891 = .ok (.aload_n 1, 1) := by decide +kernel
theorem dL_law_892 : decode cL_law 892 = .ok (.iload 9, 2) := by decide +kernel
theorem dL_law_894 : decode cL_law 894 = .ok (.iconst 1, 1) := by decide +kernel
theorem dL_law_895 : decode cL_law 895 = .ok (.invokevirtual 56, 3) := by decide +kernel
theorem dL_law_898 : decode cL_law 898 = .ok (.invokevirtual 43, 3) := by decide +kernel
theorem dL_law_901 : decode cL_law 901 = .ok (.aload_n 1, 1) := by decide +kernel
theorem dL_law_902 : decode cL_law 902 = .ok (.iload 9, 2) := by decide +kernel
theorem dL_law_904 : decode cL_law 904 = .ok (.invokevirtual 53, 3) := by decide +kernel
theorem dL_law_907 : decode cL_law 907 = .ok (.if_icmp .eq 5, 3) := by decide +kernel
theorem dL_law_910 : decode cL_law 910 = .ok (.iconst 0, 1) := by decide +kernel
theorem dL_law_911 : decode cL_law 911 = .ok (.ireturn, 1) := by decide +kernel
theorem dL_law_912 : decode cL_law 912 = .ok (.aload_n 1, 1) := by decide +kernel
theorem dL_law_913 : decode cL_law 913 = .ok (.invokevirtual 91, 3) := by decide +kernel
theorem dL_law_916 : decode cL_law 916 = .ok (.aload_n 1, 1) := by decide +kernel
theorem dL_law_917 : decode cL_law 917 = .ok (.invokevirtual 101, 3) := by decide +kernel
theorem dL_law_920 : decode cL_law 920 = .ok (.if_icmp .ne 20, 3) := by decide +kernel
theorem dL_law_923 : decode cL_law 923 = .ok (.iload 4, 2) := by decide +kernel
theorem dL_law_925 : decode cL_law 925 = .ok (.bipush 16, 2) := by decide +kernel
theorem dL_law_927 : decode cL_law 927 = .ok (.irem, 1) := by decide +kernel
theorem dL_law_928 : decode cL_law 928 = .ok (.ifCond .ne 14, 3) := by decide +kernel
theorem dL_law_931 : decode cL_law 931 = .ok (.aload_n 1, 1) := by decide +kernel
theorem dL_law_932 : decode cL_law 932 = .ok (.iload_n 2, 1) := by decide +kernel
theorem dL_law_933 : decode cL_law 933 = .ok (.iload_n 3, 1) := by decide +kernel
theorem dL_law_934 : decode cL_law 934 = .ok (.invokestatic 105, 3) := by decide +kernel
theorem dL_law_937 : decode cL_law 937 = .ok (.ifCond .ne 5, 3) := by decide +kernel
theorem dL_law_940 : decode cL_law 940 = .ok (.iconst 0, 1) := by decide +kernel
theorem dL_law_941 : decode cL_law 941 = .ok (.ireturn, 1) := by decide +kernel
theorem dL_law_942 : decode cL_law 942 = .ok (.iinc 4 1, 3) := by decide +kernel
theorem dL_law_945 : decode cL_law 945 = .ok (.goto (-922), 3) := by decide +kernel
theorem dL_law_948 : decode cL_law 948 = .ok (.iconst 1, 1) := by decide +kernel
theorem dL_law_949 : decode cL_law 949 = .ok (.ireturn, 1) := by decide +kernel
abbrev vwCl : List vw_C := [(RX0, TX0, 12)]
